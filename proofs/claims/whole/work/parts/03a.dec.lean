theorem dX0_init_0 : decode cX0_init 0 = .ok (.aload_n 0, 1) := by decide +kernel
theorem dX0_init_1 : decode cX0_init 1 = .ok (.invokespecial 3, 3) := by decide +kernel
theorem dX0_init_4 : decode cX0_init 4 = .ok (.aload_n 0, 1) := by decide +kernel
theorem dX0_init_5 : decode cX0_init 5 = .ok (.bipush 41, 2) := by decide +kernel
theorem dX0_init_7 : decode cX0_init 7 = .ok (.newarray .int, 2) := by decide +kernel
theorem dX0_init_9 : decode cX0_init 9 = .ok (.putfield 9, 3) := by decide +kernel
theorem dX0_init_12 : decode cX0_init 12 = .ok (.aload_n 0, 1) := by decide +kernel
theorem dX0_init_13 : decode cX0_init 13 = .ok (.bipush 24, 2) := by decide +kernel
theorem dX0_init_15 : decode cX0_init 15 = .ok (.newarray .int, 2) := by decide +kernel
theorem dX0_init_17 : decode cX0_init 17 = .ok (.putfield 15, 3) := by decide +kernel
theorem dX0_init_20 : decode cX0_init 20 = .ok (.aload_n 0, 1) := by decide +kernel
theorem dX0_init_21 : decode cX0_init 21 = .ok (.iconst 4, 1) := by decide +kernel
theorem dX0_init_22 : decode cX0_init 22 = .ok (.newarray .int, 2) := by decide +kernel
theorem dX0_init_24 : decode cX0_init 24 = .ok (.putfield 18, 3) := by decide +kernel
theorem dX0_init_27 : decode cX0_init 27 = .ok (.aload_n 0, 1) := by decide +kernel
theorem dX0_init_28 : decode cX0_init 28 = .ok (.bipush 6, 2) := by decide +kernel
theorem dX0_init_30 : decode cX0_init 30 = .ok (.newarray .int, 2) := by decide +kernel
theorem dX0_init_32 : decode cX0_init 32 = .ok (.putfield 21, 3) := by decide +kernel
theorem dX0_init_35 : decode cX0_init 35 = .ok (.aload_n 0, 1) := by decide +kernel
theorem dX0_init_36 : decode cX0_init 36 = .ok (.bipush 6, 2) := by decide +kernel
theorem dX0_init_38 : decode cX0_init 38 = .ok (.newarray .int, 2) := by decide +kernel
theorem dX0_init_40 : decode cX0_init 40 = .ok (.putfield 24, 3) := by decide +kernel
theorem dX0_init_43 : decode cX0_init 43 = .ok (.aload_n 0, 1) := by decide +kernel
theorem dX0_init_44 : decode cX0_init 44 = .ok (.aload_n 1, 1) := by decide +kernel
theorem dX0_init_45 : decode cX0_init 45 = .ok (.putfield 27, 3) := by decide +kernel
theorem dX0_init_48 : decode cX0_init 48 = .ok (.return_, 1) := by decide +kernel
theorem dX0_reachingRings_0 : decode cX0_reachingRings 0 = .ok (.iconst 0, 1) := by decide +kernel
theorem dX0_reachingRings_1 : decode cX0_reachingRings 1 = .ok (.istore_n 3, 1) := by decide +kernel
theorem dX0_reachingRings_2 : decode cX0_reachingRings 2 = .ok (.iconst 1, 1) := by decide +kernel
theorem dX0_reachingRings_3 : decode cX0_reachingRings 3 = .ok (.istore 4, 2) := by decide +kernel
theorem dX0_reachingRings_5 : decode cX0_reachingRings 5 = .ok (.iload 4, 2) := by decide +kernel
theorem dX0_reachingRings_7 : decode cX0_reachingRings 7 = .ok (.bipush 9, 2) := by decide +kernel
theorem dX0_reachingRings_9 : decode cX0_reachingRings 9 = .ok (.if_icmp .gt 37, 3) := by decide +kernel
theorem dX0_reachingRings_12 : decode cX0_reachingRings 12 = .ok (.aload_n 0, 1) := by decide +kernel
theorem dX0_reachingRings_13 : decode cX0_reachingRings 13 = .ok (.getfield 27, 3) := by decide +kernel
theorem dX0_reachingRings_16 : decode cX0_reachingRings 16 = .ok (.iload_n 1, 1) := by decide +kernel
theorem dX0_reachingRings_17 : decode cX0_reachingRings 17 = .ok (.iload_n 2, 1) := by decide +kernel
theorem dX0_reachingRings_18 : decode cX0_reachingRings 18 = .ok (.iload 4, 2) := by decide +kernel
theorem dX0_reachingRings_20 : decode cX0_reachingRings 20 = .ok (.aload_n 0, 1) := by decide +kernel
theorem dX0_reachingRings_21 : decode cX0_reachingRings 21 = .ok (.getfield 27, 3) := by decide +kernel
theorem dX0_reachingRings_24 : decode cX0_reachingRings 24 = .ok (.getfield 31, 3) := by decide +kernel
theorem dX0_reachingRings_27 : decode cX0_reachingRings 27 = .ok (.invokevirtual 37, 3) := by decide +kernel
theorem dX0_reachingRings_30 : decode cX0_reachingRings 30 = .ok (.ifCond .eq 10, 3) := by decide +kernel
theorem dX0_reachingRings_33 : decode cX0_reachingRings 33 = .ok (.iload_n 3, 1) := by decide +kernel
theorem dX0_reachingRings_34 : decode cX0_reachingRings 34 = .ok (.iconst 1, 1) := by decide +kernel
theorem dX0_reachingRings_35 : decode cX0_reachingRings 35 = .ok (.iload 4, 2) := by decide +kernel
theorem dX0_reachingRings_37 : decode cX0_reachingRings 37 = .ok (.ishl, 1) := by decide +kernel
theorem dX0_reachingRings_38 : decode cX0_reachingRings 38 = .ok (.ior, 1) := by decide +kernel
theorem dX0_reachingRings_39 : decode cX0_reachingRings 39 = .ok (.istore_n 3, 1) := by decide +kernel
theorem dX0_reachingRings_40 : decode cX0_reachingRings 40 = .ok (.iinc 4 1, 3) := by decide +kernel
theorem dX0_reachingRings_43 : decode cX0_reachingRings 43 = .ok (.goto (-38), 3) := by decide +kernel
theorem dX0_reachingRings_46 : decode cX0_reachingRings 46 = .ok (.iload_n 3, 1) := by decide +kernel
theorem dX0_reachingRings_47 : decode cX0_reachingRings 47 = .ok (.ireturn, 1) := by decide +kernel
theorem dX0_priceToTurn_0 : decode cX0_priceToTurn 0 = .ok (.bipush 40, 2) := by decide +kernel
theorem dX0_priceToTurn_2 : decode cX0_priceToTurn 2 = .ok (.aload_n 0, 1) := by decide +kernel
theorem dX0_priceToTurn_3 : decode cX0_priceToTurn 3 = .ok (.getfield 27, 3) := by decide +kernel
theorem dX0_priceToTurn_6 : decode cX0_priceToTurn 6 = .ok (.iload_n 1, 1) := by decide +kernel
theorem dX0_priceToTurn_7 : decode cX0_priceToTurn 7 = .ok (.invokevirtual 41, 3) := by decide +kernel
theorem dX0_priceToTurn_10 : decode cX0_priceToTurn 10 = .ok (.invokestatic 45, 3) := by decide +kernel
theorem dX0_priceToTurn_13 : decode cX0_priceToTurn 13 = .ok (.istore 4, 2) := by decide +kernel
theorem dX0_priceToTurn_15 : decode cX0_priceToTurn 15 = .ok (.iload 4, 2) := by decide +kernel
theorem dX0_priceToTurn_17 : decode cX0_priceToTurn 17 = .ok (.ifCond .gt 5, 3) := by decide +kernel
theorem dX0_priceToTurn_20 : decode cX0_priceToTurn 20 = .ok (.iconst 0, 1) := by decide +kernel
theorem dX0_priceToTurn_21 : decode cX0_priceToTurn 21 = .ok (.ireturn, 1) := by decide +kernel
theorem dX0_priceToTurn_22 : decode cX0_priceToTurn 22 = .ok (.iconst 0, 1) := by decide +kernel
theorem dX0_priceToTurn_23 : decode cX0_priceToTurn 23 = .ok (.istore 5, 2) := by decide +kernel
theorem dX0_priceToTurn_25 : decode cX0_priceToTurn 25 = .ok (.iload 5, 2) := by decide +kernel
theorem dX0_priceToTurn_27 : decode cX0_priceToTurn 27 = .ok (.aload_n 0, 1) := by decide +kernel
theorem dX0_priceToTurn_28 : decode cX0_priceToTurn 28 = .ok (.getfield 9, 3) := by decide +kernel
theorem dX0_priceToTurn_31 : decode cX0_priceToTurn 31 = .ok (.arraylength, 1) := by decide +kernel
theorem dX0_priceToTurn_32 : decode cX0_priceToTurn 32 = .ok (.if_icmp .ge 27, 3) := by decide +kernel
theorem dX0_priceToTurn_35 : decode cX0_priceToTurn 35 = .ok (.aload_n 0, 1) := by decide +kernel
theorem dX0_priceToTurn_36 : decode cX0_priceToTurn 36 = .ok (.getfield 9, 3) := by decide +kernel
theorem dX0_priceToTurn_39 : decode cX0_priceToTurn 39 = .ok (.iload 5, 2) := by decide +kernel
theorem dX0_priceToTurn_41 : decode cX0_priceToTurn 41 = .ok (.iload 5, 2) := by decide +kernel
theorem dX0_priceToTurn_43 : decode cX0_priceToTurn 43 = .ok (.ifCond .ne 7, 3) := by decide +kernel
theorem dX0_priceToTurn_46 : decode cX0_priceToTurn 46 = .ok (.iconst 0, 1) := by decide +kernel
theorem dX0_priceToTurn_47 : decode cX0_priceToTurn 47 = .ok (.goto 5, 3) := by decide +kernel
theorem dX0_priceToTurn_50 : decode cX0_priceToTurn 50 = .ok (.ldc 51, 2) := by decide +kernel
theorem dX0_priceToTurn_52 : decode cX0_priceToTurn 52 = .ok (.iastore, 1) := by decide +kernel
theorem dX0_priceToTurn_53 : decode cX0_priceToTurn 53 = .ok (.iinc 5 1, 3) := by decide +kernel
theorem dX0_priceToTurn_56 : decode cX0_priceToTurn 56 = .ok (.goto (-31), 3) := by decide +kernel
theorem dX0_priceToTurn_59 : decode cX0_priceToTurn 59 = .ok (.iconst 1, 1) := by decide +kernel
theorem dX0_priceToTurn_60 : decode cX0_priceToTurn 60 = .ok (.istore 5, 2) := by decide +kernel
theorem dX0_priceToTurn_62 : decode cX0_priceToTurn 62 = .ok (.iload 5, 2) := by decide +kernel
theorem dX0_priceToTurn_64 : decode cX0_priceToTurn 64 = .ok (.bipush 9, 2) := by decide +kernel
theorem dX0_priceToTurn_66 : decode cX0_priceToTurn 66 = .ok (.if_icmp .gt 83, 3) := by decide +kernel
theorem dX0_priceToTurn_69 : decode cX0_priceToTurn 69 = .ok (.aload_n 0, 1) := by decide +kernel
theorem dX0_priceToTurn_70 : decode cX0_priceToTurn 70 = .ok (.getfield 27, 3) := by decide +kernel
theorem dX0_priceToTurn_73 : decode cX0_priceToTurn 73 = .ok (.iload_n 2, 1) := by decide +kernel
theorem dX0_priceToTurn_74 : decode cX0_priceToTurn 74 = .ok (.iload_n 1, 1) := by decide +kernel
theorem dX0_priceToTurn_75 : decode cX0_priceToTurn 75 = .ok (.iload 5, 2) := by decide +kernel
theorem dX0_priceToTurn_77 : decode cX0_priceToTurn 77 = .ok (.aload_n 0, 1) := by decide +kernel
theorem dX0_priceToTurn_78 : decode cX0_priceToTurn 78 = .ok (.getfield 27, 3) := by decide +kernel
theorem dX0_priceToTurn_81 : decode cX0_priceToTurn 81 = .ok (.getfield 31, 3) := by decide +kernel
theorem dX0_priceToTurn_84 : decode cX0_priceToTurn 84 = .ok (.invokevirtual 52, 3) := by decide +kernel
theorem dX0_priceToTurn_87 : decode cX0_priceToTurn 87 = .ok (.istore 6, 2) := by decide +kernel
theorem dX0_priceToTurn_89 : decode cX0_priceToTurn 89 = .ok (.iload 6, 2) := by decide +kernel
theorem dX0_priceToTurn_91 : decode cX0_priceToTurn 91 = .ok (.ifCond .gt 7, 3) := by decide +kernel
theorem dX0_priceToTurn_94 : decode cX0_priceToTurn 94 = .ok (.iconst 0, 1) := by decide +kernel
theorem dX0_priceToTurn_95 : decode cX0_priceToTurn 95 = .ok (.goto 18, 3) := by decide +kernel
theorem dX0_priceToTurn_98 : decode cX0_priceToTurn 98 = .ok (.iload 4, 2) := by decide +kernel
theorem dX0_priceToTurn_100 : decode cX0_priceToTurn 100 = .ok (.aload_n 0, 1) := by decide +kernel
theorem dX0_priceToTurn_101 : decode cX0_priceToTurn 101 = .ok (.getfield 27, 3) := by decide +kernel
theorem dX0_priceToTurn_104 : decode cX0_priceToTurn 104 = .ok (.iload_n 3, 1) := by decide +kernel
theorem dX0_priceToTurn_105 : decode cX0_priceToTurn 105 = .ok (.iload 5, 2) := by decide +kernel
theorem dX0_priceToTurn_107 : decode cX0_priceToTurn 107 = .ok (.invokevirtual 56, 3) := by decide +kernel
theorem dX0_priceToTurn_110 : decode cX0_priceToTurn 110 = .ok (.invokestatic 45, 3) := by decide +kernel
theorem dX0_priceToTurn_113 : decode cX0_priceToTurn 113 = .ok (.istore 7, 2) := by decide +kernel
theorem dX0_priceToTurn_115 : decode cX0_priceToTurn 115 = .ok (.iconst 0, 1) := by decide +kernel
theorem dX0_priceToTurn_116 : decode cX0_priceToTurn 116 = .ok (.istore 8, 2) := by decide +kernel
theorem dX0_priceToTurn_118 : decode cX0_priceToTurn 118 = .ok (.iload 8, 2) := by decide +kernel
theorem dX0_priceToTurn_120 : decode cX0_priceToTurn 120 = .ok (.iload 7, 2) := by decide +kernel
theorem dX0_priceToTurn_122 : decode cX0_priceToTurn 122 = .ok (.if_icmp .ge 21, 3) := by decide +kernel
theorem dX0_priceToTurn_125 : decode cX0_priceToTurn 125 = .ok (.aload_n 0, 1) := by decide +kernel
theorem dX0_priceToTurn_126 : decode cX0_priceToTurn 126 = .ok (.iload 6, 2) := by decide +kernel
theorem dX0_priceToTurn_128 : decode cX0_priceToTurn 128 = .ok (.sipush 1000, 3) := by decide +kernel
theorem dX0_priceToTurn_131 : decode cX0_priceToTurn 131 = .ok (.iload 5, 2) := by decide +kernel
theorem dX0_priceToTurn_133 : decode cX0_priceToTurn 133 = .ok (.iadd, 1) := by decide +kernel
theorem dX0_priceToTurn_134 : decode cX0_priceToTurn 134 = .ok (.invokevirtual 59, 3) := by decide +kernel
theorem dX0_priceToTurn_137 : decode cX0_priceToTurn 137 = .ok (.iinc 8 1, 3) := by decide +kernel
theorem dX0_priceToTurn_140 : decode cX0_priceToTurn 140 = .ok (.goto (-22), 3) := by decide +kernel
theorem dX0_priceToTurn_143 : decode cX0_priceToTurn 143 = .ok (.iinc 5 1, 3) := by decide +kernel
theorem dX0_priceToTurn_146 : decode cX0_priceToTurn 146 = .ok (.goto (-84), 3) := by decide +kernel
theorem dX0_priceToTurn_149 : decode cX0_priceToTurn 149 = .ok (.iload 4, 2) := by decide +kernel
theorem dX0_priceToTurn_151 : decode cX0_priceToTurn 151 = .ok (.aload_n 0, 1) := by decide +kernel
theorem dX0_priceToTurn_152 : decode cX0_priceToTurn 152 = .ok (.getfield 9, 3) := by decide +kernel
theorem dX0_priceToTurn_155 : decode cX0_priceToTurn 155 = .ok (.arraylength, 1) := by decide +kernel
theorem dX0_priceToTurn_156 : decode cX0_priceToTurn 156 = .ok (.if_icmp .ge 13, 3) := by decide +kernel
theorem dX0_priceToTurn_159 : decode cX0_priceToTurn 159 = .ok (.aload_n 0, 1) := by decide +kernel
theorem dX0_priceToTurn_160 : decode cX0_priceToTurn 160 = .ok (.getfield 9, 3) := by decide +kernel
theorem dX0_priceToTurn_163 : decode cX0_priceToTurn 163 = .ok (.iload 4, 2) := by decide +kernel
theorem dX0_priceToTurn_165 : decode cX0_priceToTurn 165 = .ok (.iaload, 1) := by decide +kernel
theorem dX0_priceToTurn_166 : decode cX0_priceToTurn 166 = .ok (.goto 5, 3) := by decide +kernel
theorem dX0_priceToTurn_169 : decode cX0_priceToTurn 169 = .ok (.ldc 51, 2) := by decide +kernel
theorem dX0_priceToTurn_171 : decode cX0_priceToTurn 171 = .ok (.istore 5, 2) := by decide +kernel
theorem dX0_priceToTurn_173 : decode cX0_priceToTurn 173 = .ok (.iload 5, 2) := by decide +kernel
theorem dX0_priceToTurn_175 : decode cX0_priceToTurn 175 = .ok (.ldc 51, 2) := by decide +kernel
theorem dX0_priceToTurn_177 : decode cX0_priceToTurn 177 = .ok (.if_icmp .ge 8, 3) := by decide +kernel
theorem dX0_priceToTurn_180 : decode cX0_priceToTurn 180 = .ok (.iload 5, 2) := by decide +kernel
theorem dX0_priceToTurn_182 : decode cX0_priceToTurn 182 = .ok (.goto 4, 3) := by decide +kernel
theorem dX0_priceToTurn_185 : decode cX0_priceToTurn 185 = .ok (.iconst (-1), 1) := by decide +kernel
theorem dX0_priceToTurn_186 : decode cX0_priceToTurn 186 = .ok (.ireturn, 1) := by decide +kernel
theorem dX0_offerStone_0 : decode cX0_offerStone 0 = .ok (.aload_n 0, 1) := by decide +kernel
theorem dX0_offerStone_1 : decode cX0_offerStone 1 = .ok (.getfield 9, 3) := by decide +kernel
theorem dX0_offerStone_4 : decode cX0_offerStone 4 = .ok (.arraylength, 1) := by decide +kernel
theorem dX0_offerStone_5 : decode cX0_offerStone 5 = .ok (.iconst 1, 1) := by decide +kernel
theorem dX0_offerStone_6 : decode cX0_offerStone 6 = .ok (.isub, 1) := by decide +kernel
theorem dX0_offerStone_7 : decode cX0_offerStone 7 = .ok (.istore_n 3, 1) := by decide +kernel
theorem dX0_offerStone_8 : decode cX0_offerStone 8 = .ok (.iload_n 3, 1) := by decide +kernel
theorem dX0_offerStone_9 : decode cX0_offerStone 9 = .ok (.iconst 1, 1) := by decide +kernel
theorem dX0_offerStone_10 : decode cX0_offerStone 10 = .ok (.if_icmp .lt 61, 3) := by decide +kernel
theorem dX0_offerStone_13 : decode cX0_offerStone 13 = .ok (.iconst 0, 1) := by decide +kernel
theorem dX0_offerStone_14 : decode cX0_offerStone 14 = .ok (.iload_n 3, 1) := by decide +kernel
theorem dX0_offerStone_15 : decode cX0_offerStone 15 = .ok (.iload_n 1, 1) := by decide +kernel
theorem dX0_offerStone_16 : decode cX0_offerStone 16 = .ok (.isub, 1) := by decide +kernel
theorem dX0_offerStone_17 : decode cX0_offerStone 17 = .ok (.invokestatic 63, 3) := by decide +kernel
theorem dX0_offerStone_20 : decode cX0_offerStone 20 = .ok (.istore 4, 2) := by decide +kernel
theorem dX0_offerStone_22 : decode cX0_offerStone 22 = .ok (.iload 4, 2) := by decide +kernel
theorem dX0_offerStone_24 : decode cX0_offerStone 24 = .ok (.aload_n 0, 1) := by decide +kernel
theorem dX0_offerStone_25 : decode cX0_offerStone 25 = .ok (.getfield 9, 3) := by decide +kernel
theorem dX0_offerStone_28 : decode cX0_offerStone 28 = .ok (.arraylength, 1) := by decide +kernel
theorem dX0_offerStone_29 : decode cX0_offerStone 29 = .ok (.if_icmp .ge 36, 3) := by decide +kernel
theorem dX0_offerStone_32 : decode cX0_offerStone 32 = .ok (.aload_n 0, 1) := by decide +kernel
theorem dX0_offerStone_33 : decode cX0_offerStone 33 = .ok (.getfield 9, 3) := by decide +kernel
theorem dX0_offerStone_36 : decode cX0_offerStone 36 = .ok (.iload 4, 2) := by decide +kernel
theorem dX0_offerStone_38 : decode cX0_offerStone 38 = .ok (.iaload, 1) := by decide +kernel
theorem dX0_offerStone_39 : decode cX0_offerStone 39 = .ok (.iload_n 2, 1) := by decide +kernel
theorem dX0_offerStone_40 : decode cX0_offerStone 40 = .ok (.iadd, 1) := by decide +kernel
theorem dX0_offerStone_41 : decode cX0_offerStone 41 = .ok (.aload_n 0, 1) := by decide +kernel
theorem dX0_offerStone_42 : decode cX0_offerStone 42 = .ok (.getfield 9, 3) := by decide +kernel
theorem dX0_offerStone_45 : decode cX0_offerStone 45 = .ok (.iload_n 3, 1) := by decide +kernel
theorem dX0_offerStone_46 : decode cX0_offerStone 46 = .ok (.iaload, 1) := by decide +kernel
theorem dX0_offerStone_47 : decode cX0_offerStone 47 = .ok (.if_icmp .ge 18, 3) := by decide +kernel
theorem dX0_offerStone_50 : decode cX0_offerStone 50 = .ok (.aload_n 0, 1) := by decide +kernel
theorem dX0_offerStone_51 : decode cX0_offerStone 51 = .ok (.getfield 9, 3) := by decide +kernel
theorem dX0_offerStone_54 : decode cX0_offerStone 54 = .ok (.iload_n 3, 1) := by decide +kernel
theorem dX0_offerStone_55 : decode cX0_offerStone 55 = .ok (.aload_n 0, 1) := by decide +kernel
theorem dX0_offerStone_56 : decode cX0_offerStone 56 = .ok (.getfield 9, 3) := by decide +kernel
theorem dX0_offerStone_59 : decode cX0_offerStone 59 = .ok (.iload 4, 2) := by decide +kernel
theorem dX0_offerStone_61 : decode cX0_offerStone 61 = .ok (.iaload, 1) := by decide +kernel
theorem dX0_offerStone_62 : decode cX0_offerStone 62 = .ok (.iload_n 2, 1) := by decide +kernel
theorem dX0_offerStone_63 : decode cX0_offerStone 63 = .ok (.iadd, 1) := by decide +kernel
theorem dX0_offerStone_64 : decode cX0_offerStone 64 = .ok (.iastore, 1) := by decide +kernel
theorem dX0_offerStone_65 : decode cX0_offerStone 65 = .ok (.iinc 3 (-1), 3) := by decide +kernel
theorem dX0_offerStone_68 : decode cX0_offerStone 68 = .ok (.goto (-60), 3) := by decide +kernel
theorem dX0_offerStone_71 : decode cX0_offerStone 71 = .ok (.return_, 1) := by decide +kernel
theorem dX0_mostTurned_0 : decode cX0_mostTurned 0 = .ok (.aload_n 0, 1) := by decide +kernel
theorem dX0_mostTurned_1 : decode cX0_mostTurned 1 = .ok (.iload_n 1, 1) := by decide +kernel
theorem dX0_mostTurned_2 : decode cX0_mostTurned 2 = .ok (.invokevirtual 66, 3) := by decide +kernel
theorem dX0_mostTurned_5 : decode cX0_mostTurned 5 = .ok (.aload_n 0, 1) := by decide +kernel
theorem dX0_mostTurned_6 : decode cX0_mostTurned 6 = .ok (.invokevirtual 70, 3) := by decide +kernel
theorem dX0_mostTurned_9 : decode cX0_mostTurned 9 = .ok (.istore_n 2, 1) := by decide +kernel
theorem dX0_mostTurned_10 : decode cX0_mostTurned 10 = .ok (.iconst (-1), 1) := by decide +kernel
theorem dX0_mostTurned_11 : decode cX0_mostTurned 11 = .ok (.istore_n 3, 1) := by decide +kernel
theorem dX0_mostTurned_12 : decode cX0_mostTurned 12 = .ok (.iconst 1, 1) := by decide +kernel
theorem dX0_mostTurned_13 : decode cX0_mostTurned 13 = .ok (.istore 4, 2) := by decide +kernel
theorem dX0_mostTurned_15 : decode cX0_mostTurned 15 = .ok (.iconst 0, 1) := by decide +kernel
theorem dX0_mostTurned_16 : decode cX0_mostTurned 16 = .ok (.istore 5, 2) := by decide +kernel
theorem dX0_mostTurned_18 : decode cX0_mostTurned 18 = .ok (.iload 5, 2) := by decide +kernel
theorem dX0_mostTurned_20 : decode cX0_mostTurned 20 = .ok (.ldc 51, 2) := by decide +kernel
theorem dX0_mostTurned_22 : decode cX0_mostTurned 22 = .ok (.if_icmp .ge 66, 3) := by decide +kernel
theorem dX0_mostTurned_25 : decode cX0_mostTurned 25 = .ok (.iload 4, 2) := by decide +kernel
theorem dX0_mostTurned_27 : decode cX0_mostTurned 27 = .ok (.ifCond .eq 61, 3) := by decide +kernel
theorem dX0_mostTurned_30 : decode cX0_mostTurned 30 = .ok (.iload_n 3, 1) := by decide +kernel
theorem dX0_mostTurned_31 : decode cX0_mostTurned 31 = .ok (.iload_n 2, 1) := by decide +kernel
theorem dX0_mostTurned_32 : decode cX0_mostTurned 32 = .ok (.if_icmp .ge 56, 3) := by decide +kernel
theorem dX0_mostTurned_35 : decode cX0_mostTurned 35 = .ok (.aload_n 0, 1) := by decide +kernel
theorem dX0_mostTurned_36 : decode cX0_mostTurned 36 = .ok (.invokevirtual 74, 3) := by decide +kernel
theorem dX0_mostTurned_39 : decode cX0_mostTurned 39 = .ok (.istore 6, 2) := by decide +kernel
theorem dX0_mostTurned_41 : decode cX0_mostTurned 41 = .ok (.iload 6, 2) := by decide +kernel
theorem dX0_mostTurned_43 : decode cX0_mostTurned 43 = .ok (.iload_n 3, 1) := by decide +kernel
theorem dX0_mostTurned_44 : decode cX0_mostTurned 44 = .ok (.if_icmp .le 32, 3) := by decide +kernel
theorem dX0_mostTurned_47 : decode cX0_mostTurned 47 = .ok (.iload 6, 2) := by decide +kernel
theorem dX0_mostTurned_49 : decode cX0_mostTurned 49 = .ok (.istore_n 3, 1) := by decide +kernel
theorem dX0_mostTurned_50 : decode cX0_mostTurned 50 = .ok (.aload_n 0, 1) := by decide +kernel
theorem dX0_mostTurned_51 : decode cX0_mostTurned 51 = .ok (.getfield 21, 3) := by decide +kernel
theorem dX0_mostTurned_54 : decode cX0_mostTurned 54 = .ok (.iconst 0, 1) := by decide +kernel
theorem dX0_mostTurned_55 : decode cX0_mostTurned 55 = .ok (.aload_n 0, 1) := by decide +kernel
theorem dX0_mostTurned_56 : decode cX0_mostTurned 56 = .ok (.getfield 24, 3) := by decide +kernel
theorem dX0_mostTurned_59 : decode cX0_mostTurned 59 = .ok (.iconst 0, 1) := by decide +kernel
theorem dX0_mostTurned_60 : decode cX0_mostTurned 60 = .ok (.aload_n 0, 1) := by decide +kernel
theorem dX0_mostTurned_61 : decode cX0_mostTurned 61 = .ok (.getfield 21, 3) := by decide +kernel
theorem dX0_mostTurned_64 : decode cX0_mostTurned 64 = .ok (.arraylength, 1) := by decide +kernel
theorem dX0_mostTurned_65 : decode cX0_mostTurned 65 = .ok (.aload_n 0, 1) := by decide +kernel
theorem dX0_mostTurned_66 : decode cX0_mostTurned 66 = .ok (.getfield 24, 3) := by decide +kernel
theorem dX0_mostTurned_69 : decode cX0_mostTurned 69 = .ok (.arraylength, 1) := by decide +kernel
theorem dX0_mostTurned_70 : decode cX0_mostTurned 70 = .ok (.invokestatic 45, 3) := by decide +kernel
theorem dX0_mostTurned_73 : decode cX0_mostTurned 73 = .ok (.invokestatic 77, 3) := by decide +kernel
theorem dX0_mostTurned_76 : decode cX0_mostTurned 76 = .ok (.aload_n 0, 1) := by decide +kernel
theorem dX0_mostTurned_77 : decode cX0_mostTurned 77 = .ok (.invokevirtual 83, 3) := by decide +kernel
theorem dX0_mostTurned_80 : decode cX0_mostTurned 80 = .ok (.istore 4, 2) := by decide +kernel
theorem dX0_mostTurned_82 : decode cX0_mostTurned 82 = .ok (.iinc 5 1, 3) := by decide +kernel
theorem dX0_mostTurned_85 : decode cX0_mostTurned 85 = .ok (.goto (-67), 3) := by decide +kernel
theorem dX0_mostTurned_88 : decode cX0_mostTurned 88 = .ok (.iload_n 3, 1) := by decide +kernel
theorem dX0_mostTurned_89 : decode cX0_mostTurned 89 = .ok (.ireturn, 1) := by decide +kernel
theorem dX0_givenCloud_0 : decode cX0_givenCloud 0 = .ok (.iload_n 1, 1) := by decide +kernel
theorem dX0_givenCloud_1 : decode cX0_givenCloud 1 = .ok (.ifCond .lt 21, 3) := by decide +kernel
theorem dX0_givenCloud_4 : decode cX0_givenCloud 4 = .ok (.iload_n 1, 1) := by decide +kernel
theorem dX0_givenCloud_5 : decode cX0_givenCloud 5 = .ok (.aload_n 0, 1) := by decide +kernel
theorem dX0_givenCloud_6 : decode cX0_givenCloud 6 = .ok (.getfield 24, 3) := by decide +kernel
theorem dX0_givenCloud_9 : decode cX0_givenCloud 9 = .ok (.arraylength, 1) := by decide +kernel
theorem dX0_givenCloud_10 : decode cX0_givenCloud 10 = .ok (.if_icmp .ge 12, 3) := by decide +kernel
theorem dX0_givenCloud_13 : decode cX0_givenCloud 13 = .ok (.aload_n 0, 1) := by decide +kernel
theorem dX0_givenCloud_14 : decode cX0_givenCloud 14 = .ok (.getfield 24, 3) := by decide +kernel
theorem dX0_givenCloud_17 : decode cX0_givenCloud 17 = .ok (.iload_n 1, 1) := by decide +kernel
theorem dX0_givenCloud_18 : decode cX0_givenCloud 18 = .ok (.iaload, 1) := by decide +kernel
theorem dX0_givenCloud_19 : decode cX0_givenCloud 19 = .ok (.goto 4, 3) := by decide +kernel
theorem dX0_givenCloud_22 : decode cX0_givenCloud 22 = .ok (.iconst (-1), 1) := by decide +kernel
theorem dX0_givenCloud_23 : decode cX0_givenCloud 23 = .ok (.ireturn, 1) := by decide +kernel
theorem dX0_startWays_0 : decode cX0_startWays 0 = .ok (.iconst 0, 1) := by decide +kernel
theorem dX0_startWays_1 : decode cX0_startWays 1 = .ok (.istore_n 2, 1) := by decide +kernel
theorem dX0_startWays_2 : decode cX0_startWays 2 = .ok (.iload_n 2, 1) := by decide +kernel
theorem dX0_startWays_3 : decode cX0_startWays 3 = .ok (.aload_n 0, 1) := by decide +kernel
theorem dX0_startWays_4 : decode cX0_startWays 4 = .ok (.getfield 18, 3) := by decide +kernel
theorem dX0_startWays_7 : decode cX0_startWays 7 = .ok (.arraylength, 1) := by decide +kernel
theorem dX0_startWays_8 : decode cX0_startWays 8 = .ok (.if_icmp .ge 23, 3) := by decide +kernel
theorem dX0_startWays_11 : decode cX0_startWays 11 = .ok (.aload_n 0, 1) := by decide +kernel
theorem dX0_startWays_12 : decode cX0_startWays 12 = .ok (.getfield 18, 3) := by decide +kernel
theorem dX0_startWays_15 : decode cX0_startWays 15 = .ok (.iload_n 2, 1) := by decide +kernel
theorem dX0_startWays_16 : decode cX0_startWays 16 = .ok (.aload_n 0, 1) := by decide +kernel
theorem dX0_startWays_17 : decode cX0_startWays 17 = .ok (.getfield 27, 3) := by decide +kernel
theorem dX0_startWays_20 : decode cX0_startWays 20 = .ok (.iload_n 2, 1) := by decide +kernel
theorem dX0_startWays_21 : decode cX0_startWays 21 = .ok (.invokevirtual 41, 3) := by decide +kernel
theorem dX0_startWays_24 : decode cX0_startWays 24 = .ok (.iastore, 1) := by decide +kernel
theorem dX0_startWays_25 : decode cX0_startWays 25 = .ok (.iinc 2 1, 3) := by decide +kernel
theorem dX0_startWays_28 : decode cX0_startWays 28 = .ok (.goto (-26), 3) := by decide +kernel
theorem dX0_startWays_31 : decode cX0_startWays 31 = .ok (.iconst 0, 1) := by decide +kernel
theorem dX0_startWays_32 : decode cX0_startWays 32 = .ok (.istore_n 2, 1) := by decide +kernel
theorem dX0_startWays_33 : decode cX0_startWays 33 = .ok (.iload_n 2, 1) := by decide +kernel
theorem dX0_startWays_34 : decode cX0_startWays 34 = .ok (.aload_n 0, 1) := by decide +kernel
theorem dX0_startWays_35 : decode cX0_startWays 35 = .ok (.getfield 27, 3) := by decide +kernel
theorem dX0_startWays_38 : decode cX0_startWays 38 = .ok (.getfield 87, 3) := by decide +kernel
theorem dX0_startWays_41 : decode cX0_startWays 41 = .ok (.getfield 91, 3) := by decide +kernel
theorem dX0_startWays_44 : decode cX0_startWays 44 = .ok (.if_icmp .ge 71, 3) := by decide +kernel
theorem dX0_startWays_47 : decode cX0_startWays 47 = .ok (.iload_n 2, 1) := by decide +kernel
theorem dX0_startWays_48 : decode cX0_startWays 48 = .ok (.aload_n 0, 1) := by decide +kernel
theorem dX0_startWays_49 : decode cX0_startWays 49 = .ok (.getfield 21, 3) := by decide +kernel
theorem dX0_startWays_52 : decode cX0_startWays 52 = .ok (.arraylength, 1) := by decide +kernel
theorem dX0_startWays_53 : decode cX0_startWays 53 = .ok (.if_icmp .ge 62, 3) := by decide +kernel
theorem dX0_startWays_56 : decode cX0_startWays 56 = .ok (.iconst 0, 1) := by decide +kernel
theorem dX0_startWays_57 : decode cX0_startWays 57 = .ok (.istore_n 3, 1) := by decide +kernel
theorem dX0_startWays_58 : decode cX0_startWays 58 = .ok (.iload_n 3, 1) := by decide +kernel
theorem dX0_startWays_59 : decode cX0_startWays 59 = .ok (.aload_n 0, 1) := by decide +kernel
theorem dX0_startWays_60 : decode cX0_startWays 60 = .ok (.getfield 27, 3) := by decide +kernel
theorem dX0_startWays_63 : decode cX0_startWays 63 = .ok (.getfield 96, 3) := by decide +kernel
theorem dX0_startWays_66 : decode cX0_startWays 66 = .ok (.getfield 91, 3) := by decide +kernel
theorem dX0_startWays_69 : decode cX0_startWays 69 = .ok (.if_icmp .ge 22, 3) := by decide +kernel
theorem dX0_startWays_72 : decode cX0_startWays 72 = .ok (.aload_n 0, 1) := by decide +kernel
theorem dX0_startWays_73 : decode cX0_startWays 73 = .ok (.iload_n 2, 1) := by decide +kernel
theorem dX0_startWays_74 : decode cX0_startWays 74 = .ok (.iload_n 3, 1) := by decide +kernel
theorem dX0_startWays_75 : decode cX0_startWays 75 = .ok (.aload_n 0, 1) := by decide +kernel
theorem dX0_startWays_76 : decode cX0_startWays 76 = .ok (.iload_n 2, 1) := by decide +kernel
theorem dX0_startWays_77 : decode cX0_startWays 77 = .ok (.iload_n 3, 1) := by decide +kernel
theorem dX0_startWays_78 : decode cX0_startWays 78 = .ok (.iload_n 1, 1) := by decide +kernel
theorem dX0_startWays_79 : decode cX0_startWays 79 = .ok (.invokevirtual 99, 3) := by decide +kernel
theorem dX0_startWays_82 : decode cX0_startWays 82 = .ok (.invokevirtual 103, 3) := by decide +kernel
theorem dX0_startWays_85 : decode cX0_startWays 85 = .ok (.iinc 3 1, 3) := by decide +kernel
theorem dX0_startWays_88 : decode cX0_startWays 88 = .ok (.goto (-30), 3) := by decide +kernel
theorem dX0_startWays_91 : decode cX0_startWays 91 = .ok (.aload_n 0, 1) := by decide +kernel
theorem dX0_startWays_92 : decode cX0_startWays 92 = .ok (.getfield 21, 3) := by decide +kernel
theorem dX0_startWays_95 : decode cX0_startWays 95 = .ok (.iload_n 2, 1) := by decide +kernel
theorem dX0_startWays_96 : decode cX0_startWays 96 = .ok (.iconst 0, 1) := by decide +kernel
theorem dX0_startWays_97 : decode cX0_startWays 97 = .ok (.iastore, 1) := by decide +kernel
theorem dX0_startWays_98 : decode cX0_startWays 98 = .ok (.aload_n 0, 1) := by decide +kernel
theorem dX0_startWays_99 : decode cX0_startWays 99 = .ok (.iconst 0, 1) := by decide +kernel
theorem dX0_startWays_100 : decode cX0_startWays 100 = .ok (.aload_n 0, 1) := by decide +kernel
theorem dX0_startWays_101 : decode cX0_startWays 101 = .ok (.iload_n 2, 1) := by decide +kernel
theorem dX0_startWays_102 : decode cX0_startWays 102 = .ok (.iconst 0, 1) := by decide +kernel
theorem dX0_startWays_103 : decode cX0_startWays 103 = .ok (.invokevirtual 107, 3) := by decide +kernel
theorem dX0_startWays_106 : decode cX0_startWays 106 = .ok (.invokevirtual 110, 3) := by decide +kernel
theorem dX0_startWays_109 : decode cX0_startWays 109 = .ok (.iinc 2 1, 3) := by decide +kernel
theorem dX0_startWays_112 : decode cX0_startWays 112 = .ok (.goto (-79), 3) := by decide +kernel
theorem dX0_startWays_115 : decode cX0_startWays 115 = .ok (.return_, 1) := by decide +kernel
theorem dX0_hitsUntilHere_0 : decode cX0_hitsUntilHere 0 = .ok (.aload_n 0, 1) := by decide +kernel
theorem dX0_hitsUntilHere_1 : decode cX0_hitsUntilHere 1 = .ok (.getfield 27, 3) := by decide +kernel
theorem dX0_hitsUntilHere_4 : decode cX0_hitsUntilHere 4 = .ok (.iload_n 1, 1) := by decide +kernel
theorem dX0_hitsUntilHere_5 : decode cX0_hitsUntilHere 5 = .ok (.iload_n 3, 1) := by decide +kernel
theorem dX0_hitsUntilHere_6 : decode cX0_hitsUntilHere 6 = .ok (.invokevirtual 113, 3) := by decide +kernel
theorem dX0_hitsUntilHere_9 : decode cX0_hitsUntilHere 9 = .ok (.aload_n 0, 1) := by decide +kernel
theorem dX0_hitsUntilHere_10 : decode cX0_hitsUntilHere 10 = .ok (.getfield 27, 3) := by decide +kernel
theorem dX0_hitsUntilHere_13 : decode cX0_hitsUntilHere 13 = .ok (.getfield 96, 3) := by decide +kernel
theorem dX0_hitsUntilHere_16 : decode cX0_hitsUntilHere 16 = .ok (.iload_n 2, 1) := by decide +kernel
theorem dX0_hitsUntilHere_17 : decode cX0_hitsUntilHere 17 = .ok (.iconst 0, 1) := by decide +kernel
theorem dX0_hitsUntilHere_18 : decode cX0_hitsUntilHere 18 = .ok (.invokevirtual 116, 3) := by decide +kernel
theorem dX0_hitsUntilHere_21 : decode cX0_hitsUntilHere 21 = .ok (.aload_n 0, 1) := by decide +kernel
theorem dX0_hitsUntilHere_22 : decode cX0_hitsUntilHere 22 = .ok (.getfield 27, 3) := by decide +kernel
theorem dX0_hitsUntilHere_25 : decode cX0_hitsUntilHere 25 = .ok (.iload_n 1, 1) := by decide +kernel
theorem dX0_hitsUntilHere_26 : decode cX0_hitsUntilHere 26 = .ok (.iload_n 3, 1) := by decide +kernel
theorem dX0_hitsUntilHere_27 : decode cX0_hitsUntilHere 27 = .ok (.aload_n 0, 1) := by decide +kernel
theorem dX0_hitsUntilHere_28 : decode cX0_hitsUntilHere 28 = .ok (.getfield 27, 3) := by decide +kernel
theorem dX0_hitsUntilHere_31 : decode cX0_hitsUntilHere 31 = .ok (.getfield 31, 3) := by decide +kernel
theorem dX0_hitsUntilHere_34 : decode cX0_hitsUntilHere 34 = .ok (.invokevirtual 119, 3) := by decide +kernel
theorem dX0_hitsUntilHere_37 : decode cX0_hitsUntilHere 37 = .ok (.invokestatic 45, 3) := by decide +kernel
theorem dX0_hitsUntilHere_40 : decode cX0_hitsUntilHere 40 = .ok (.imul, 1) := by decide +kernel
theorem dX0_hitsUntilHere_41 : decode cX0_hitsUntilHere 41 = .ok (.ireturn, 1) := by decide +kernel
theorem dX0_turnedByAllAtEach_0 : decode cX0_turnedByAllAtEach 0 = .ok (.iconst 0, 1) := by decide +kernel
theorem dX0_turnedByAllAtEach_1 : decode cX0_turnedByAllAtEach 1 = .ok (.istore_n 1, 1) := by decide +kernel
theorem dX0_turnedByAllAtEach_2 : decode cX0_turnedByAllAtEach 2 = .ok (.iconst 0, 1) := by decide +kernel
theorem dX0_turnedByAllAtEach_3 : decode cX0_turnedByAllAtEach 3 = .ok (.istore_n 2, 1) := by decide +kernel
theorem dX0_turnedByAllAtEach_4 : decode cX0_turnedByAllAtEach 4 = .ok (.iload_n 2, 1) := by decide +kernel
theorem dX0_turnedByAllAtEach_5 : decode cX0_turnedByAllAtEach 5 = .ok (.aload_n 0, 1) := by decide +kernel
theorem dX0_turnedByAllAtEach_6 : decode cX0_turnedByAllAtEach 6 = .ok (.getfield 27, 3) := by decide +kernel
theorem dX0_turnedByAllAtEach_9 : decode cX0_turnedByAllAtEach 9 = .ok (.getfield 96, 3) := by decide +kernel
theorem dX0_turnedByAllAtEach_12 : decode cX0_turnedByAllAtEach 12 = .ok (.getfield 91, 3) := by decide +kernel
theorem dX0_turnedByAllAtEach_15 : decode cX0_turnedByAllAtEach 15 = .ok (.if_icmp .ge 59, 3) := by decide +kernel
theorem dX0_turnedByAllAtEach_18 : decode cX0_turnedByAllAtEach 18 = .ok (.aload_n 0, 1) := by decide +kernel
theorem dX0_turnedByAllAtEach_19 : decode cX0_turnedByAllAtEach 19 = .ok (.getfield 27, 3) := by decide +kernel
theorem dX0_turnedByAllAtEach_22 : decode cX0_turnedByAllAtEach 22 = .ok (.iload_n 2, 1) := by decide +kernel
theorem dX0_turnedByAllAtEach_23 : decode cX0_turnedByAllAtEach 23 = .ok (.invokevirtual 41, 3) := by decide +kernel
theorem dX0_turnedByAllAtEach_26 : decode cX0_turnedByAllAtEach 26 = .ok (.istore_n 3, 1) := by decide +kernel
theorem dX0_turnedByAllAtEach_27 : decode cX0_turnedByAllAtEach 27 = .ok (.iconst 0, 1) := by decide +kernel
theorem dX0_turnedByAllAtEach_28 : decode cX0_turnedByAllAtEach 28 = .ok (.istore 4, 2) := by decide +kernel
theorem dX0_turnedByAllAtEach_30 : decode cX0_turnedByAllAtEach 30 = .ok (.iload 4, 2) := by decide +kernel
theorem dX0_turnedByAllAtEach_32 : decode cX0_turnedByAllAtEach 32 = .ok (.aload_n 0, 1) := by decide +kernel
theorem dX0_turnedByAllAtEach_33 : decode cX0_turnedByAllAtEach 33 = .ok (.getfield 27, 3) := by decide +kernel
theorem dX0_turnedByAllAtEach_36 : decode cX0_turnedByAllAtEach 36 = .ok (.getfield 87, 3) := by decide +kernel
theorem dX0_turnedByAllAtEach_39 : decode cX0_turnedByAllAtEach 39 = .ok (.getfield 91, 3) := by decide +kernel
theorem dX0_turnedByAllAtEach_42 : decode cX0_turnedByAllAtEach 42 = .ok (.if_icmp .ge 19, 3) := by decide +kernel
theorem dX0_turnedByAllAtEach_45 : decode cX0_turnedByAllAtEach 45 = .ok (.iload_n 3, 1) := by decide +kernel
theorem dX0_turnedByAllAtEach_46 : decode cX0_turnedByAllAtEach 46 = .ok (.aload_n 0, 1) := by decide +kernel
theorem dX0_turnedByAllAtEach_47 : decode cX0_turnedByAllAtEach 47 = .ok (.iload 4, 2) := by decide +kernel
theorem dX0_turnedByAllAtEach_49 : decode cX0_turnedByAllAtEach 49 = .ok (.iload_n 2, 1) := by decide +kernel
theorem dX0_turnedByAllAtEach_50 : decode cX0_turnedByAllAtEach 50 = .ok (.invokevirtual 107, 3) := by decide +kernel
theorem dX0_turnedByAllAtEach_53 : decode cX0_turnedByAllAtEach 53 = .ok (.isub, 1) := by decide +kernel
theorem dX0_turnedByAllAtEach_54 : decode cX0_turnedByAllAtEach 54 = .ok (.istore_n 3, 1) := by decide +kernel
theorem dX0_turnedByAllAtEach_55 : decode cX0_turnedByAllAtEach 55 = .ok (.iinc 4 1, 3) := by decide +kernel
theorem dX0_turnedByAllAtEach_58 : decode cX0_turnedByAllAtEach 58 = .ok (.goto (-28), 3) := by decide +kernel
theorem dX0_turnedByAllAtEach_61 : decode cX0_turnedByAllAtEach 61 = .ok (.iload_n 3, 1) := by decide +kernel
theorem dX0_turnedByAllAtEach_62 : decode cX0_turnedByAllAtEach 62 = .ok (.ifCond .gt 6, 3) := by decide +kernel
theorem dX0_turnedByAllAtEach_65 : decode cX0_turnedByAllAtEach 65 = .ok (.iinc 1 1, 3) := by decide +kernel
theorem dX0_turnedByAllAtEach_68 : decode cX0_turnedByAllAtEach 68 = .ok (.iinc 2 1, 3) := by decide +kernel
theorem dX0_turnedByAllAtEach_71 : decode cX0_turnedByAllAtEach 71 = .ok (.goto (-67), 3) := by decide +kernel
theorem dX0_turnedByAllAtEach_74 : decode cX0_turnedByAllAtEach 74 = .ok (.iload_n 1, 1) := by decide +kernel
theorem dX0_turnedByAllAtEach_75 : decode cX0_turnedByAllAtEach 75 = .ok (.ireturn, 1) := by decide +kernel
theorem dX0_turnedNow_0 : decode cX0_turnedNow 0 = .ok (.iconst 0, 1) := by decide +kernel
theorem dX0_turnedNow_1 : decode cX0_turnedNow 1 = .ok (.istore_n 1, 1) := by decide +kernel
theorem dX0_turnedNow_2 : decode cX0_turnedNow 2 = .ok (.iconst 0, 1) := by decide +kernel
theorem dX0_turnedNow_3 : decode cX0_turnedNow 3 = .ok (.istore_n 2, 1) := by decide +kernel
theorem dX0_turnedNow_4 : decode cX0_turnedNow 4 = .ok (.iload_n 2, 1) := by decide +kernel
theorem dX0_turnedNow_5 : decode cX0_turnedNow 5 = .ok (.aload_n 0, 1) := by decide +kernel
theorem dX0_turnedNow_6 : decode cX0_turnedNow 6 = .ok (.getfield 27, 3) := by decide +kernel
theorem dX0_turnedNow_9 : decode cX0_turnedNow 9 = .ok (.getfield 96, 3) := by decide +kernel
theorem dX0_turnedNow_12 : decode cX0_turnedNow 12 = .ok (.getfield 91, 3) := by decide +kernel
theorem dX0_turnedNow_15 : decode cX0_turnedNow 15 = .ok (.if_icmp .ge 30, 3) := by decide +kernel
theorem dX0_turnedNow_18 : decode cX0_turnedNow 18 = .ok (.iload_n 2, 1) := by decide +kernel
theorem dX0_turnedNow_19 : decode cX0_turnedNow 19 = .ok (.aload_n 0, 1) := by decide +kernel
theorem dX0_turnedNow_20 : decode cX0_turnedNow 20 = .ok (.getfield 18, 3) := by decide +kernel
theorem dX0_turnedNow_23 : decode cX0_turnedNow 23 = .ok (.arraylength, 1) := by decide +kernel
theorem dX0_turnedNow_24 : decode cX0_turnedNow 24 = .ok (.if_icmp .ge 21, 3) := by decide +kernel
theorem dX0_turnedNow_27 : decode cX0_turnedNow 27 = .ok (.aload_n 0, 1) := by decide +kernel
theorem dX0_turnedNow_28 : decode cX0_turnedNow 28 = .ok (.getfield 18, 3) := by decide +kernel
theorem dX0_turnedNow_31 : decode cX0_turnedNow 31 = .ok (.iload_n 2, 1) := by decide +kernel
theorem dX0_turnedNow_32 : decode cX0_turnedNow 32 = .ok (.iaload, 1) := by decide +kernel
theorem dX0_turnedNow_33 : decode cX0_turnedNow 33 = .ok (.ifCond .gt 6, 3) := by decide +kernel
theorem dX0_turnedNow_36 : decode cX0_turnedNow 36 = .ok (.iinc 1 1, 3) := by decide +kernel
theorem dX0_turnedNow_39 : decode cX0_turnedNow 39 = .ok (.iinc 2 1, 3) := by decide +kernel
theorem dX0_turnedNow_42 : decode cX0_turnedNow 42 = .ok (.goto (-38), 3) := by decide +kernel
theorem dX0_turnedNow_45 : decode cX0_turnedNow 45 = .ok (.iload_n 1, 1) := by decide +kernel
theorem dX0_turnedNow_46 : decode cX0_turnedNow 46 = .ok (.ireturn, 1) := by decide +kernel
theorem dX0_nextWay_0 : decode cX0_nextWay 0 = .ok (.aload_n 0, 1) := by decide +kernel
theorem dX0_nextWay_1 : decode cX0_nextWay 1 = .ok (.getfield 27, 3) := by decide +kernel
theorem dX0_nextWay_4 : decode cX0_nextWay 4 = .ok (.getfield 87, 3) := by decide +kernel
theorem dX0_nextWay_7 : decode cX0_nextWay 7 = .ok (.getfield 91, 3) := by decide +kernel
theorem dX0_nextWay_10 : decode cX0_nextWay 10 = .ok (.aload_n 0, 1) := by decide +kernel
theorem dX0_nextWay_11 : decode cX0_nextWay 11 = .ok (.getfield 21, 3) := by decide +kernel
theorem dX0_nextWay_14 : decode cX0_nextWay 14 = .ok (.arraylength, 1) := by decide +kernel
theorem dX0_nextWay_15 : decode cX0_nextWay 15 = .ok (.invokestatic 45, 3) := by decide +kernel
theorem dX0_nextWay_18 : decode cX0_nextWay 18 = .ok (.iconst 1, 1) := by decide +kernel
theorem dX0_nextWay_19 : decode cX0_nextWay 19 = .ok (.isub, 1) := by decide +kernel
theorem dX0_nextWay_20 : decode cX0_nextWay 20 = .ok (.istore_n 1, 1) := by decide +kernel
theorem dX0_nextWay_21 : decode cX0_nextWay 21 = .ok (.iload_n 1, 1) := by decide +kernel
theorem dX0_nextWay_22 : decode cX0_nextWay 22 = .ok (.ifCond .lt 94, 3) := by decide +kernel
theorem dX0_nextWay_25 : decode cX0_nextWay 25 = .ok (.aload_n 0, 1) := by decide +kernel
theorem dX0_nextWay_26 : decode cX0_nextWay 26 = .ok (.getfield 21, 3) := by decide +kernel
theorem dX0_nextWay_29 : decode cX0_nextWay 29 = .ok (.iload_n 1, 1) := by decide +kernel
theorem dX0_nextWay_30 : decode cX0_nextWay 30 = .ok (.iaload, 1) := by decide +kernel
theorem dX0_nextWay_31 : decode cX0_nextWay 31 = .ok (.istore_n 2, 1) := by decide +kernel
theorem dX0_nextWay_32 : decode cX0_nextWay 32 = .ok (.iload_n 2, 1) := by decide +kernel
theorem dX0_nextWay_33 : decode cX0_nextWay 33 = .ok (.iconst 1, 1) := by decide +kernel
theorem dX0_nextWay_34 : decode cX0_nextWay 34 = .ok (.iadd, 1) := by decide +kernel
theorem dX0_nextWay_35 : decode cX0_nextWay 35 = .ok (.aload_n 0, 1) := by decide +kernel
theorem dX0_nextWay_36 : decode cX0_nextWay 36 = .ok (.getfield 27, 3) := by decide +kernel
theorem dX0_nextWay_39 : decode cX0_nextWay 39 = .ok (.getfield 96, 3) := by decide +kernel
theorem dX0_nextWay_42 : decode cX0_nextWay 42 = .ok (.getfield 91, 3) := by decide +kernel
theorem dX0_nextWay_45 : decode cX0_nextWay 45 = .ok (.if_icmp .ge 7, 3) := by decide +kernel
theorem dX0_nextWay_48 : decode cX0_nextWay 48 = .ok (.iconst 1, 1) := by decide +kernel
theorem dX0_nextWay_49 : decode cX0_nextWay 49 = .ok (.goto 4, 3) := by decide +kernel
theorem dX0_nextWay_52 : decode cX0_nextWay 52 = .ok (.iconst 0, 1) := by decide +kernel
theorem dX0_nextWay_53 : decode cX0_nextWay 53 = .ok (.istore_n 3, 1) := by decide +kernel
theorem dX0_nextWay_54 : decode cX0_nextWay 54 = .ok (.aload_n 0, 1) := by decide +kernel
theorem dX0_nextWay_55 : decode cX0_nextWay 55 = .ok (.getfield 21, 3) := by decide +kernel
theorem dX0_nextWay_58 : decode cX0_nextWay 58 = .ok (.iload_n 1, 1) := by decide +kernel
theorem dX0_nextWay_59 : decode cX0_nextWay 59 = .ok (.iload_n 3, 1) := by decide +kernel
theorem dX0_nextWay_60 : decode cX0_nextWay 60 = .ok (.ifCond .eq 9, 3) := by decide +kernel
theorem dX0_nextWay_63 : decode cX0_nextWay 63 = .ok (.iload_n 2, 1) := by decide +kernel
theorem dX0_nextWay_64 : decode cX0_nextWay 64 = .ok (.iconst 1, 1) := by decide +kernel
theorem dX0_nextWay_65 : decode cX0_nextWay 65 = .ok (.iadd, 1) := by decide +kernel
theorem dX0_nextWay_66 : decode cX0_nextWay 66 = .ok (.goto 4, 3) := by decide +kernel
theorem dX0_nextWay_69 : decode cX0_nextWay 69 = .ok (.iconst 0, 1) := by decide +kernel
theorem dX0_nextWay_70 : decode cX0_nextWay 70 = .ok (.iastore, 1) := by decide +kernel
theorem dX0_nextWay_71 : decode cX0_nextWay 71 = .ok (.aload_n 0, 1) := by decide +kernel
theorem dX0_nextWay_72 : decode cX0_nextWay 72 = .ok (.iload_n 2, 1) := by decide +kernel
theorem dX0_nextWay_73 : decode cX0_nextWay 73 = .ok (.aload_n 0, 1) := by decide +kernel
theorem dX0_nextWay_74 : decode cX0_nextWay 74 = .ok (.iload_n 1, 1) := by decide +kernel
theorem dX0_nextWay_75 : decode cX0_nextWay 75 = .ok (.iload_n 2, 1) := by decide +kernel
theorem dX0_nextWay_76 : decode cX0_nextWay 76 = .ok (.invokevirtual 107, 3) := by decide +kernel
theorem dX0_nextWay_79 : decode cX0_nextWay 79 = .ok (.ineg, 1) := by decide +kernel
theorem dX0_nextWay_80 : decode cX0_nextWay 80 = .ok (.invokevirtual 110, 3) := by decide +kernel
theorem dX0_nextWay_83 : decode cX0_nextWay 83 = .ok (.aload_n 0, 1) := by decide +kernel
theorem dX0_nextWay_84 : decode cX0_nextWay 84 = .ok (.aload_n 0, 1) := by decide +kernel
theorem dX0_nextWay_85 : decode cX0_nextWay 85 = .ok (.getfield 21, 3) := by decide +kernel
theorem dX0_nextWay_88 : decode cX0_nextWay 88 = .ok (.iload_n 1, 1) := by decide +kernel
theorem dX0_nextWay_89 : decode cX0_nextWay 89 = .ok (.iaload, 1) := by decide +kernel
theorem dX0_nextWay_90 : decode cX0_nextWay 90 = .ok (.aload_n 0, 1) := by decide +kernel
theorem dX0_nextWay_91 : decode cX0_nextWay 91 = .ok (.iload_n 1, 1) := by decide +kernel
theorem dX0_nextWay_92 : decode cX0_nextWay 92 = .ok (.aload_n 0, 1) := by decide +kernel
theorem dX0_nextWay_93 : decode cX0_nextWay 93 = .ok (.getfield 21, 3) := by decide +kernel
theorem dX0_nextWay_96 : decode cX0_nextWay 96 = .ok (.iload_n 1, 1) := by decide +kernel
theorem dX0_nextWay_97 : decode cX0_nextWay 97 = .ok (.iaload, 1) := by decide +kernel
theorem dX0_nextWay_98 : decode cX0_nextWay 98 = .ok (.invokevirtual 107, 3) := by decide +kernel
theorem dX0_nextWay_101 : decode cX0_nextWay 101 = .ok (.invokevirtual 110, 3) := by decide +kernel
theorem dX0_nextWay_104 : decode cX0_nextWay 104 = .ok (.iload_n 3, 1) := by decide +kernel
theorem dX0_nextWay_105 : decode cX0_nextWay 105 = .ok (.ifCond .eq 5, 3) := by decide +kernel
theorem dX0_nextWay_108 : decode cX0_nextWay 108 = .ok (.iconst 1, 1) := by decide +kernel
theorem dX0_nextWay_109 : decode cX0_nextWay 109 = .ok (.ireturn, 1) := by decide +kernel
theorem dX0_nextWay_110 : decode cX0_nextWay 110 = .ok (.iinc 1 (-1), 3) := by decide +kernel
theorem dX0_nextWay_113 : decode cX0_nextWay 113 = .ok (.goto (-92), 3) := by decide +kernel
theorem dX0_nextWay_116 : decode cX0_nextWay 116 = .ok (.iconst 0, 1) := by decide +kernel
theorem dX0_nextWay_117 : decode cX0_nextWay 117 = .ok (.ireturn, 1) := by decide +kernel
theorem dX0_close_0 : decode cX0_close 0 = .ok (.iload_n 1, 1) := by decide +kernel
theorem dX0_close_1 : decode cX0_close 1 = .ok (.ifCond .lt 22, 3) := by decide +kernel
theorem dX0_close_4 : decode cX0_close 4 = .ok (.iload_n 1, 1) := by decide +kernel
theorem dX0_close_5 : decode cX0_close 5 = .ok (.aload_n 0, 1) := by decide +kernel
theorem dX0_close_6 : decode cX0_close 6 = .ok (.getfield 18, 3) := by decide +kernel
theorem dX0_close_9 : decode cX0_close 9 = .ok (.arraylength, 1) := by decide +kernel
theorem dX0_close_10 : decode cX0_close 10 = .ok (.if_icmp .ge 13, 3) := by decide +kernel
theorem dX0_close_13 : decode cX0_close 13 = .ok (.aload_n 0, 1) := by decide +kernel
theorem dX0_close_14 : decode cX0_close 14 = .ok (.getfield 18, 3) := by decide +kernel
theorem dX0_close_17 : decode cX0_close 17 = .ok (.iload_n 1, 1) := by decide +kernel
theorem dX0_close_18 : decode cX0_close 18 = .ok (.dup2, 1) := by decide +kernel
theorem dX0_close_19 : decode cX0_close 19 = .ok (.iaload, 1) := by decide +kernel
theorem dX0_close_20 : decode cX0_close 20 = .ok (.iload_n 2, 1) := by decide +kernel
theorem dX0_close_21 : decode cX0_close 21 = .ok (.isub, 1) := by decide +kernel
theorem dX0_close_22 : decode cX0_close 22 = .ok (.iastore, 1) := by decide +kernel
theorem dX0_close_23 : decode cX0_close 23 = .ok (.return_, 1) := by decide +kernel
theorem dX0_hitsKept_0 : decode cX0_hitsKept 0 = .ok (.iload_n 1, 1) := by decide +kernel
theorem dX0_hitsKept_1 : decode cX0_hitsKept 1 = .ok (.iconst 4, 1) := by decide +kernel
theorem dX0_hitsKept_2 : decode cX0_hitsKept 2 = .ok (.imul, 1) := by decide +kernel
theorem dX0_hitsKept_3 : decode cX0_hitsKept 3 = .ok (.iload_n 2, 1) := by decide +kernel
theorem dX0_hitsKept_4 : decode cX0_hitsKept 4 = .ok (.iadd, 1) := by decide +kernel
theorem dX0_hitsKept_5 : decode cX0_hitsKept 5 = .ok (.istore_n 3, 1) := by decide +kernel
theorem dX0_hitsKept_6 : decode cX0_hitsKept 6 = .ok (.iload_n 3, 1) := by decide +kernel
theorem dX0_hitsKept_7 : decode cX0_hitsKept 7 = .ok (.ifCond .lt 21, 3) := by decide +kernel
theorem dX0_hitsKept_10 : decode cX0_hitsKept 10 = .ok (.iload_n 3, 1) := by decide +kernel
theorem dX0_hitsKept_11 : decode cX0_hitsKept 11 = .ok (.aload_n 0, 1) := by decide +kernel
theorem dX0_hitsKept_12 : decode cX0_hitsKept 12 = .ok (.getfield 15, 3) := by decide +kernel
theorem dX0_hitsKept_15 : decode cX0_hitsKept 15 = .ok (.arraylength, 1) := by decide +kernel
theorem dX0_hitsKept_16 : decode cX0_hitsKept 16 = .ok (.if_icmp .ge 12, 3) := by decide +kernel
theorem dX0_hitsKept_19 : decode cX0_hitsKept 19 = .ok (.aload_n 0, 1) := by decide +kernel
theorem dX0_hitsKept_20 : decode cX0_hitsKept 20 = .ok (.getfield 15, 3) := by decide +kernel
theorem dX0_hitsKept_23 : decode cX0_hitsKept 23 = .ok (.iload_n 3, 1) := by decide +kernel
theorem dX0_hitsKept_24 : decode cX0_hitsKept 24 = .ok (.iaload, 1) := by decide +kernel
theorem dX0_hitsKept_25 : decode cX0_hitsKept 25 = .ok (.goto 4, 3) := by decide +kernel
theorem dX0_hitsKept_28 : decode cX0_hitsKept 28 = .ok (.iconst 0, 1) := by decide +kernel
theorem dX0_hitsKept_29 : decode cX0_hitsKept 29 = .ok (.ireturn, 1) := by decide +kernel
theorem dX0_keepHits_0 : decode cX0_keepHits 0 = .ok (.iload_n 1, 1) := by decide +kernel
theorem dX0_keepHits_1 : decode cX0_keepHits 1 = .ok (.iconst 4, 1) := by decide +kernel
theorem dX0_keepHits_2 : decode cX0_keepHits 2 = .ok (.imul, 1) := by decide +kernel
theorem dX0_keepHits_3 : decode cX0_keepHits 3 = .ok (.iload_n 2, 1) := by decide +kernel
theorem dX0_keepHits_4 : decode cX0_keepHits 4 = .ok (.iadd, 1) := by decide +kernel
theorem dX0_keepHits_5 : decode cX0_keepHits 5 = .ok (.istore 4, 2) := by decide +kernel
theorem dX0_keepHits_7 : decode cX0_keepHits 7 = .ok (.iload 4, 2) := by decide +kernel
theorem dX0_keepHits_9 : decode cX0_keepHits 9 = .ok (.ifCond .lt 21, 3) := by decide +kernel
theorem dX0_keepHits_12 : decode cX0_keepHits 12 = .ok (.iload 4, 2) := by decide +kernel
theorem dX0_keepHits_14 : decode cX0_keepHits 14 = .ok (.aload_n 0, 1) := by decide +kernel
theorem dX0_keepHits_15 : decode cX0_keepHits 15 = .ok (.getfield 15, 3) := by decide +kernel
theorem dX0_keepHits_18 : decode cX0_keepHits 18 = .ok (.arraylength, 1) := by decide +kernel
theorem dX0_keepHits_19 : decode cX0_keepHits 19 = .ok (.if_icmp .ge 11, 3) := by decide +kernel
theorem dX0_keepHits_22 : decode cX0_keepHits 22 = .ok (.aload_n 0, 1) := by decide +kernel
theorem dX0_keepHits_23 : decode cX0_keepHits 23 = .ok (.getfield 15, 3) := by decide +kernel
theorem dX0_keepHits_26 : decode cX0_keepHits 26 = .ok (.iload 4, 2) := by decide +kernel
theorem dX0_keepHits_28 : decode cX0_keepHits 28 = .ok (.iload_n 3, 1) := by decide +kernel
theorem dX0_keepHits_29 : decode cX0_keepHits 29 = .ok (.iastore, 1) := by decide +kernel
theorem dX0_keepHits_30 : decode cX0_keepHits 30 = .ok (.return_, 1) := by decide +kernel
theorem dX0_pairsThatRest_0 : decode cX0_pairsThatRest 0 = .ok (.aload_n 0, 1) := by decide +kernel
theorem dX0_pairsThatRest_1 : decode cX0_pairsThatRest 1 = .ok (.getfield 27, 3) := by decide +kernel
theorem dX0_pairsThatRest_4 : decode cX0_pairsThatRest 4 = .ok (.iload_n 3, 1) := by decide +kernel
theorem dX0_pairsThatRest_5 : decode cX0_pairsThatRest 5 = .ok (.invokevirtual 41, 3) := by decide +kernel
theorem dX0_pairsThatRest_8 : decode cX0_pairsThatRest 8 = .ok (.istore 5, 2) := by decide +kernel
theorem dX0_pairsThatRest_10 : decode cX0_pairsThatRest 10 = .ok (.aload_n 0, 1) := by decide +kernel
theorem dX0_pairsThatRest_11 : decode cX0_pairsThatRest 11 = .ok (.getfield 27, 3) := by decide +kernel
theorem dX0_pairsThatRest_14 : decode cX0_pairsThatRest 14 = .ok (.iload_n 1, 1) := by decide +kernel
theorem dX0_pairsThatRest_15 : decode cX0_pairsThatRest 15 = .ok (.iload_n 3, 1) := by decide +kernel
theorem dX0_pairsThatRest_16 : decode cX0_pairsThatRest 16 = .ok (.iload 4, 2) := by decide +kernel
theorem dX0_pairsThatRest_18 : decode cX0_pairsThatRest 18 = .ok (.aload_n 0, 1) := by decide +kernel
theorem dX0_pairsThatRest_19 : decode cX0_pairsThatRest 19 = .ok (.getfield 27, 3) := by decide +kernel
theorem dX0_pairsThatRest_22 : decode cX0_pairsThatRest 22 = .ok (.getfield 31, 3) := by decide +kernel
theorem dX0_pairsThatRest_25 : decode cX0_pairsThatRest 25 = .ok (.invokevirtual 52, 3) := by decide +kernel
theorem dX0_pairsThatRest_28 : decode cX0_pairsThatRest 28 = .ok (.istore 6, 2) := by decide +kernel
theorem dX0_pairsThatRest_30 : decode cX0_pairsThatRest 30 = .ok (.aload_n 0, 1) := by decide +kernel
theorem dX0_pairsThatRest_31 : decode cX0_pairsThatRest 31 = .ok (.getfield 27, 3) := by decide +kernel
theorem dX0_pairsThatRest_34 : decode cX0_pairsThatRest 34 = .ok (.iload_n 2, 1) := by decide +kernel
theorem dX0_pairsThatRest_35 : decode cX0_pairsThatRest 35 = .ok (.iload_n 3, 1) := by decide +kernel
theorem dX0_pairsThatRest_36 : decode cX0_pairsThatRest 36 = .ok (.iload 4, 2) := by decide +kernel
theorem dX0_pairsThatRest_38 : decode cX0_pairsThatRest 38 = .ok (.aload_n 0, 1) := by decide +kernel
theorem dX0_pairsThatRest_39 : decode cX0_pairsThatRest 39 = .ok (.getfield 27, 3) := by decide +kernel
theorem dX0_pairsThatRest_42 : decode cX0_pairsThatRest 42 = .ok (.getfield 31, 3) := by decide +kernel
theorem dX0_pairsThatRest_45 : decode cX0_pairsThatRest 45 = .ok (.invokevirtual 52, 3) := by decide +kernel
theorem dX0_pairsThatRest_48 : decode cX0_pairsThatRest 48 = .ok (.istore 7, 2) := by decide +kernel
theorem dX0_pairsThatRest_50 : decode cX0_pairsThatRest 50 = .ok (.iconst 0, 1) := by decide +kernel
theorem dX0_pairsThatRest_51 : decode cX0_pairsThatRest 51 = .ok (.istore 8, 2) := by decide +kernel
theorem dX0_pairsThatRest_53 : decode cX0_pairsThatRest 53 = .ok (.iconst 0, 1) := by decide +kernel
theorem dX0_pairsThatRest_54 : decode cX0_pairsThatRest 54 = .ok (.istore 9, 2) := by decide +kernel
theorem dX0_pairsThatRest_56 : decode cX0_pairsThatRest 56 = .ok (.iload 9, 2) := by decide +kernel
theorem dX0_pairsThatRest_58 : decode cX0_pairsThatRest 58 = .ok (.iconst 4, 1) := by decide +kernel
theorem dX0_pairsThatRest_59 : decode cX0_pairsThatRest 59 = .ok (.if_icmp .ge 66, 3) := by decide +kernel
theorem dX0_pairsThatRest_62 : decode cX0_pairsThatRest 62 = .ok (.iload 9, 2) := by decide +kernel
theorem dX0_pairsThatRest_64 : decode cX0_pairsThatRest 64 = .ok (.iconst 1, 1) := by decide +kernel
theorem dX0_pairsThatRest_65 : decode cX0_pairsThatRest 65 = .ok (.iand, 1) := by decide +kernel
theorem dX0_pairsThatRest_66 : decode cX0_pairsThatRest 66 = .ok (.istore 10, 2) := by decide +kernel
theorem dX0_pairsThatRest_68 : decode cX0_pairsThatRest 68 = .ok (.iload 9, 2) := by decide +kernel
theorem dX0_pairsThatRest_70 : decode cX0_pairsThatRest 70 = .ok (.iconst 1, 1) := by decide +kernel
theorem dX0_pairsThatRest_71 : decode cX0_pairsThatRest 71 = .ok (.ishr, 1) := by decide +kernel
theorem dX0_pairsThatRest_72 : decode cX0_pairsThatRest 72 = .ok (.istore 11, 2) := by decide +kernel
theorem dX0_pairsThatRest_74 : decode cX0_pairsThatRest 74 = .ok (.iload 5, 2) := by decide +kernel
theorem dX0_pairsThatRest_76 : decode cX0_pairsThatRest 76 = .ok (.iload 11, 2) := by decide +kernel
theorem dX0_pairsThatRest_78 : decode cX0_pairsThatRest 78 = .ok (.iload 7, 2) := by decide +kernel
theorem dX0_pairsThatRest_80 : decode cX0_pairsThatRest 80 = .ok (.imul, 1) := by decide +kernel
theorem dX0_pairsThatRest_81 : decode cX0_pairsThatRest 81 = .ok (.isub, 1) := by decide +kernel
theorem dX0_pairsThatRest_82 : decode cX0_pairsThatRest 82 = .ok (.iload 6, 2) := by decide +kernel
theorem dX0_pairsThatRest_84 : decode cX0_pairsThatRest 84 = .ok (.iload 10, 2) := by decide +kernel
theorem dX0_pairsThatRest_86 : decode cX0_pairsThatRest 86 = .ok (.invokestatic 122, 3) := by decide +kernel
theorem dX0_pairsThatRest_89 : decode cX0_pairsThatRest 89 = .ok (.ifCond .eq 30, 3) := by decide +kernel
theorem dX0_pairsThatRest_92 : decode cX0_pairsThatRest 92 = .ok (.iload 5, 2) := by decide +kernel
theorem dX0_pairsThatRest_94 : decode cX0_pairsThatRest 94 = .ok (.iload 10, 2) := by decide +kernel
theorem dX0_pairsThatRest_96 : decode cX0_pairsThatRest 96 = .ok (.iload 6, 2) := by decide +kernel
theorem dX0_pairsThatRest_98 : decode cX0_pairsThatRest 98 = .ok (.imul, 1) := by decide +kernel
theorem dX0_pairsThatRest_99 : decode cX0_pairsThatRest 99 = .ok (.isub, 1) := by decide +kernel
theorem dX0_pairsThatRest_100 : decode cX0_pairsThatRest 100 = .ok (.iload 7, 2) := by decide +kernel
theorem dX0_pairsThatRest_102 : decode cX0_pairsThatRest 102 = .ok (.iload 11, 2) := by decide +kernel
theorem dX0_pairsThatRest_104 : decode cX0_pairsThatRest 104 = .ok (.invokestatic 122, 3) := by decide +kernel
theorem dX0_pairsThatRest_107 : decode cX0_pairsThatRest 107 = .ok (.ifCond .eq 12, 3) := by decide +kernel
theorem dX0_pairsThatRest_110 : decode cX0_pairsThatRest 110 = .ok (.iload 8, 2) := by decide +kernel
theorem dX0_pairsThatRest_112 : decode cX0_pairsThatRest 112 = .ok (.iconst 1, 1) := by decide +kernel
theorem dX0_pairsThatRest_113 : decode cX0_pairsThatRest 113 = .ok (.iload 9, 2) := by decide +kernel
theorem dX0_pairsThatRest_115 : decode cX0_pairsThatRest 115 = .ok (.ishl, 1) := by decide +kernel
theorem dX0_pairsThatRest_116 : decode cX0_pairsThatRest 116 = .ok (.ior, 1) := by decide +kernel
theorem dX0_pairsThatRest_117 : decode cX0_pairsThatRest 117 = .ok (.istore 8, 2) := by decide +kernel
theorem dX0_pairsThatRest_119 : decode cX0_pairsThatRest 119 = .ok (.iinc 9 1, 3) := by decide +kernel
theorem dX0_pairsThatRest_122 : decode cX0_pairsThatRest 122 = .ok (.goto (-66), 3) := by decide +kernel
theorem dX0_pairsThatRest_125 : decode cX0_pairsThatRest 125 = .ok (.iload 8, 2) := by decide +kernel
theorem dX0_pairsThatRest_127 : decode cX0_pairsThatRest 127 = .ok (.ireturn, 1) := by decide +kernel
theorem dX0_rests_0 : decode cX0_rests 0 = .ok (.iconst 1, 1) := by decide +kernel
theorem dX0_rests_1 : decode cX0_rests 1 = .ok (.iload_n 2, 1) := by decide +kernel
theorem dX0_rests_2 : decode cX0_rests 2 = .ok (.isub, 1) := by decide +kernel
theorem dX0_rests_3 : decode cX0_rests 3 = .ok (.istore_n 3, 1) := by decide +kernel
theorem dX0_rests_4 : decode cX0_rests 4 = .ok (.iload_n 0, 1) := by decide +kernel
theorem dX0_rests_5 : decode cX0_rests 5 = .ok (.iload_n 2, 1) := by decide +kernel
theorem dX0_rests_6 : decode cX0_rests 6 = .ok (.iload_n 1, 1) := by decide +kernel
theorem dX0_rests_7 : decode cX0_rests 7 = .ok (.imul, 1) := by decide +kernel
theorem dX0_rests_8 : decode cX0_rests 8 = .ok (.isub, 1) := by decide +kernel
theorem dX0_rests_9 : decode cX0_rests 9 = .ok (.iload_n 2, 1) := by decide +kernel
theorem dX0_rests_10 : decode cX0_rests 10 = .ok (.invokestatic 126, 3) := by decide +kernel
theorem dX0_rests_13 : decode cX0_rests 13 = .ok (.iload_n 0, 1) := by decide +kernel
theorem dX0_rests_14 : decode cX0_rests 14 = .ok (.iload_n 3, 1) := by decide +kernel
theorem dX0_rests_15 : decode cX0_rests 15 = .ok (.iload_n 1, 1) := by decide +kernel
theorem dX0_rests_16 : decode cX0_rests 16 = .ok (.imul, 1) := by decide +kernel
theorem dX0_rests_17 : decode cX0_rests 17 = .ok (.isub, 1) := by decide +kernel
theorem dX0_rests_18 : decode cX0_rests 18 = .ok (.iload_n 3, 1) := by decide +kernel
theorem dX0_rests_19 : decode cX0_rests 19 = .ok (.invokestatic 126, 3) := by decide +kernel
theorem dX0_rests_22 : decode cX0_rests 22 = .ok (.if_icmp .lt 7, 3) := by decide +kernel
theorem dX0_rests_25 : decode cX0_rests 25 = .ok (.iconst 1, 1) := by decide +kernel
theorem dX0_rests_26 : decode cX0_rests 26 = .ok (.goto 4, 3) := by decide +kernel
theorem dX0_rests_29 : decode cX0_rests 29 = .ok (.iconst 0, 1) := by decide +kernel
theorem dX0_rests_30 : decode cX0_rests 30 = .ok (.ireturn, 1) := by decide +kernel
theorem dX0_worth_0 : decode cX0_worth 0 = .ok (.iconst 0, 1) := by decide +kernel
theorem dX0_worth_1 : decode cX0_worth 1 = .ok (.iload_n 0, 1) := by decide +kernel
theorem dX0_worth_2 : decode cX0_worth 2 = .ok (.invokestatic 63, 3) := by decide +kernel
theorem dX0_worth_5 : decode cX0_worth 5 = .ok (.ineg, 1) := by decide +kernel
theorem dX0_worth_6 : decode cX0_worth 6 = .ok (.iconst 2, 1) := by decide +kernel
theorem dX0_worth_7 : decode cX0_worth 7 = .ok (.iload_n 1, 1) := by decide +kernel
theorem dX0_worth_8 : decode cX0_worth 8 = .ok (.imul, 1) := by decide +kernel
theorem dX0_worth_9 : decode cX0_worth 9 = .ok (.isub, 1) := by decide +kernel
theorem dX0_worth_10 : decode cX0_worth 10 = .ok (.ireturn, 1) := by decide +kernel
theorem dX1_init_0 : decode cX1_init 0 = .ok (.aload_n 0, 1) := by decide +kernel
theorem dX1_init_1 : decode cX1_init 1 = .ok (.invokespecial 3, 3) := by decide +kernel
theorem dX1_init_4 : decode cX1_init 4 = .ok (.aload_n 0, 1) := by decide +kernel
theorem dX1_init_5 : decode cX1_init 5 = .ok (.aload_n 1, 1) := by decide +kernel
theorem dX1_init_6 : decode cX1_init 6 = .ok (.putfield 9, 3) := by decide +kernel
theorem dX1_init_9 : decode cX1_init 9 = .ok (.return_, 1) := by decide +kernel
theorem dX1_lostRings_0 : decode cX1_lostRings 0 = .ok (.aload_n 0, 1) := by decide +kernel
theorem dX1_lostRings_1 : decode cX1_lostRings 1 = .ok (.getfield 9, 3) := by decide +kernel
theorem dX1_lostRings_4 : decode cX1_lostRings 4 = .ok (.getfield 15, 3) := by decide +kernel
theorem dX1_lostRings_7 : decode cX1_lostRings 7 = .ok (.iload_n 1, 1) := by decide +kernel
theorem dX1_lostRings_8 : decode cX1_lostRings 8 = .ok (.iconst 0, 1) := by decide +kernel
theorem dX1_lostRings_9 : decode cX1_lostRings 9 = .ok (.invokevirtual 21, 3) := by decide +kernel
theorem dX1_lostRings_12 : decode cX1_lostRings 12 = .ok (.istore 5, 2) := by decide +kernel
theorem dX1_lostRings_14 : decode cX1_lostRings 14 = .ok (.iconst 0, 1) := by decide +kernel
theorem dX1_lostRings_15 : decode cX1_lostRings 15 = .ok (.istore 6, 2) := by decide +kernel
theorem dX1_lostRings_17 : decode cX1_lostRings 17 = .ok (.iconst 0, 1) := by decide +kernel
theorem dX1_lostRings_18 : decode cX1_lostRings 18 = .ok (.istore 7, 2) := by decide +kernel
theorem dX1_lostRings_20 : decode cX1_lostRings 20 = .ok (.iload 7, 2) := by decide +kernel
theorem dX1_lostRings_22 : decode cX1_lostRings 22 = .ok (.iload_n 3, 1) := by decide +kernel
theorem dX1_lostRings_23 : decode cX1_lostRings 23 = .ok (.if_icmp .ge 39, 3) := by decide +kernel
theorem dX1_lostRings_26 : decode cX1_lostRings 26 = .ok (.iload 6, 2) := by decide +kernel
theorem dX1_lostRings_28 : decode cX1_lostRings 28 = .ok (.iload 4, 2) := by decide +kernel
theorem dX1_lostRings_30 : decode cX1_lostRings 30 = .ok (.iload 5, 2) := by decide +kernel
theorem dX1_lostRings_32 : decode cX1_lostRings 32 = .ok (.invokestatic 27, 3) := by decide +kernel
theorem dX1_lostRings_35 : decode cX1_lostRings 35 = .ok (.imul, 1) := by decide +kernel
theorem dX1_lostRings_36 : decode cX1_lostRings 36 = .ok (.iload 5, 2) := by decide +kernel
theorem dX1_lostRings_38 : decode cX1_lostRings 38 = .ok (.aload_n 0, 1) := by decide +kernel
theorem dX1_lostRings_39 : decode cX1_lostRings 39 = .ok (.getfield 9, 3) := by decide +kernel
theorem dX1_lostRings_42 : decode cX1_lostRings 42 = .ok (.getfield 33, 3) := by decide +kernel
theorem dX1_lostRings_45 : decode cX1_lostRings 45 = .ok (.iload 7, 2) := by decide +kernel
theorem dX1_lostRings_47 : decode cX1_lostRings 47 = .ok (.iadd, 1) := by decide +kernel
theorem dX1_lostRings_48 : decode cX1_lostRings 48 = .ok (.iload_n 2, 1) := by decide +kernel
theorem dX1_lostRings_49 : decode cX1_lostRings 49 = .ok (.invokestatic 37, 3) := by decide +kernel
theorem dX1_lostRings_52 : decode cX1_lostRings 52 = .ok (.iadd, 1) := by decide +kernel
theorem dX1_lostRings_53 : decode cX1_lostRings 53 = .ok (.iadd, 1) := by decide +kernel
theorem dX1_lostRings_54 : decode cX1_lostRings 54 = .ok (.istore 6, 2) := by decide +kernel
theorem dX1_lostRings_56 : decode cX1_lostRings 56 = .ok (.iinc 7 1, 3) := by decide +kernel
theorem dX1_lostRings_59 : decode cX1_lostRings 59 = .ok (.goto (-39), 3) := by decide +kernel
theorem dX1_lostRings_62 : decode cX1_lostRings 62 = .ok (.iload 6, 2) := by decide +kernel
theorem dX1_lostRings_64 : decode cX1_lostRings 64 = .ok (.ireturn, 1) := by decide +kernel
theorem dX1_leftBehind_0 : decode cX1_leftBehind 0 = .ok (.aload_n 0, 1) := by decide +kernel
theorem dX1_leftBehind_1 : decode cX1_leftBehind 1 = .ok (.iload_n 1, 1) := by decide +kernel
theorem dX1_leftBehind_2 : decode cX1_leftBehind 2 = .ok (.aload_n 0, 1) := by decide +kernel
theorem dX1_leftBehind_3 : decode cX1_leftBehind 3 = .ok (.getfield 9, 3) := by decide +kernel
theorem dX1_leftBehind_6 : decode cX1_leftBehind 6 = .ok (.getfield 15, 3) := by decide +kernel
theorem dX1_leftBehind_9 : decode cX1_leftBehind 9 = .ok (.iload_n 1, 1) := by decide +kernel
theorem dX1_leftBehind_10 : decode cX1_leftBehind 10 = .ok (.iconst 1, 1) := by decide +kernel
theorem dX1_leftBehind_11 : decode cX1_leftBehind 11 = .ok (.invokevirtual 21, 3) := by decide +kernel
theorem dX1_leftBehind_14 : decode cX1_leftBehind 14 = .ok (.iload_n 2, 1) := by decide +kernel
theorem dX1_leftBehind_15 : decode cX1_leftBehind 15 = .ok (.iload_n 3, 1) := by decide +kernel
theorem dX1_leftBehind_16 : decode cX1_leftBehind 16 = .ok (.invokevirtual 41, 3) := by decide +kernel
theorem dX1_leftBehind_19 : decode cX1_leftBehind 19 = .ok (.istore 5, 2) := by decide +kernel
theorem dX1_leftBehind_21 : decode cX1_leftBehind 21 = .ok (.iload 4, 2) := by decide +kernel
theorem dX1_leftBehind_23 : decode cX1_leftBehind 23 = .ok (.ifCond .ne 16, 3) := by decide +kernel
theorem dX1_leftBehind_26 : decode cX1_leftBehind 26 = .ok (.aload_n 0, 1) := by decide +kernel
theorem dX1_leftBehind_27 : decode cX1_leftBehind 27 = .ok (.getfield 9, 3) := by decide +kernel
theorem dX1_leftBehind_30 : decode cX1_leftBehind 30 = .ok (.iload_n 1, 1) := by decide +kernel
theorem dX1_leftBehind_31 : decode cX1_leftBehind 31 = .ok (.iload 5, 2) := by decide +kernel
theorem dX1_leftBehind_33 : decode cX1_leftBehind 33 = .ok (.iconst 1, 1) := by decide +kernel
theorem dX1_leftBehind_34 : decode cX1_leftBehind 34 = .ok (.iadd, 1) := by decide +kernel
theorem dX1_leftBehind_35 : decode cX1_leftBehind 35 = .ok (.invokevirtual 45, 3) := by decide +kernel
theorem dX1_leftBehind_38 : decode cX1_leftBehind 38 = .ok (.ireturn, 1) := by decide +kernel
theorem dX1_leftBehind_39 : decode cX1_leftBehind 39 = .ok (.iload 4, 2) := by decide +kernel
theorem dX1_leftBehind_41 : decode cX1_leftBehind 41 = .ok (.iconst 4, 1) := by decide +kernel
theorem dX1_leftBehind_42 : decode cX1_leftBehind 42 = .ok (.if_icmp .ne 19, 3) := by decide +kernel
theorem dX1_leftBehind_45 : decode cX1_leftBehind 45 = .ok (.iconst 0, 1) := by decide +kernel
theorem dX1_leftBehind_46 : decode cX1_leftBehind 46 = .ok (.aload_n 0, 1) := by decide +kernel
theorem dX1_leftBehind_47 : decode cX1_leftBehind 47 = .ok (.getfield 9, 3) := by decide +kernel
theorem dX1_leftBehind_50 : decode cX1_leftBehind 50 = .ok (.iload_n 1, 1) := by decide +kernel
theorem dX1_leftBehind_51 : decode cX1_leftBehind 51 = .ok (.invokevirtual 48, 3) := by decide +kernel
theorem dX1_leftBehind_54 : decode cX1_leftBehind 54 = .ok (.iload 5, 2) := by decide +kernel
theorem dX1_leftBehind_56 : decode cX1_leftBehind 56 = .ok (.isub, 1) := by decide +kernel
theorem dX1_leftBehind_57 : decode cX1_leftBehind 57 = .ok (.invokestatic 51, 3) := by decide +kernel
theorem dX1_leftBehind_60 : decode cX1_leftBehind 60 = .ok (.ireturn, 1) := by decide +kernel
theorem dX1_leftBehind_61 : decode cX1_leftBehind 61 = .ok (.aload_n 0, 1) := by decide +kernel
theorem dX1_leftBehind_62 : decode cX1_leftBehind 62 = .ok (.getfield 9, 3) := by decide +kernel
theorem dX1_leftBehind_65 : decode cX1_leftBehind 65 = .ok (.iload_n 1, 1) := by decide +kernel
theorem dX1_leftBehind_66 : decode cX1_leftBehind 66 = .ok (.iload 5, 2) := by decide +kernel
theorem dX1_leftBehind_68 : decode cX1_leftBehind 68 = .ok (.iconst 3, 1) := by decide +kernel
theorem dX1_leftBehind_69 : decode cX1_leftBehind 69 = .ok (.iload 4, 2) := by decide +kernel
theorem dX1_leftBehind_71 : decode cX1_leftBehind 71 = .ok (.imul, 1) := by decide +kernel
theorem dX1_leftBehind_72 : decode cX1_leftBehind 72 = .ok (.iadd, 1) := by decide +kernel
theorem dX1_leftBehind_73 : decode cX1_leftBehind 73 = .ok (.iconst 2, 1) := by decide +kernel
theorem dX1_leftBehind_74 : decode cX1_leftBehind 74 = .ok (.isub, 1) := by decide +kernel
theorem dX1_leftBehind_75 : decode cX1_leftBehind 75 = .ok (.invokevirtual 45, 3) := by decide +kernel
theorem dX1_leftBehind_78 : decode cX1_leftBehind 78 = .ok (.aload_n 0, 1) := by decide +kernel
theorem dX1_leftBehind_79 : decode cX1_leftBehind 79 = .ok (.getfield 9, 3) := by decide +kernel
theorem dX1_leftBehind_82 : decode cX1_leftBehind 82 = .ok (.iload_n 1, 1) := by decide +kernel
theorem dX1_leftBehind_83 : decode cX1_leftBehind 83 = .ok (.iload 5, 2) := by decide +kernel
theorem dX1_leftBehind_85 : decode cX1_leftBehind 85 = .ok (.iconst 3, 1) := by decide +kernel
theorem dX1_leftBehind_86 : decode cX1_leftBehind 86 = .ok (.iload 4, 2) := by decide +kernel
theorem dX1_leftBehind_88 : decode cX1_leftBehind 88 = .ok (.imul, 1) := by decide +kernel
theorem dX1_leftBehind_89 : decode cX1_leftBehind 89 = .ok (.iadd, 1) := by decide +kernel
theorem dX1_leftBehind_90 : decode cX1_leftBehind 90 = .ok (.iconst 1, 1) := by decide +kernel
theorem dX1_leftBehind_91 : decode cX1_leftBehind 91 = .ok (.iadd, 1) := by decide +kernel
theorem dX1_leftBehind_92 : decode cX1_leftBehind 92 = .ok (.invokevirtual 45, 3) := by decide +kernel
theorem dX1_leftBehind_95 : decode cX1_leftBehind 95 = .ok (.isub, 1) := by decide +kernel
theorem dX1_leftBehind_96 : decode cX1_leftBehind 96 = .ok (.ireturn, 1) := by decide +kernel
theorem dX1_weeksKept_0 : decode cX1_weeksKept 0 = .ok (.aload_n 0, 1) := by decide +kernel
theorem dX1_weeksKept_1 : decode cX1_weeksKept 1 = .ok (.getfield 9, 3) := by decide +kernel
theorem dX1_weeksKept_4 : decode cX1_weeksKept 4 = .ok (.iload_n 1, 1) := by decide +kernel
theorem dX1_weeksKept_5 : decode cX1_weeksKept 5 = .ok (.invokevirtual 48, 3) := by decide +kernel
theorem dX1_weeksKept_8 : decode cX1_weeksKept 8 = .ok (.istore_n 3, 1) := by decide +kernel
theorem dX1_weeksKept_9 : decode cX1_weeksKept 9 = .ok (.iconst 0, 1) := by decide +kernel
theorem dX1_weeksKept_10 : decode cX1_weeksKept 10 = .ok (.istore 4, 2) := by decide +kernel
theorem dX1_weeksKept_12 : decode cX1_weeksKept 12 = .ok (.iload 4, 2) := by decide +kernel
theorem dX1_weeksKept_14 : decode cX1_weeksKept 14 = .ok (.bipush 99, 2) := by decide +kernel
theorem dX1_weeksKept_16 : decode cX1_weeksKept 16 = .ok (.if_icmp .gt 38, 3) := by decide +kernel
theorem dX1_weeksKept_19 : decode cX1_weeksKept 19 = .ok (.iload_n 3, 1) := by decide +kernel
theorem dX1_weeksKept_20 : decode cX1_weeksKept 20 = .ok (.iload_n 2, 1) := by decide +kernel
theorem dX1_weeksKept_21 : decode cX1_weeksKept 21 = .ok (.if_icmp .ge 6, 3) := by decide +kernel
theorem dX1_weeksKept_24 : decode cX1_weeksKept 24 = .ok (.iload 4, 2) := by decide +kernel
theorem dX1_weeksKept_26 : decode cX1_weeksKept 26 = .ok (.ireturn, 1) := by decide +kernel
theorem dX1_weeksKept_27 : decode cX1_weeksKept 27 = .ok (.iload_n 3, 1) := by decide +kernel
theorem dX1_weeksKept_28 : decode cX1_weeksKept 28 = .ok (.aload_n 0, 1) := by decide +kernel
theorem dX1_weeksKept_29 : decode cX1_weeksKept 29 = .ok (.getfield 9, 3) := by decide +kernel
theorem dX1_weeksKept_32 : decode cX1_weeksKept 32 = .ok (.iload_n 1, 1) := by decide +kernel
theorem dX1_weeksKept_33 : decode cX1_weeksKept 33 = .ok (.aload_n 0, 1) := by decide +kernel
theorem dX1_weeksKept_34 : decode cX1_weeksKept 34 = .ok (.getfield 9, 3) := by decide +kernel
theorem dX1_weeksKept_37 : decode cX1_weeksKept 37 = .ok (.getfield 33, 3) := by decide +kernel
theorem dX1_weeksKept_40 : decode cX1_weeksKept 40 = .ok (.iload 4, 2) := by decide +kernel
theorem dX1_weeksKept_42 : decode cX1_weeksKept 42 = .ok (.iadd, 1) := by decide +kernel
theorem dX1_weeksKept_43 : decode cX1_weeksKept 43 = .ok (.invokevirtual 56, 3) := by decide +kernel
theorem dX1_weeksKept_46 : decode cX1_weeksKept 46 = .ok (.isub, 1) := by decide +kernel
theorem dX1_weeksKept_47 : decode cX1_weeksKept 47 = .ok (.istore_n 3, 1) := by decide +kernel
theorem dX1_weeksKept_48 : decode cX1_weeksKept 48 = .ok (.iinc 4 1, 3) := by decide +kernel
theorem dX1_weeksKept_51 : decode cX1_weeksKept 51 = .ok (.goto (-39), 3) := by decide +kernel
theorem dX1_weeksKept_54 : decode cX1_weeksKept 54 = .ok (.iconst (-1), 1) := by decide +kernel
theorem dX1_weeksKept_55 : decode cX1_weeksKept 55 = .ok (.ireturn, 1) := by decide +kernel
theorem dX1_leastStraw_0 : decode cX1_leastStraw 0 = .ok (.iconst 0, 1) := by decide +kernel
theorem dX1_leastStraw_1 : decode cX1_leastStraw 1 = .ok (.istore 4, 2) := by decide +kernel
theorem dX1_leastStraw_3 : decode cX1_leastStraw 3 = .ok (.iload 4, 2) := by decide +kernel
theorem dX1_leastStraw_5 : decode cX1_leastStraw 5 = .ok (.bipush 9, 2) := by decide +kernel
theorem dX1_leastStraw_7 : decode cX1_leastStraw 7 = .ok (.if_icmp .gt 34, 3) := by decide +kernel
theorem dX1_leastStraw_10 : decode cX1_leastStraw 10 = .ok (.aload_n 0, 1) := by decide +kernel
theorem dX1_leastStraw_11 : decode cX1_leastStraw 11 = .ok (.getfield 9, 3) := by decide +kernel
theorem dX1_leastStraw_14 : decode cX1_leastStraw 14 = .ok (.iload_n 1, 1) := by decide +kernel
theorem dX1_leastStraw_15 : decode cX1_leastStraw 15 = .ok (.invokevirtual 48, 3) := by decide +kernel
theorem dX1_leastStraw_18 : decode cX1_leastStraw 18 = .ok (.aload_n 0, 1) := by decide +kernel
theorem dX1_leastStraw_19 : decode cX1_leastStraw 19 = .ok (.iload_n 1, 1) := by decide +kernel
theorem dX1_leastStraw_20 : decode cX1_leastStraw 20 = .ok (.iload 4, 2) := by decide +kernel
theorem dX1_leastStraw_22 : decode cX1_leastStraw 22 = .ok (.iload_n 3, 1) := by decide +kernel
theorem dX1_leastStraw_23 : decode cX1_leastStraw 23 = .ok (.iconst 0, 1) := by decide +kernel
theorem dX1_leastStraw_24 : decode cX1_leastStraw 24 = .ok (.invokevirtual 41, 3) := by decide +kernel
theorem dX1_leastStraw_27 : decode cX1_leastStraw 27 = .ok (.isub, 1) := by decide +kernel
theorem dX1_leastStraw_28 : decode cX1_leastStraw 28 = .ok (.iload_n 2, 1) := by decide +kernel
theorem dX1_leastStraw_29 : decode cX1_leastStraw 29 = .ok (.if_icmp .lt 6, 3) := by decide +kernel
theorem dX1_leastStraw_32 : decode cX1_leastStraw 32 = .ok (.iload 4, 2) := by decide +kernel
theorem dX1_leastStraw_34 : decode cX1_leastStraw 34 = .ok (.ireturn, 1) := by decide +kernel
theorem dX1_leastStraw_35 : decode cX1_leastStraw 35 = .ok (.iinc 4 1, 3) := by decide +kernel
theorem dX1_leastStraw_38 : decode cX1_leastStraw 38 = .ok (.goto (-35), 3) := by decide +kernel
theorem dX1_leastStraw_41 : decode cX1_leastStraw 41 = .ok (.iconst (-1), 1) := by decide +kernel
theorem dX1_leastStraw_42 : decode cX1_leastStraw 42 = .ok (.ireturn, 1) := by decide +kernel
theorem dX1_lostByDoor_0 : decode cX1_lostByDoor 0 = .ok (.aload_n 0, 1) := by decide +kernel
theorem dX1_lostByDoor_1 : decode cX1_lostByDoor 1 = .ok (.getfield 9, 3) := by decide +kernel
theorem dX1_lostByDoor_4 : decode cX1_lostByDoor 4 = .ok (.iload_n 1, 1) := by decide +kernel
theorem dX1_lostByDoor_5 : decode cX1_lostByDoor 5 = .ok (.iload_n 2, 1) := by decide +kernel
theorem dX1_lostByDoor_6 : decode cX1_lostByDoor 6 = .ok (.invokevirtual 45, 3) := by decide +kernel
theorem dX1_lostByDoor_9 : decode cX1_lostByDoor 9 = .ok (.aload_n 0, 1) := by decide +kernel
theorem dX1_lostByDoor_10 : decode cX1_lostByDoor 10 = .ok (.getfield 9, 3) := by decide +kernel
theorem dX1_lostByDoor_13 : decode cX1_lostByDoor 13 = .ok (.iload_n 1, 1) := by decide +kernel
theorem dX1_lostByDoor_14 : decode cX1_lostByDoor 14 = .ok (.iload_n 2, 1) := by decide +kernel
theorem dX1_lostByDoor_15 : decode cX1_lostByDoor 15 = .ok (.aload_n 0, 1) := by decide +kernel
theorem dX1_lostByDoor_16 : decode cX1_lostByDoor 16 = .ok (.getfield 9, 3) := by decide +kernel
theorem dX1_lostByDoor_19 : decode cX1_lostByDoor 19 = .ok (.iload_n 1, 1) := by decide +kernel
theorem dX1_lostByDoor_20 : decode cX1_lostByDoor 20 = .ok (.invokevirtual 59, 3) := by decide +kernel
theorem dX1_lostByDoor_23 : decode cX1_lostByDoor 23 = .ok (.iadd, 1) := by decide +kernel
theorem dX1_lostByDoor_24 : decode cX1_lostByDoor 24 = .ok (.invokevirtual 45, 3) := by decide +kernel
theorem dX1_lostByDoor_27 : decode cX1_lostByDoor 27 = .ok (.isub, 1) := by decide +kernel
theorem dX1_lostByDoor_28 : decode cX1_lostByDoor 28 = .ok (.ireturn, 1) := by decide +kernel
theorem dX1_cheapestDoor_0 : decode cX1_cheapestDoor 0 = .ok (.iconst (-1), 1) := by decide +kernel
theorem dX1_cheapestDoor_1 : decode cX1_cheapestDoor 1 = .ok (.istore_n 2, 1) := by decide +kernel
theorem dX1_cheapestDoor_2 : decode cX1_cheapestDoor 2 = .ok (.iconst 0, 1) := by decide +kernel
theorem dX1_cheapestDoor_3 : decode cX1_cheapestDoor 3 = .ok (.istore_n 3, 1) := by decide +kernel
theorem dX1_cheapestDoor_4 : decode cX1_cheapestDoor 4 = .ok (.iload_n 3, 1) := by decide +kernel
theorem dX1_cheapestDoor_5 : decode cX1_cheapestDoor 5 = .ok (.aload_n 0, 1) := by decide +kernel
theorem dX1_cheapestDoor_6 : decode cX1_cheapestDoor 6 = .ok (.getfield 9, 3) := by decide +kernel
theorem dX1_cheapestDoor_9 : decode cX1_cheapestDoor 9 = .ok (.getfield 15, 3) := by decide +kernel
theorem dX1_cheapestDoor_12 : decode cX1_cheapestDoor 12 = .ok (.getfield 62, 3) := by decide +kernel
theorem dX1_cheapestDoor_15 : decode cX1_cheapestDoor 15 = .ok (.if_icmp .ge 43, 3) := by decide +kernel
theorem dX1_cheapestDoor_18 : decode cX1_cheapestDoor 18 = .ok (.aload_n 0, 1) := by decide +kernel
theorem dX1_cheapestDoor_19 : decode cX1_cheapestDoor 19 = .ok (.getfield 9, 3) := by decide +kernel
theorem dX1_cheapestDoor_22 : decode cX1_cheapestDoor 22 = .ok (.iload_n 3, 1) := by decide +kernel
theorem dX1_cheapestDoor_23 : decode cX1_cheapestDoor 23 = .ok (.iload_n 1, 1) := by decide +kernel
theorem dX1_cheapestDoor_24 : decode cX1_cheapestDoor 24 = .ok (.invokevirtual 45, 3) := by decide +kernel
theorem dX1_cheapestDoor_27 : decode cX1_cheapestDoor 27 = .ok (.ifCond .le 25, 3) := by decide +kernel
theorem dX1_cheapestDoor_30 : decode cX1_cheapestDoor 30 = .ok (.iload_n 2, 1) := by decide +kernel
theorem dX1_cheapestDoor_31 : decode cX1_cheapestDoor 31 = .ok (.iconst (-1), 1) := by decide +kernel
theorem dX1_cheapestDoor_32 : decode cX1_cheapestDoor 32 = .ok (.if_icmp .eq 18, 3) := by decide +kernel
theorem dX1_cheapestDoor_35 : decode cX1_cheapestDoor 35 = .ok (.aload_n 0, 1) := by decide +kernel
theorem dX1_cheapestDoor_36 : decode cX1_cheapestDoor 36 = .ok (.iload_n 3, 1) := by decide +kernel
theorem dX1_cheapestDoor_37 : decode cX1_cheapestDoor 37 = .ok (.iload_n 1, 1) := by decide +kernel
theorem dX1_cheapestDoor_38 : decode cX1_cheapestDoor 38 = .ok (.invokevirtual 65, 3) := by decide +kernel
theorem dX1_cheapestDoor_41 : decode cX1_cheapestDoor 41 = .ok (.aload_n 0, 1) := by decide +kernel
theorem dX1_cheapestDoor_42 : decode cX1_cheapestDoor 42 = .ok (.iload_n 2, 1) := by decide +kernel
theorem dX1_cheapestDoor_43 : decode cX1_cheapestDoor 43 = .ok (.iload_n 1, 1) := by decide +kernel
theorem dX1_cheapestDoor_44 : decode cX1_cheapestDoor 44 = .ok (.invokevirtual 65, 3) := by decide +kernel
theorem dX1_cheapestDoor_47 : decode cX1_cheapestDoor 47 = .ok (.if_icmp .ge 5, 3) := by decide +kernel
theorem dX1_cheapestDoor_50 : decode cX1_cheapestDoor 50 = .ok (.iload_n 3, 1) := by decide +kernel
theorem dX1_cheapestDoor_51 : decode cX1_cheapestDoor 51 = .ok (.istore_n 2, 1) := by decide +kernel
theorem dX1_cheapestDoor_52 : decode cX1_cheapestDoor 52 = .ok (.iinc 3 1, 3) := by decide +kernel
theorem dX1_cheapestDoor_55 : decode cX1_cheapestDoor 55 = .ok (.goto (-51), 3) := by decide +kernel
theorem dX1_cheapestDoor_58 : decode cX1_cheapestDoor 58 = .ok (.iload_n 2, 1) := by decide +kernel
theorem dX1_cheapestDoor_59 : decode cX1_cheapestDoor 59 = .ok (.ireturn, 1) := by decide +kernel
theorem dX1_leftBySeed_0 : decode cX1_leftBySeed 0 = .ok (.iconst 0, 1) := by decide +kernel
theorem dX1_leftBySeed_1 : decode cX1_leftBySeed 1 = .ok (.istore_n 3, 1) := by decide +kernel
theorem dX1_leftBySeed_2 : decode cX1_leftBySeed 2 = .ok (.iconst 0, 1) := by decide +kernel
theorem dX1_leftBySeed_3 : decode cX1_leftBySeed 3 = .ok (.istore 4, 2) := by decide +kernel
theorem dX1_leftBySeed_5 : decode cX1_leftBySeed 5 = .ok (.iload 4, 2) := by decide +kernel
theorem dX1_leftBySeed_7 : decode cX1_leftBySeed 7 = .ok (.aload_n 0, 1) := by decide +kernel
theorem dX1_leftBySeed_8 : decode cX1_leftBySeed 8 = .ok (.getfield 9, 3) := by decide +kernel
theorem dX1_leftBySeed_11 : decode cX1_leftBySeed 11 = .ok (.getfield 15, 3) := by decide +kernel
theorem dX1_leftBySeed_14 : decode cX1_leftBySeed 14 = .ok (.getfield 62, 3) := by decide +kernel
theorem dX1_leftBySeed_17 : decode cX1_leftBySeed 17 = .ok (.if_icmp .ge 31, 3) := by decide +kernel
theorem dX1_leftBySeed_20 : decode cX1_leftBySeed 20 = .ok (.iload_n 3, 1) := by decide +kernel
theorem dX1_leftBySeed_21 : decode cX1_leftBySeed 21 = .ok (.aload_n 0, 1) := by decide +kernel
theorem dX1_leftBySeed_22 : decode cX1_leftBySeed 22 = .ok (.getfield 9, 3) := by decide +kernel
theorem dX1_leftBySeed_25 : decode cX1_leftBySeed 25 = .ok (.iload 4, 2) := by decide +kernel
theorem dX1_leftBySeed_27 : decode cX1_leftBySeed 27 = .ok (.iconst 1, 1) := by decide +kernel
theorem dX1_leftBySeed_28 : decode cX1_leftBySeed 28 = .ok (.aload_n 0, 1) := by decide +kernel
theorem dX1_leftBySeed_29 : decode cX1_leftBySeed 29 = .ok (.iload 4, 2) := by decide +kernel
theorem dX1_leftBySeed_31 : decode cX1_leftBySeed 31 = .ok (.iload_n 1, 1) := by decide +kernel
theorem dX1_leftBySeed_32 : decode cX1_leftBySeed 32 = .ok (.iload_n 2, 1) := by decide +kernel
theorem dX1_leftBySeed_33 : decode cX1_leftBySeed 33 = .ok (.invokevirtual 68, 3) := by decide +kernel
theorem dX1_leftBySeed_36 : decode cX1_leftBySeed 36 = .ok (.iadd, 1) := by decide +kernel
theorem dX1_leftBySeed_37 : decode cX1_leftBySeed 37 = .ok (.invokevirtual 45, 3) := by decide +kernel
theorem dX1_leftBySeed_40 : decode cX1_leftBySeed 40 = .ok (.iadd, 1) := by decide +kernel
theorem dX1_leftBySeed_41 : decode cX1_leftBySeed 41 = .ok (.istore_n 3, 1) := by decide +kernel
theorem dX1_leftBySeed_42 : decode cX1_leftBySeed 42 = .ok (.iinc 4 1, 3) := by decide +kernel
theorem dX1_leftBySeed_45 : decode cX1_leftBySeed 45 = .ok (.goto (-40), 3) := by decide +kernel
theorem dX1_leftBySeed_48 : decode cX1_leftBySeed 48 = .ok (.iload_n 3, 1) := by decide +kernel
theorem dX1_leftBySeed_49 : decode cX1_leftBySeed 49 = .ok (.ireturn, 1) := by decide +kernel
theorem dX1_lostBySeed_0 : decode cX1_lostBySeed 0 = .ok (.iload_n 2, 1) := by decide +kernel
theorem dX1_lostBySeed_1 : decode cX1_lostBySeed 1 = .ok (.i2l, 1) := by decide +kernel
theorem dX1_lostBySeed_2 : decode cX1_lostBySeed 2 = .ok (.lstore 4, 2) := by decide +kernel
theorem dX1_lostBySeed_4 : decode cX1_lostBySeed 4 = .ok (.iconst 0, 1) := by decide +kernel
theorem dX1_lostBySeed_5 : decode cX1_lostBySeed 5 = .ok (.istore 6, 2) := by decide +kernel
theorem dX1_lostBySeed_7 : decode cX1_lostBySeed 7 = .ok (.iconst 0, 1) := by decide +kernel
theorem dX1_lostBySeed_8 : decode cX1_lostBySeed 8 = .ok (.istore 7, 2) := by decide +kernel
theorem dX1_lostBySeed_10 : decode cX1_lostBySeed 10 = .ok (.iload 7, 2) := by decide +kernel
theorem dX1_lostBySeed_12 : decode cX1_lostBySeed 12 = .ok (.iload_n 3, 1) := by decide +kernel
theorem dX1_lostBySeed_13 : decode cX1_lostBySeed 13 = .ok (.if_icmp .ge 77, 3) := by decide +kernel
theorem dX1_lostBySeed_16 : decode cX1_lostBySeed 16 = .ok (.lload 4, 2) := by decide +kernel
theorem dX1_lostBySeed_18 : decode cX1_lostBySeed 18 = .ok (.ldc2_w 71, 3) := by decide +kernel
theorem dX1_lostBySeed_21 : decode cX1_lostBySeed 21 = .ok (.lmul, 1) := by decide +kernel
theorem dX1_lostBySeed_22 : decode cX1_lostBySeed 22 = .ok (.ldc2_w 73, 3) := by decide +kernel
theorem dX1_lostBySeed_25 : decode cX1_lostBySeed 25 = .ok (.ladd, 1) := by decide +kernel
theorem dX1_lostBySeed_26 : decode cX1_lostBySeed 26 = .ok (.ldc2_w 75, 3) := by decide +kernel
theorem dX1_lostBySeed_29 : decode cX1_lostBySeed 29 = .ok (.lrem, 1) := by decide +kernel
theorem dX1_lostBySeed_30 : decode cX1_lostBySeed 30 = .ok (.lstore 4, 2) := by decide +kernel
theorem dX1_lostBySeed_32 : decode cX1_lostBySeed 32 = .ok (.lload 4, 2) := by decide +kernel
theorem dX1_lostBySeed_34 : decode cX1_lostBySeed 34 = .ok (.ldc2_w 77, 3) := by decide +kernel
theorem dX1_lostBySeed_37 : decode cX1_lostBySeed 37 = .ok (.ldiv, 1) := by decide +kernel
theorem dX1_lostBySeed_38 : decode cX1_lostBySeed 38 = .ok (.ldc2_w 79, 3) := by decide +kernel
theorem dX1_lostBySeed_41 : decode cX1_lostBySeed 41 = .ok (.lrem, 1) := by decide +kernel
theorem dX1_lostBySeed_42 : decode cX1_lostBySeed 42 = .ok (.iload_n 1, 1) := by decide +kernel
theorem dX1_lostBySeed_43 : decode cX1_lostBySeed 43 = .ok (.i2l, 1) := by decide +kernel
theorem dX1_lostBySeed_44 : decode cX1_lostBySeed 44 = .ok (.lcmp, 1) := by decide +kernel
theorem dX1_lostBySeed_45 : decode cX1_lostBySeed 45 = .ok (.ifCond .ne 16, 3) := by decide +kernel
theorem dX1_lostBySeed_48 : decode cX1_lostBySeed 48 = .ok (.iload 6, 2) := by decide +kernel
theorem dX1_lostBySeed_50 : decode cX1_lostBySeed 50 = .ok (.aload_n 0, 1) := by decide +kernel
theorem dX1_lostBySeed_51 : decode cX1_lostBySeed 51 = .ok (.getfield 9, 3) := by decide +kernel
theorem dX1_lostBySeed_54 : decode cX1_lostBySeed 54 = .ok (.iload_n 1, 1) := by decide +kernel
theorem dX1_lostBySeed_55 : decode cX1_lostBySeed 55 = .ok (.invokevirtual 59, 3) := by decide +kernel
theorem dX1_lostBySeed_58 : decode cX1_lostBySeed 58 = .ok (.iadd, 1) := by decide +kernel
theorem dX1_lostBySeed_59 : decode cX1_lostBySeed 59 = .ok (.istore 6, 2) := by decide +kernel
theorem dX1_lostBySeed_61 : decode cX1_lostBySeed 61 = .ok (.iload 6, 2) := by decide +kernel
theorem dX1_lostBySeed_63 : decode cX1_lostBySeed 63 = .ok (.aload_n 0, 1) := by decide +kernel
theorem dX1_lostBySeed_64 : decode cX1_lostBySeed 64 = .ok (.getfield 9, 3) := by decide +kernel
theorem dX1_lostBySeed_67 : decode cX1_lostBySeed 67 = .ok (.iload_n 1, 1) := by decide +kernel
theorem dX1_lostBySeed_68 : decode cX1_lostBySeed 68 = .ok (.aload_n 0, 1) := by decide +kernel
theorem dX1_lostBySeed_69 : decode cX1_lostBySeed 69 = .ok (.getfield 9, 3) := by decide +kernel
theorem dX1_lostBySeed_72 : decode cX1_lostBySeed 72 = .ok (.getfield 33, 3) := by decide +kernel
theorem dX1_lostBySeed_75 : decode cX1_lostBySeed 75 = .ok (.iload 7, 2) := by decide +kernel
theorem dX1_lostBySeed_77 : decode cX1_lostBySeed 77 = .ok (.iadd, 1) := by decide +kernel
theorem dX1_lostBySeed_78 : decode cX1_lostBySeed 78 = .ok (.invokevirtual 56, 3) := by decide +kernel
theorem dX1_lostBySeed_81 : decode cX1_lostBySeed 81 = .ok (.iadd, 1) := by decide +kernel
theorem dX1_lostBySeed_82 : decode cX1_lostBySeed 82 = .ok (.istore 6, 2) := by decide +kernel
theorem dX1_lostBySeed_84 : decode cX1_lostBySeed 84 = .ok (.iinc 7 1, 3) := by decide +kernel
theorem dX1_lostBySeed_87 : decode cX1_lostBySeed 87 = .ok (.goto (-77), 3) := by decide +kernel
theorem dX1_lostBySeed_90 : decode cX1_lostBySeed 90 = .ok (.iload 6, 2) := by decide +kernel
theorem dX1_lostBySeed_92 : decode cX1_lostBySeed 92 = .ok (.ireturn, 1) := by decide +kernel
theorem dX2_meltBy_0 : decode cX2_meltBy 0 = .ok (.iload_n 1, 1) := by decide +kernel
theorem dX2_meltBy_1 : decode cX2_meltBy 1 = .ok (.iconst 2, 1) := by decide +kernel
theorem dX2_meltBy_2 : decode cX2_meltBy 2 = .ok (.irem, 1) := by decide +kernel
theorem dX2_meltBy_3 : decode cX2_meltBy 3 = .ok (.ifCond .ne 12, 3) := by decide +kernel
theorem dX2_meltBy_6 : decode cX2_meltBy 6 = .ok (.iload_n 2, 1) := by decide +kernel
theorem dX2_meltBy_7 : decode cX2_meltBy 7 = .ok (.iconst 5, 1) := by decide +kernel
theorem dX2_meltBy_8 : decode cX2_meltBy 8 = .ok (.if_icmp .lt 7, 3) := by decide +kernel
theorem dX2_meltBy_11 : decode cX2_meltBy 11 = .ok (.iconst 0, 1) := by decide +kernel
theorem dX2_meltBy_12 : decode cX2_meltBy 12 = .ok (.goto 4, 3) := by decide +kernel
theorem dX2_meltBy_15 : decode cX2_meltBy 15 = .ok (.iconst 1, 1) := by decide +kernel
theorem dX2_meltBy_16 : decode cX2_meltBy 16 = .ok (.istore_n 3, 1) := by decide +kernel
theorem dX2_meltBy_17 : decode cX2_meltBy 17 = .ok (.iload_n 1, 1) := by decide +kernel
theorem dX2_meltBy_18 : decode cX2_meltBy 18 = .ok (.iconst 3, 1) := by decide +kernel
theorem dX2_meltBy_19 : decode cX2_meltBy 19 = .ok (.irem, 1) := by decide +kernel
theorem dX2_meltBy_20 : decode cX2_meltBy 20 = .ok (.ifCond .ne 7, 3) := by decide +kernel
theorem dX2_meltBy_23 : decode cX2_meltBy 23 = .ok (.iconst 0, 1) := by decide +kernel
theorem dX2_meltBy_24 : decode cX2_meltBy 24 = .ok (.goto 4, 3) := by decide +kernel
theorem dX2_meltBy_27 : decode cX2_meltBy 27 = .ok (.iload_n 3, 1) := by decide +kernel
theorem dX2_meltBy_28 : decode cX2_meltBy 28 = .ok (.istore 4, 2) := by decide +kernel
theorem dX2_meltBy_30 : decode cX2_meltBy 30 = .ok (.iload_n 3, 1) := by decide +kernel
theorem dX2_meltBy_31 : decode cX2_meltBy 31 = .ok (.iconst 1, 1) := by decide +kernel
theorem dX2_meltBy_32 : decode cX2_meltBy 32 = .ok (.iadd, 1) := by decide +kernel
theorem dX2_meltBy_33 : decode cX2_meltBy 33 = .ok (.istore 5, 2) := by decide +kernel
theorem dX2_meltBy_35 : decode cX2_meltBy 35 = .ok (.iload_n 0, 1) := by decide +kernel
theorem dX2_meltBy_36 : decode cX2_meltBy 36 = .ok (.tableswitch 60 1 5 #[36, 39, 42, 44, 57], 36) := by decide +kernel
theorem dX2_meltBy_72 : decode cX2_meltBy 72 = .ok (.iload 4, 2) := by decide +kernel
theorem dX2_meltBy_74 : decode cX2_meltBy 74 = .ok (.ireturn, 1) := by decide +kernel
theorem dX2_meltBy_75 : decode cX2_meltBy 75 = .ok (.iload 5, 2) := by decide +kernel
theorem dX2_meltBy_77 : decode cX2_meltBy 77 = .ok (.ireturn, 1) := by decide +kernel
theorem dX2_meltBy_78 : decode cX2_meltBy 78 = .ok (.iconst 0, 1) := by decide +kernel
theorem dX2_meltBy_79 : decode cX2_meltBy 79 = .ok (.ireturn, 1) := by decide +kernel
theorem dX2_meltBy_80 : decode cX2_meltBy 80 = .ok (.iload_n 2, 1) := by decide +kernel
theorem dX2_meltBy_81 : decode cX2_meltBy 81 = .ok (.bipush 8, 2) := by decide +kernel
theorem dX2_meltBy_83 : decode cX2_meltBy 83 = .ok (.if_icmp .lt 7, 3) := by decide +kernel
theorem dX2_meltBy_86 : decode cX2_meltBy 86 = .ok (.iconst 0, 1) := by decide +kernel
theorem dX2_meltBy_87 : decode cX2_meltBy 87 = .ok (.goto 5, 3) := by decide +kernel
theorem dX2_meltBy_90 : decode cX2_meltBy 90 = .ok (.iload 4, 2) := by decide +kernel
theorem dX2_meltBy_92 : decode cX2_meltBy 92 = .ok (.ireturn, 1) := by decide +kernel
theorem dX2_meltBy_93 : decode cX2_meltBy 93 = .ok (.iload 5, 2) := by decide +kernel
theorem dX2_meltBy_95 : decode cX2_meltBy 95 = .ok (.ireturn, 1) := by decide +kernel
theorem dX2_meltBy_96 : decode cX2_meltBy 96 = .ok (.iload_n 3, 1) := by decide +kernel
theorem dX2_meltBy_97 : decode cX2_meltBy 97 = .ok (.ireturn, 1) := by decide +kernel
theorem dX2_costOfDoor_0 : decode cX2_costOfDoor 0 = .ok (.iload_n 0, 1) := by decide +kernel
theorem dX2_costOfDoor_1 : decode cX2_costOfDoor 1 = .ok (.lookupswitch 31 #[(4, 27), (5, 29)], 27) := by decide +kernel
theorem dX2_costOfDoor_28 : decode cX2_costOfDoor 28 = .ok (.iconst 0, 1) := by decide +kernel
theorem dX2_costOfDoor_29 : decode cX2_costOfDoor 29 = .ok (.ireturn, 1) := by decide +kernel
theorem dX2_costOfDoor_30 : decode cX2_costOfDoor 30 = .ok (.iconst 2, 1) := by decide +kernel
theorem dX2_costOfDoor_31 : decode cX2_costOfDoor 31 = .ok (.ireturn, 1) := by decide +kernel
theorem dX2_costOfDoor_32 : decode cX2_costOfDoor 32 = .ok (.iconst 1, 1) := by decide +kernel
theorem dX2_costOfDoor_33 : decode cX2_costOfDoor 33 = .ok (.ireturn, 1) := by decide +kernel
theorem dX2_farBy_0 : decode cX2_farBy 0 = .ok (.iconst 0, 1) := by decide +kernel
theorem dX2_farBy_1 : decode cX2_farBy 1 = .ok (.iconst 2, 1) := by decide +kernel
theorem dX2_farBy_2 : decode cX2_farBy 2 = .ok (.iload_n 1, 1) := by decide +kernel
theorem dX2_farBy_3 : decode cX2_farBy 3 = .ok (.imul, 1) := by decide +kernel
theorem dX2_farBy_4 : decode cX2_farBy 4 = .ok (.iload_n 2, 1) := by decide +kernel
theorem dX2_farBy_5 : decode cX2_farBy 5 = .ok (.iadd, 1) := by decide +kernel
theorem dX2_farBy_6 : decode cX2_farBy 6 = .ok (.iload_n 3, 1) := by decide +kernel
theorem dX2_farBy_7 : decode cX2_farBy 7 = .ok (.isub, 1) := by decide +kernel
theorem dX2_farBy_8 : decode cX2_farBy 8 = .ok (.invokestatic 7, 3) := by decide +kernel
theorem dX2_farBy_11 : decode cX2_farBy 11 = .ok (.istore 4, 2) := by decide +kernel
theorem dX2_farBy_13 : decode cX2_farBy 13 = .ok (.iload_n 2, 1) := by decide +kernel
theorem dX2_farBy_14 : decode cX2_farBy 14 = .ok (.iconst 3, 1) := by decide +kernel
theorem dX2_farBy_15 : decode cX2_farBy 15 = .ok (.if_icmp .le 7, 3) := by decide +kernel
theorem dX2_farBy_18 : decode cX2_farBy 18 = .ok (.iconst 0, 1) := by decide +kernel
theorem dX2_farBy_19 : decode cX2_farBy 19 = .ok (.goto 5, 3) := by decide +kernel
theorem dX2_farBy_22 : decode cX2_farBy 22 = .ok (.iload 4, 2) := by decide +kernel
theorem dX2_farBy_24 : decode cX2_farBy 24 = .ok (.istore 5, 2) := by decide +kernel
theorem dX2_farBy_26 : decode cX2_farBy 26 = .ok (.iload_n 0, 1) := by decide +kernel
theorem dX2_farBy_27 : decode cX2_farBy 27 = .ok (.tableswitch 65 1 5 #[33, 36, 41, 50, 62], 33) := by decide +kernel
theorem dX2_farBy_60 : decode cX2_farBy 60 = .ok (.iload 5, 2) := by decide +kernel
theorem dX2_farBy_62 : decode cX2_farBy 62 = .ok (.ireturn, 1) := by decide +kernel
theorem dX2_farBy_63 : decode cX2_farBy 63 = .ok (.iload 4, 2) := by decide +kernel
theorem dX2_farBy_65 : decode cX2_farBy 65 = .ok (.iconst 4, 1) := by decide +kernel
theorem dX2_farBy_66 : decode cX2_farBy 66 = .ok (.iadd, 1) := by decide +kernel
theorem dX2_farBy_67 : decode cX2_farBy 67 = .ok (.ireturn, 1) := by decide +kernel
theorem dX2_farBy_68 : decode cX2_farBy 68 = .ok (.iconst 0, 1) := by decide +kernel
theorem dX2_farBy_69 : decode cX2_farBy 69 = .ok (.iload 4, 2) := by decide +kernel
theorem dX2_farBy_71 : decode cX2_farBy 71 = .ok (.iload_n 3, 1) := by decide +kernel
theorem dX2_farBy_72 : decode cX2_farBy 72 = .ok (.isub, 1) := by decide +kernel
theorem dX2_farBy_73 : decode cX2_farBy 73 = .ok (.invokestatic 7, 3) := by decide +kernel
theorem dX2_farBy_76 : decode cX2_farBy 76 = .ok (.ireturn, 1) := by decide +kernel
theorem dX2_farBy_77 : decode cX2_farBy 77 = .ok (.iconst 0, 1) := by decide +kernel
theorem dX2_farBy_78 : decode cX2_farBy 78 = .ok (.iconst 2, 1) := by decide +kernel
theorem dX2_farBy_79 : decode cX2_farBy 79 = .ok (.iload_n 1, 1) := by decide +kernel
theorem dX2_farBy_80 : decode cX2_farBy 80 = .ok (.imul, 1) := by decide +kernel
theorem dX2_farBy_81 : decode cX2_farBy 81 = .ok (.iload_n 2, 1) := by decide +kernel
theorem dX2_farBy_82 : decode cX2_farBy 82 = .ok (.iadd, 1) := by decide +kernel
theorem dX2_farBy_83 : decode cX2_farBy 83 = .ok (.invokestatic 7, 3) := by decide +kernel
theorem dX2_farBy_86 : decode cX2_farBy 86 = .ok (.iconst 4, 1) := by decide +kernel
theorem dX2_farBy_87 : decode cX2_farBy 87 = .ok (.iadd, 1) := by decide +kernel
theorem dX2_farBy_88 : decode cX2_farBy 88 = .ok (.ireturn, 1) := by decide +kernel
theorem dX2_farBy_89 : decode cX2_farBy 89 = .ok (.iload 5, 2) := by decide +kernel
theorem dX2_farBy_91 : decode cX2_farBy 91 = .ok (.ireturn, 1) := by decide +kernel
theorem dX2_farBy_92 : decode cX2_farBy 92 = .ok (.iload 4, 2) := by decide +kernel
theorem dX2_farBy_94 : decode cX2_farBy 94 = .ok (.ireturn, 1) := by decide +kernel
theorem dX2_hitsBy_0 : decode cX2_hitsBy 0 = .ok (.iload_n 1, 1) := by decide +kernel
theorem dX2_hitsBy_1 : decode cX2_hitsBy 1 = .ok (.iconst 2, 1) := by decide +kernel
theorem dX2_hitsBy_2 : decode cX2_hitsBy 2 = .ok (.iadd, 1) := by decide +kernel
theorem dX2_hitsBy_3 : decode cX2_hitsBy 3 = .ok (.iconst 3, 1) := by decide +kernel
theorem dX2_hitsBy_4 : decode cX2_hitsBy 4 = .ok (.idiv, 1) := by decide +kernel
theorem dX2_hitsBy_5 : decode cX2_hitsBy 5 = .ok (.istore_n 2, 1) := by decide +kernel
theorem dX2_hitsBy_6 : decode cX2_hitsBy 6 = .ok (.iload_n 2, 1) := by decide +kernel
theorem dX2_hitsBy_7 : decode cX2_hitsBy 7 = .ok (.iconst 2, 1) := by decide +kernel
theorem dX2_hitsBy_8 : decode cX2_hitsBy 8 = .ok (.iadd, 1) := by decide +kernel
theorem dX2_hitsBy_9 : decode cX2_hitsBy 9 = .ok (.istore_n 3, 1) := by decide +kernel
theorem dX2_hitsBy_10 : decode cX2_hitsBy 10 = .ok (.iload_n 0, 1) := by decide +kernel
theorem dX2_hitsBy_11 : decode cX2_hitsBy 11 = .ok (.tableswitch 53 1 5 #[33, 53, 35, 53, 49], 33) := by decide +kernel
theorem dX2_hitsBy_44 : decode cX2_hitsBy 44 = .ok (.iload_n 3, 1) := by decide +kernel
theorem dX2_hitsBy_45 : decode cX2_hitsBy 45 = .ok (.ireturn, 1) := by decide +kernel
theorem dX2_hitsBy_46 : decode cX2_hitsBy 46 = .ok (.iload_n 1, 1) := by decide +kernel
theorem dX2_hitsBy_47 : decode cX2_hitsBy 47 = .ok (.bipush 7, 2) := by decide +kernel
theorem dX2_hitsBy_49 : decode cX2_hitsBy 49 = .ok (.if_icmp .lt 9, 3) := by decide +kernel
theorem dX2_hitsBy_52 : decode cX2_hitsBy 52 = .ok (.iload_n 2, 1) := by decide +kernel
theorem dX2_hitsBy_53 : decode cX2_hitsBy 53 = .ok (.iconst 1, 1) := by decide +kernel
theorem dX2_hitsBy_54 : decode cX2_hitsBy 54 = .ok (.iadd, 1) := by decide +kernel
theorem dX2_hitsBy_55 : decode cX2_hitsBy 55 = .ok (.goto 4, 3) := by decide +kernel
theorem dX2_hitsBy_58 : decode cX2_hitsBy 58 = .ok (.iload_n 2, 1) := by decide +kernel
theorem dX2_hitsBy_59 : decode cX2_hitsBy 59 = .ok (.ireturn, 1) := by decide +kernel
theorem dX2_hitsBy_60 : decode cX2_hitsBy 60 = .ok (.iconst 2, 1) := by decide +kernel
theorem dX2_hitsBy_61 : decode cX2_hitsBy 61 = .ok (.iload_n 3, 1) := by decide +kernel
theorem dX2_hitsBy_62 : decode cX2_hitsBy 62 = .ok (.imul, 1) := by decide +kernel
theorem dX2_hitsBy_63 : decode cX2_hitsBy 63 = .ok (.ireturn, 1) := by decide +kernel
theorem dX2_hitsBy_64 : decode cX2_hitsBy 64 = .ok (.iload_n 2, 1) := by decide +kernel
theorem dX2_hitsBy_65 : decode cX2_hitsBy 65 = .ok (.ireturn, 1) := by decide +kernel
theorem dX3_init_0 : decode cX3_init 0 = .ok (.aload_n 0, 1) := by decide +kernel
theorem dX3_init_1 : decode cX3_init 1 = .ok (.invokespecial 3, 3) := by decide +kernel
theorem dX3_init_4 : decode cX3_init 4 = .ok (.aload_n 0, 1) := by decide +kernel
theorem dX3_init_5 : decode cX3_init 5 = .ok (.sipush 150, 3) := by decide +kernel
theorem dX3_init_8 : decode cX3_init 8 = .ok (.newarray .int, 2) := by decide +kernel
theorem dX3_init_10 : decode cX3_init 10 = .ok (.putfield 9, 3) := by decide +kernel
theorem dX3_init_13 : decode cX3_init 13 = .ok (.aload_n 0, 1) := by decide +kernel
theorem dX3_init_14 : decode cX3_init 14 = .ok (.aload_n 1, 1) := by decide +kernel
theorem dX3_init_15 : decode cX3_init 15 = .ok (.putfield 15, 3) := by decide +kernel
theorem dX3_init_18 : decode cX3_init 18 = .ok (.return_, 1) := by decide +kernel
theorem dX3_isTextFull_0 : decode cX3_isTextFull 0 = .ok (.aload_n 0, 1) := by decide +kernel
theorem dX3_isTextFull_1 : decode cX3_isTextFull 1 = .ok (.getfield 19, 3) := by decide +kernel
theorem dX3_isTextFull_4 : decode cX3_isTextFull 4 = .ok (.aload_n 0, 1) := by decide +kernel
theorem dX3_isTextFull_5 : decode cX3_isTextFull 5 = .ok (.getfield 9, 3) := by decide +kernel
theorem dX3_isTextFull_8 : decode cX3_isTextFull 8 = .ok (.arraylength, 1) := by decide +kernel
theorem dX3_isTextFull_9 : decode cX3_isTextFull 9 = .ok (.if_icmp .lt 7, 3) := by decide +kernel
theorem dX3_isTextFull_12 : decode cX3_isTextFull 12 = .ok (.iconst 1, 1) := by decide +kernel
theorem dX3_isTextFull_13 : decode cX3_isTextFull 13 = .ok (.goto 4, 3) := by decide +kernel
theorem dX3_isTextFull_16 : decode cX3_isTextFull 16 = .ok (.iconst 0, 1) := by decide +kernel
theorem dX3_isTextFull_17 : decode cX3_isTextFull 17 = .ok (.ireturn, 1) := by decide +kernel
theorem dX3_append_0 : decode cX3_append 0 = .ok (.aload_n 0, 1) := by decide +kernel
theorem dX3_append_1 : decode cX3_append 1 = .ok (.getfield 19, 3) := by decide +kernel
theorem dX3_append_4 : decode cX3_append 4 = .ok (.ifCond .lt 35, 3) := by decide +kernel
theorem dX3_append_7 : decode cX3_append 7 = .ok (.aload_n 0, 1) := by decide +kernel
theorem dX3_append_8 : decode cX3_append 8 = .ok (.getfield 19, 3) := by decide +kernel
theorem dX3_append_11 : decode cX3_append 11 = .ok (.aload_n 0, 1) := by decide +kernel
theorem dX3_append_12 : decode cX3_append 12 = .ok (.getfield 9, 3) := by decide +kernel
theorem dX3_append_15 : decode cX3_append 15 = .ok (.arraylength, 1) := by decide +kernel
theorem dX3_append_16 : decode cX3_append 16 = .ok (.if_icmp .ge 23, 3) := by decide +kernel
theorem dX3_append_19 : decode cX3_append 19 = .ok (.aload_n 0, 1) := by decide +kernel
theorem dX3_append_20 : decode cX3_append 20 = .ok (.getfield 9, 3) := by decide +kernel
theorem dX3_append_23 : decode cX3_append 23 = .ok (.aload_n 0, 1) := by decide +kernel
theorem dX3_append_24 : decode cX3_append 24 = .ok (.getfield 19, 3) := by decide +kernel
theorem dX3_append_27 : decode cX3_append 27 = .ok (.iload_n 1, 1) := by decide +kernel
theorem dX3_append_28 : decode cX3_append 28 = .ok (.iastore, 1) := by decide +kernel
theorem dX3_append_29 : decode cX3_append 29 = .ok (.aload_n 0, 1) := by decide +kernel
theorem dX3_append_30 : decode cX3_append 30 = .ok (.dup, 1) := by decide +kernel
theorem dX3_append_31 : decode cX3_append 31 = .ok (.getfield 19, 3) := by decide +kernel
theorem dX3_append_34 : decode cX3_append 34 = .ok (.iconst 1, 1) := by decide +kernel
theorem dX3_append_35 : decode cX3_append 35 = .ok (.iadd, 1) := by decide +kernel
theorem dX3_append_36 : decode cX3_append 36 = .ok (.putfield 19, 3) := by decide +kernel
theorem dX3_append_39 : decode cX3_append 39 = .ok (.aload_n 0, 1) := by decide +kernel
theorem dX3_append_40 : decode cX3_append 40 = .ok (.getfield 19, 3) := by decide +kernel
theorem dX3_append_43 : decode cX3_append 43 = .ok (.ireturn, 1) := by decide +kernel
theorem dX3_dropText_0 : decode cX3_dropText 0 = .ok (.aload_n 0, 1) := by decide +kernel
theorem dX3_dropText_1 : decode cX3_dropText 1 = .ok (.getfield 19, 3) := by decide +kernel
theorem dX3_dropText_4 : decode cX3_dropText 4 = .ok (.istore_n 1, 1) := by decide +kernel
theorem dX3_dropText_5 : decode cX3_dropText 5 = .ok (.aload_n 0, 1) := by decide +kernel
theorem dX3_dropText_6 : decode cX3_dropText 6 = .ok (.iconst 0, 1) := by decide +kernel
theorem dX3_dropText_7 : decode cX3_dropText 7 = .ok (.putfield 19, 3) := by decide +kernel
theorem dX3_dropText_10 : decode cX3_dropText 10 = .ok (.iload_n 1, 1) := by decide +kernel
theorem dX3_dropText_11 : decode cX3_dropText 11 = .ok (.ireturn, 1) := by decide +kernel
theorem dX3_readStore_0 : decode cX3_readStore 0 = .ok (.aload_n 0, 1) := by decide +kernel
theorem dX3_readStore_1 : decode cX3_readStore 1 = .ok (.getfield 15, 3) := by decide +kernel
theorem dX3_readStore_4 : decode cX3_readStore 4 = .ok (.iconst 0, 1) := by decide +kernel
theorem dX3_readStore_5 : decode cX3_readStore 5 = .ok (.invokevirtual 23, 3) := by decide +kernel
theorem dX3_readStore_8 : decode cX3_readStore 8 = .ok (.aload_n 0, 1) := by decide +kernel
theorem dX3_readStore_9 : decode cX3_readStore 9 = .ok (.iconst 0, 1) := by decide +kernel
theorem dX3_readStore_10 : decode cX3_readStore 10 = .ok (.putfield 29, 3) := by decide +kernel
theorem dX3_readStore_13 : decode cX3_readStore 13 = .ok (.aload_n 0, 1) := by decide +kernel
theorem dX3_readStore_14 : decode cX3_readStore 14 = .ok (.invokevirtual 32, 3) := by decide +kernel
theorem dX3_readStore_17 : decode cX3_readStore 17 = .ok (.aload_n 0, 1) := by decide +kernel
theorem dX3_readStore_18 : decode cX3_readStore 18 = .ok (.ldc 35, 2) := by decide +kernel
theorem dX3_readStore_20 : decode cX3_readStore 20 = .ok (.invokevirtual 37, 3) := by decide +kernel
theorem dX3_readStore_23 : decode cX3_readStore 23 = .ok (.ifCond .eq 14, 3) := by decide +kernel
theorem dX3_readStore_26 : decode cX3_readStore 26 = .ok (.aload_n 0, 1) := by decide +kernel
theorem dX3_readStore_27 : decode cX3_readStore 27 = .ok (.invokevirtual 41, 3) := by decide +kernel
theorem dX3_readStore_30 : decode cX3_readStore 30 = .ok (.ifCond .eq 7, 3) := by decide +kernel
theorem dX3_readStore_33 : decode cX3_readStore 33 = .ok (.iconst 1, 1) := by decide +kernel
theorem dX3_readStore_34 : decode cX3_readStore 34 = .ok (.goto 4, 3) := by decide +kernel
theorem dX3_readStore_37 : decode cX3_readStore 37 = .ok (.iconst 0, 1) := by decide +kernel
theorem dX3_readStore_38 : decode cX3_readStore 38 = .ok (.istore_n 1, 1) := by decide +kernel
theorem dX3_readStore_39 : decode cX3_readStore 39 = .ok (.iconst 1, 1) := by decide +kernel
theorem dX3_readStore_40 : decode cX3_readStore 40 = .ok (.istore_n 2, 1) := by decide +kernel
theorem dX3_readStore_41 : decode cX3_readStore 41 = .ok (.iload_n 1, 1) := by decide +kernel
theorem dX3_readStore_42 : decode cX3_readStore 42 = .ok (.ifCond .eq 93, 3) := by decide +kernel
theorem dX3_readStore_45 : decode cX3_readStore 45 = .ok (.aload_n 0, 1) := by decide +kernel
theorem dX3_readStore_46 : decode cX3_readStore 46 = .ok (.getfield 45, 3) := by decide +kernel
theorem dX3_readStore_49 : decode cX3_readStore 49 = .ok (.ifCond .eq 86, 3) := by decide +kernel
theorem dX3_readStore_52 : decode cX3_readStore 52 = .ok (.iload_n 2, 1) := by decide +kernel
theorem dX3_readStore_53 : decode cX3_readStore 53 = .ok (.sipush 150, 3) := by decide +kernel
theorem dX3_readStore_56 : decode cX3_readStore 56 = .ok (.if_icmp .gt 79, 3) := by decide +kernel
theorem dX3_readStore_59 : decode cX3_readStore 59 = .ok (.aload_n 0, 1) := by decide +kernel
theorem dX3_readStore_60 : decode cX3_readStore 60 = .ok (.ldc 48, 2) := by decide +kernel
theorem dX3_readStore_62 : decode cX3_readStore 62 = .ok (.invokevirtual 37, 3) := by decide +kernel
theorem dX3_readStore_65 : decode cX3_readStore 65 = .ok (.ifCond .eq 10, 3) := by decide +kernel
theorem dX3_readStore_68 : decode cX3_readStore 68 = .ok (.aload_n 0, 1) := by decide +kernel
theorem dX3_readStore_69 : decode cX3_readStore 69 = .ok (.invokevirtual 50, 3) := by decide +kernel
theorem dX3_readStore_72 : decode cX3_readStore 72 = .ok (.goto 56, 3) := by decide +kernel
theorem dX3_readStore_75 : decode cX3_readStore 75 = .ok (.aload_n 0, 1) := by decide +kernel
theorem dX3_readStore_76 : decode cX3_readStore 76 = .ok (.ldc 53, 2) := by decide +kernel
theorem dX3_readStore_78 : decode cX3_readStore 78 = .ok (.invokevirtual 37, 3) := by decide +kernel
theorem dX3_readStore_81 : decode cX3_readStore 81 = .ok (.ifCond .eq 10, 3) := by decide +kernel
theorem dX3_readStore_84 : decode cX3_readStore 84 = .ok (.aload_n 0, 1) := by decide +kernel
theorem dX3_readStore_85 : decode cX3_readStore 85 = .ok (.invokevirtual 55, 3) := by decide +kernel
theorem dX3_readStore_88 : decode cX3_readStore 88 = .ok (.goto 40, 3) := by decide +kernel
theorem dX3_readStore_91 : decode cX3_readStore 91 = .ok (.aload_n 0, 1) := by decide +kernel
theorem dX3_readStore_92 : decode cX3_readStore 92 = .ok (.ldc 58, 2) := by decide +kernel
theorem dX3_readStore_94 : decode cX3_readStore 94 = .ok (.invokevirtual 37, 3) := by decide +kernel
theorem dX3_readStore_97 : decode cX3_readStore 97 = .ok (.ifCond .eq 10, 3) := by decide +kernel
theorem dX3_readStore_100 : decode cX3_readStore 100 = .ok (.aload_n 0, 1) := by decide +kernel
theorem dX3_readStore_101 : decode cX3_readStore 101 = .ok (.invokevirtual 60, 3) := by decide +kernel
theorem dX3_readStore_104 : decode cX3_readStore 104 = .ok (.goto 24, 3) := by decide +kernel
theorem dX3_readStore_107 : decode cX3_readStore 107 = .ok (.aload_n 0, 1) := by decide +kernel
theorem dX3_readStore_108 : decode cX3_readStore 108 = .ok (.ldc 63, 2) := by decide +kernel
theorem dX3_readStore_110 : decode cX3_readStore 110 = .ok (.invokevirtual 37, 3) := by decide +kernel
theorem dX3_readStore_113 : decode cX3_readStore 113 = .ok (.ifCond .eq 14, 3) := by decide +kernel
theorem dX3_readStore_116 : decode cX3_readStore 116 = .ok (.aload_n 0, 1) := by decide +kernel
theorem dX3_readStore_117 : decode cX3_readStore 117 = .ok (.invokevirtual 65, 3) := by decide +kernel
theorem dX3_readStore_120 : decode cX3_readStore 120 = .ok (.ifCond .eq 7, 3) := by decide +kernel
theorem dX3_readStore_123 : decode cX3_readStore 123 = .ok (.iconst 1, 1) := by decide +kernel
theorem dX3_readStore_124 : decode cX3_readStore 124 = .ok (.goto 4, 3) := by decide +kernel
theorem dX3_readStore_127 : decode cX3_readStore 127 = .ok (.iconst 0, 1) := by decide +kernel
theorem dX3_readStore_128 : decode cX3_readStore 128 = .ok (.istore_n 1, 1) := by decide +kernel
theorem dX3_readStore_129 : decode cX3_readStore 129 = .ok (.iinc 2 1, 3) := by decide +kernel
theorem dX3_readStore_132 : decode cX3_readStore 132 = .ok (.goto (-91), 3) := by decide +kernel
theorem dX3_readStore_135 : decode cX3_readStore 135 = .ok (.iload_n 1, 1) := by decide +kernel
theorem dX3_readStore_136 : decode cX3_readStore 136 = .ok (.ifCond .eq 7, 3) := by decide +kernel
theorem dX3_readStore_139 : decode cX3_readStore 139 = .ok (.iload_n 2, 1) := by decide +kernel
theorem dX3_readStore_140 : decode cX3_readStore 140 = .ok (.goto 10, 3) := by decide +kernel
theorem dX3_readStore_143 : decode cX3_readStore 143 = .ok (.bipush (-10), 2) := by decide +kernel
theorem dX3_readStore_145 : decode cX3_readStore 145 = .ok (.aload_n 0, 1) := by decide +kernel
theorem dX3_readStore_146 : decode cX3_readStore 146 = .ok (.getfield 68, 3) := by decide +kernel
theorem dX3_readStore_149 : decode cX3_readStore 149 = .ok (.isub, 1) := by decide +kernel
theorem dX3_readStore_150 : decode cX3_readStore 150 = .ok (.ireturn, 1) := by decide +kernel
theorem dX3_storeItem_0 : decode cX3_storeItem 0 = .ok (.aload_n 0, 1) := by decide +kernel
theorem dX3_storeItem_1 : decode cX3_storeItem 1 = .ok (.invokevirtual 32, 3) := by decide +kernel
theorem dX3_storeItem_4 : decode cX3_storeItem 4 = .ok (.aload_n 0, 1) := by decide +kernel
theorem dX3_storeItem_5 : decode cX3_storeItem 5 = .ok (.iconst 0, 1) := by decide +kernel
theorem dX3_storeItem_6 : decode cX3_storeItem 6 = .ok (.bipush 9, 2) := by decide +kernel
theorem dX3_storeItem_8 : decode cX3_storeItem 8 = .ok (.invokevirtual 71, 3) := by decide +kernel
theorem dX3_storeItem_11 : decode cX3_storeItem 11 = .ok (.istore_n 1, 1) := by decide +kernel
theorem dX3_storeItem_12 : decode cX3_storeItem 12 = .ok (.iload_n 1, 1) := by decide +kernel
theorem dX3_storeItem_13 : decode cX3_storeItem 13 = .ok (.iconst (-1), 1) := by decide +kernel
theorem dX3_storeItem_14 : decode cX3_storeItem 14 = .ok (.if_icmp .ne 5, 3) := by decide +kernel
theorem dX3_storeItem_17 : decode cX3_storeItem 17 = .ok (.iconst 0, 1) := by decide +kernel
theorem dX3_storeItem_18 : decode cX3_storeItem 18 = .ok (.ireturn, 1) := by decide +kernel
theorem dX3_storeItem_19 : decode cX3_storeItem 19 = .ok (.aload_n 0, 1) := by decide +kernel
theorem dX3_storeItem_20 : decode cX3_storeItem 20 = .ok (.getfield 15, 3) := by decide +kernel
theorem dX3_storeItem_23 : decode cX3_storeItem 23 = .ok (.iload_n 1, 1) := by decide +kernel
theorem dX3_storeItem_24 : decode cX3_storeItem 24 = .ok (.putfield 75, 3) := by decide +kernel
theorem dX3_storeItem_27 : decode cX3_storeItem 27 = .ok (.aload_n 0, 1) := by decide +kernel
theorem dX3_storeItem_28 : decode cX3_storeItem 28 = .ok (.invokevirtual 78, 3) := by decide +kernel
theorem dX3_storeItem_31 : decode cX3_storeItem 31 = .ok (.ireturn, 1) := by decide +kernel
theorem dX3_cellarItem_0 : decode cX3_cellarItem 0 = .ok (.aload_n 0, 1) := by decide +kernel
theorem dX3_cellarItem_1 : decode cX3_cellarItem 1 = .ok (.getfield 15, 3) := by decide +kernel
theorem dX3_cellarItem_4 : decode cX3_cellarItem 4 = .ok (.getfield 81, 3) := by decide +kernel
theorem dX3_cellarItem_7 : decode cX3_cellarItem 7 = .ok (.invokevirtual 85, 3) := by decide +kernel
theorem dX3_cellarItem_10 : decode cX3_cellarItem 10 = .ok (.ifCond .eq 5, 3) := by decide +kernel
theorem dX3_cellarItem_13 : decode cX3_cellarItem 13 = .ok (.iconst 0, 1) := by decide +kernel
theorem dX3_cellarItem_14 : decode cX3_cellarItem 14 = .ok (.ireturn, 1) := by decide +kernel
theorem dX3_cellarItem_15 : decode cX3_cellarItem 15 = .ok (.aload_n 0, 1) := by decide +kernel
theorem dX3_cellarItem_16 : decode cX3_cellarItem 16 = .ok (.invokevirtual 32, 3) := by decide +kernel
theorem dX3_cellarItem_19 : decode cX3_cellarItem 19 = .ok (.aload_n 0, 1) := by decide +kernel
theorem dX3_cellarItem_20 : decode cX3_cellarItem 20 = .ok (.iconst 0, 1) := by decide +kernel
theorem dX3_cellarItem_21 : decode cX3_cellarItem 21 = .ok (.iconst 5, 1) := by decide +kernel
theorem dX3_cellarItem_22 : decode cX3_cellarItem 22 = .ok (.invokevirtual 71, 3) := by decide +kernel
theorem dX3_cellarItem_25 : decode cX3_cellarItem 25 = .ok (.istore_n 1, 1) := by decide +kernel
theorem dX3_cellarItem_26 : decode cX3_cellarItem 26 = .ok (.iload_n 1, 1) := by decide +kernel
theorem dX3_cellarItem_27 : decode cX3_cellarItem 27 = .ok (.iconst (-1), 1) := by decide +kernel
theorem dX3_cellarItem_28 : decode cX3_cellarItem 28 = .ok (.if_icmp .ne 7, 3) := by decide +kernel
theorem dX3_cellarItem_31 : decode cX3_cellarItem 31 = .ok (.iconst (-1), 1) := by decide +kernel
theorem dX3_cellarItem_32 : decode cX3_cellarItem 32 = .ok (.goto 10, 3) := by decide +kernel
theorem dX3_cellarItem_35 : decode cX3_cellarItem 35 = .ok (.aload_n 0, 1) := by decide +kernel
theorem dX3_cellarItem_36 : decode cX3_cellarItem 36 = .ok (.iconst 0, 1) := by decide +kernel
theorem dX3_cellarItem_37 : decode cX3_cellarItem 37 = .ok (.bipush 9, 2) := by decide +kernel
theorem dX3_cellarItem_39 : decode cX3_cellarItem 39 = .ok (.invokevirtual 71, 3) := by decide +kernel
theorem dX3_cellarItem_42 : decode cX3_cellarItem 42 = .ok (.istore_n 2, 1) := by decide +kernel
theorem dX3_cellarItem_43 : decode cX3_cellarItem 43 = .ok (.iload_n 2, 1) := by decide +kernel
theorem dX3_cellarItem_44 : decode cX3_cellarItem 44 = .ok (.iconst (-1), 1) := by decide +kernel
theorem dX3_cellarItem_45 : decode cX3_cellarItem 45 = .ok (.if_icmp .ne 5, 3) := by decide +kernel
theorem dX3_cellarItem_48 : decode cX3_cellarItem 48 = .ok (.iconst 0, 1) := by decide +kernel
theorem dX3_cellarItem_49 : decode cX3_cellarItem 49 = .ok (.ireturn, 1) := by decide +kernel
theorem dX3_cellarItem_50 : decode cX3_cellarItem 50 = .ok (.aload_n 0, 1) := by decide +kernel
theorem dX3_cellarItem_51 : decode cX3_cellarItem 51 = .ok (.getfield 15, 3) := by decide +kernel
theorem dX3_cellarItem_54 : decode cX3_cellarItem 54 = .ok (.iload_n 1, 1) := by decide +kernel
theorem dX3_cellarItem_55 : decode cX3_cellarItem 55 = .ok (.iload_n 2, 1) := by decide +kernel
theorem dX3_cellarItem_56 : decode cX3_cellarItem 56 = .ok (.invokevirtual 90, 3) := by decide +kernel
theorem dX3_cellarItem_59 : decode cX3_cellarItem 59 = .ok (.istore_n 3, 1) := by decide +kernel
theorem dX3_cellarItem_60 : decode cX3_cellarItem 60 = .ok (.iconst 1, 1) := by decide +kernel
theorem dX3_cellarItem_61 : decode cX3_cellarItem 61 = .ok (.istore 4, 2) := by decide +kernel
theorem dX3_cellarItem_63 : decode cX3_cellarItem 63 = .ok (.iload 4, 2) := by decide +kernel
theorem dX3_cellarItem_65 : decode cX3_cellarItem 65 = .ok (.bipush 9, 2) := by decide +kernel
theorem dX3_cellarItem_67 : decode cX3_cellarItem 67 = .ok (.if_icmp .gt 34, 3) := by decide +kernel
theorem dX3_cellarItem_70 : decode cX3_cellarItem 70 = .ok (.aload_n 0, 1) := by decide +kernel
theorem dX3_cellarItem_71 : decode cX3_cellarItem 71 = .ok (.getfield 45, 3) := by decide +kernel
theorem dX3_cellarItem_74 : decode cX3_cellarItem 74 = .ok (.iconst 2, 1) := by decide +kernel
theorem dX3_cellarItem_75 : decode cX3_cellarItem 75 = .ok (.if_icmp .ne 26, 3) := by decide +kernel
theorem dX3_cellarItem_78 : decode cX3_cellarItem 78 = .ok (.aload_n 0, 1) := by decide +kernel
theorem dX3_cellarItem_79 : decode cX3_cellarItem 79 = .ok (.getfield 15, 3) := by decide +kernel
theorem dX3_cellarItem_82 : decode cX3_cellarItem 82 = .ok (.iload_n 3, 1) := by decide +kernel
theorem dX3_cellarItem_83 : decode cX3_cellarItem 83 = .ok (.iload 4, 2) := by decide +kernel
theorem dX3_cellarItem_85 : decode cX3_cellarItem 85 = .ok (.aload_n 0, 1) := by decide +kernel
theorem dX3_cellarItem_86 : decode cX3_cellarItem 86 = .ok (.iconst 0, 1) := by decide +kernel
theorem dX3_cellarItem_87 : decode cX3_cellarItem 87 = .ok (.bipush 99, 2) := by decide +kernel
theorem dX3_cellarItem_89 : decode cX3_cellarItem 89 = .ok (.invokevirtual 71, 3) := by decide +kernel
theorem dX3_cellarItem_92 : decode cX3_cellarItem 92 = .ok (.invokevirtual 93, 3) := by decide +kernel
theorem dX3_cellarItem_95 : decode cX3_cellarItem 95 = .ok (.iinc 4 1, 3) := by decide +kernel
theorem dX3_cellarItem_98 : decode cX3_cellarItem 98 = .ok (.goto (-35), 3) := by decide +kernel
theorem dX3_cellarItem_101 : decode cX3_cellarItem 101 = .ok (.aload_n 0, 1) := by decide +kernel
theorem dX3_cellarItem_102 : decode cX3_cellarItem 102 = .ok (.invokevirtual 78, 3) := by decide +kernel
theorem dX3_cellarItem_105 : decode cX3_cellarItem 105 = .ok (.ireturn, 1) := by decide +kernel
theorem dX3_slingerItem_0 : decode cX3_slingerItem 0 = .ok (.aload_n 0, 1) := by decide +kernel
theorem dX3_slingerItem_1 : decode cX3_slingerItem 1 = .ok (.getfield 15, 3) := by decide +kernel
theorem dX3_slingerItem_4 : decode cX3_slingerItem 4 = .ok (.getfield 97, 3) := by decide +kernel
theorem dX3_slingerItem_7 : decode cX3_slingerItem 7 = .ok (.invokevirtual 85, 3) := by decide +kernel
theorem dX3_slingerItem_10 : decode cX3_slingerItem 10 = .ok (.ifCond .eq 5, 3) := by decide +kernel
theorem dX3_slingerItem_13 : decode cX3_slingerItem 13 = .ok (.iconst 0, 1) := by decide +kernel
theorem dX3_slingerItem_14 : decode cX3_slingerItem 14 = .ok (.ireturn, 1) := by decide +kernel
theorem dX3_slingerItem_15 : decode cX3_slingerItem 15 = .ok (.aload_n 0, 1) := by decide +kernel
theorem dX3_slingerItem_16 : decode cX3_slingerItem 16 = .ok (.invokevirtual 32, 3) := by decide +kernel
theorem dX3_slingerItem_19 : decode cX3_slingerItem 19 = .ok (.aload_n 0, 1) := by decide +kernel
theorem dX3_slingerItem_20 : decode cX3_slingerItem 20 = .ok (.iconst 0, 1) := by decide +kernel
theorem dX3_slingerItem_21 : decode cX3_slingerItem 21 = .ok (.iconst 5, 1) := by decide +kernel
theorem dX3_slingerItem_22 : decode cX3_slingerItem 22 = .ok (.invokevirtual 71, 3) := by decide +kernel
theorem dX3_slingerItem_25 : decode cX3_slingerItem 25 = .ok (.istore_n 1, 1) := by decide +kernel
theorem dX3_slingerItem_26 : decode cX3_slingerItem 26 = .ok (.iload_n 1, 1) := by decide +kernel
theorem dX3_slingerItem_27 : decode cX3_slingerItem 27 = .ok (.iconst (-1), 1) := by decide +kernel
theorem dX3_slingerItem_28 : decode cX3_slingerItem 28 = .ok (.if_icmp .ne 7, 3) := by decide +kernel
theorem dX3_slingerItem_31 : decode cX3_slingerItem 31 = .ok (.iconst (-1), 1) := by decide +kernel
theorem dX3_slingerItem_32 : decode cX3_slingerItem 32 = .ok (.goto 10, 3) := by decide +kernel
theorem dX3_slingerItem_35 : decode cX3_slingerItem 35 = .ok (.aload_n 0, 1) := by decide +kernel
theorem dX3_slingerItem_36 : decode cX3_slingerItem 36 = .ok (.iconst 0, 1) := by decide +kernel
theorem dX3_slingerItem_37 : decode cX3_slingerItem 37 = .ok (.bipush 9, 2) := by decide +kernel
theorem dX3_slingerItem_39 : decode cX3_slingerItem 39 = .ok (.invokevirtual 71, 3) := by decide +kernel
theorem dX3_slingerItem_42 : decode cX3_slingerItem 42 = .ok (.istore_n 2, 1) := by decide +kernel
theorem dX3_slingerItem_43 : decode cX3_slingerItem 43 = .ok (.iload_n 2, 1) := by decide +kernel
theorem dX3_slingerItem_44 : decode cX3_slingerItem 44 = .ok (.iconst (-1), 1) := by decide +kernel
theorem dX3_slingerItem_45 : decode cX3_slingerItem 45 = .ok (.if_icmp .ne 5, 3) := by decide +kernel
theorem dX3_slingerItem_48 : decode cX3_slingerItem 48 = .ok (.iconst 0, 1) := by decide +kernel
theorem dX3_slingerItem_49 : decode cX3_slingerItem 49 = .ok (.ireturn, 1) := by decide +kernel
theorem dX3_slingerItem_50 : decode cX3_slingerItem 50 = .ok (.aload_n 0, 1) := by decide +kernel
theorem dX3_slingerItem_51 : decode cX3_slingerItem 51 = .ok (.getfield 15, 3) := by decide +kernel
theorem dX3_slingerItem_54 : decode cX3_slingerItem 54 = .ok (.iload_n 1, 1) := by decide +kernel
theorem dX3_slingerItem_55 : decode cX3_slingerItem 55 = .ok (.iload_n 2, 1) := by decide +kernel
theorem dX3_slingerItem_56 : decode cX3_slingerItem 56 = .ok (.invokevirtual 100, 3) := by decide +kernel
theorem dX3_slingerItem_59 : decode cX3_slingerItem 59 = .ok (.pop, 1) := by decide +kernel
theorem dX3_slingerItem_60 : decode cX3_slingerItem 60 = .ok (.aload_n 0, 1) := by decide +kernel
theorem dX3_slingerItem_61 : decode cX3_slingerItem 61 = .ok (.invokevirtual 78, 3) := by decide +kernel
theorem dX3_slingerItem_64 : decode cX3_slingerItem 64 = .ok (.ireturn, 1) := by decide +kernel
theorem dX3_cloudItem_0 : decode cX3_cloudItem 0 = .ok (.aload_n 0, 1) := by decide +kernel
theorem dX3_cloudItem_1 : decode cX3_cloudItem 1 = .ok (.getfield 15, 3) := by decide +kernel
theorem dX3_cloudItem_4 : decode cX3_cloudItem 4 = .ok (.getfield 103, 3) := by decide +kernel
theorem dX3_cloudItem_7 : decode cX3_cloudItem 7 = .ok (.invokevirtual 85, 3) := by decide +kernel
theorem dX3_cloudItem_10 : decode cX3_cloudItem 10 = .ok (.ifCond .eq 5, 3) := by decide +kernel
theorem dX3_cloudItem_13 : decode cX3_cloudItem 13 = .ok (.iconst 0, 1) := by decide +kernel
theorem dX3_cloudItem_14 : decode cX3_cloudItem 14 = .ok (.ireturn, 1) := by decide +kernel
theorem dX3_cloudItem_15 : decode cX3_cloudItem 15 = .ok (.aload_n 0, 1) := by decide +kernel
theorem dX3_cloudItem_16 : decode cX3_cloudItem 16 = .ok (.invokevirtual 32, 3) := by decide +kernel
theorem dX3_cloudItem_19 : decode cX3_cloudItem 19 = .ok (.aload_n 0, 1) := by decide +kernel
theorem dX3_cloudItem_20 : decode cX3_cloudItem 20 = .ok (.iconst 1, 1) := by decide +kernel
theorem dX3_cloudItem_21 : decode cX3_cloudItem 21 = .ok (.bipush 30, 2) := by decide +kernel
theorem dX3_cloudItem_23 : decode cX3_cloudItem 23 = .ok (.invokevirtual 71, 3) := by decide +kernel
theorem dX3_cloudItem_26 : decode cX3_cloudItem 26 = .ok (.istore_n 1, 1) := by decide +kernel
theorem dX3_cloudItem_27 : decode cX3_cloudItem 27 = .ok (.iload_n 1, 1) := by decide +kernel
theorem dX3_cloudItem_28 : decode cX3_cloudItem 28 = .ok (.iconst (-1), 1) := by decide +kernel
theorem dX3_cloudItem_29 : decode cX3_cloudItem 29 = .ok (.if_icmp .ne 7, 3) := by decide +kernel
theorem dX3_cloudItem_32 : decode cX3_cloudItem 32 = .ok (.iconst (-1), 1) := by decide +kernel
theorem dX3_cloudItem_33 : decode cX3_cloudItem 33 = .ok (.goto 10, 3) := by decide +kernel
theorem dX3_cloudItem_36 : decode cX3_cloudItem 36 = .ok (.aload_n 0, 1) := by decide +kernel
theorem dX3_cloudItem_37 : decode cX3_cloudItem 37 = .ok (.iconst 1, 1) := by decide +kernel
theorem dX3_cloudItem_38 : decode cX3_cloudItem 38 = .ok (.bipush 40, 2) := by decide +kernel
theorem dX3_cloudItem_40 : decode cX3_cloudItem 40 = .ok (.invokevirtual 71, 3) := by decide +kernel
theorem dX3_cloudItem_43 : decode cX3_cloudItem 43 = .ok (.istore_n 2, 1) := by decide +kernel
theorem dX3_cloudItem_44 : decode cX3_cloudItem 44 = .ok (.iload_n 2, 1) := by decide +kernel
theorem dX3_cloudItem_45 : decode cX3_cloudItem 45 = .ok (.iconst (-1), 1) := by decide +kernel
theorem dX3_cloudItem_46 : decode cX3_cloudItem 46 = .ok (.if_icmp .ne 5, 3) := by decide +kernel
theorem dX3_cloudItem_49 : decode cX3_cloudItem 49 = .ok (.iconst 0, 1) := by decide +kernel
theorem dX3_cloudItem_50 : decode cX3_cloudItem 50 = .ok (.ireturn, 1) := by decide +kernel
theorem dX3_cloudItem_51 : decode cX3_cloudItem 51 = .ok (.aload_n 0, 1) := by decide +kernel
theorem dX3_cloudItem_52 : decode cX3_cloudItem 52 = .ok (.getfield 15, 3) := by decide +kernel
theorem dX3_cloudItem_55 : decode cX3_cloudItem 55 = .ok (.iload_n 1, 1) := by decide +kernel
theorem dX3_cloudItem_56 : decode cX3_cloudItem 56 = .ok (.iload_n 2, 1) := by decide +kernel
theorem dX3_cloudItem_57 : decode cX3_cloudItem 57 = .ok (.invokevirtual 106, 3) := by decide +kernel
theorem dX3_cloudItem_60 : decode cX3_cloudItem 60 = .ok (.pop, 1) := by decide +kernel
theorem dX3_cloudItem_61 : decode cX3_cloudItem 61 = .ok (.aload_n 0, 1) := by decide +kernel
theorem dX3_cloudItem_62 : decode cX3_cloudItem 62 = .ok (.invokevirtual 78, 3) := by decide +kernel
theorem dX3_cloudItem_65 : decode cX3_cloudItem 65 = .ok (.ireturn, 1) := by decide +kernel
theorem dX3_weeksItem_0 : decode cX3_weeksItem 0 = .ok (.aload_n 0, 1) := by decide +kernel
theorem dX3_weeksItem_1 : decode cX3_weeksItem 1 = .ok (.invokevirtual 32, 3) := by decide +kernel
theorem dX3_weeksItem_4 : decode cX3_weeksItem 4 = .ok (.aload_n 0, 1) := by decide +kernel
theorem dX3_weeksItem_5 : decode cX3_weeksItem 5 = .ok (.iconst 1, 1) := by decide +kernel
theorem dX3_weeksItem_6 : decode cX3_weeksItem 6 = .ok (.bipush 99, 2) := by decide +kernel
theorem dX3_weeksItem_8 : decode cX3_weeksItem 8 = .ok (.invokevirtual 71, 3) := by decide +kernel
theorem dX3_weeksItem_11 : decode cX3_weeksItem 11 = .ok (.istore_n 1, 1) := by decide +kernel
theorem dX3_weeksItem_12 : decode cX3_weeksItem 12 = .ok (.iload_n 1, 1) := by decide +kernel
theorem dX3_weeksItem_13 : decode cX3_weeksItem 13 = .ok (.iconst (-1), 1) := by decide +kernel
theorem dX3_weeksItem_14 : decode cX3_weeksItem 14 = .ok (.if_icmp .ne 5, 3) := by decide +kernel
theorem dX3_weeksItem_17 : decode cX3_weeksItem 17 = .ok (.iconst 0, 1) := by decide +kernel
theorem dX3_weeksItem_18 : decode cX3_weeksItem 18 = .ok (.ireturn, 1) := by decide +kernel
theorem dX3_weeksItem_19 : decode cX3_weeksItem 19 = .ok (.aload_n 0, 1) := by decide +kernel
theorem dX3_weeksItem_20 : decode cX3_weeksItem 20 = .ok (.getfield 15, 3) := by decide +kernel
theorem dX3_weeksItem_23 : decode cX3_weeksItem 23 = .ok (.iload_n 1, 1) := by decide +kernel
theorem dX3_weeksItem_24 : decode cX3_weeksItem 24 = .ok (.invokevirtual 109, 3) := by decide +kernel
theorem dX3_weeksItem_27 : decode cX3_weeksItem 27 = .ok (.aload_n 0, 1) := by decide +kernel
theorem dX3_weeksItem_28 : decode cX3_weeksItem 28 = .ok (.invokevirtual 78, 3) := by decide +kernel
theorem dX3_weeksItem_31 : decode cX3_weeksItem 31 = .ok (.ireturn, 1) := by decide +kernel
theorem dX3_itemEnds_0 : decode cX3_itemEnds 0 = .ok (.aload_n 0, 1) := by decide +kernel
theorem dX3_itemEnds_1 : decode cX3_itemEnds 1 = .ok (.getfield 45, 3) := by decide +kernel
theorem dX3_itemEnds_4 : decode cX3_itemEnds 4 = .ok (.iconst 3, 1) := by decide +kernel
theorem dX3_itemEnds_5 : decode cX3_itemEnds 5 = .ok (.if_icmp .eq 5, 3) := by decide +kernel
theorem dX3_itemEnds_8 : decode cX3_itemEnds 8 = .ok (.iconst 0, 1) := by decide +kernel
theorem dX3_itemEnds_9 : decode cX3_itemEnds 9 = .ok (.ireturn, 1) := by decide +kernel
theorem dX3_itemEnds_10 : decode cX3_itemEnds 10 = .ok (.aload_n 0, 1) := by decide +kernel
theorem dX3_itemEnds_11 : decode cX3_itemEnds 11 = .ok (.invokevirtual 32, 3) := by decide +kernel
theorem dX3_itemEnds_14 : decode cX3_itemEnds 14 = .ok (.iconst 1, 1) := by decide +kernel
theorem dX3_itemEnds_15 : decode cX3_itemEnds 15 = .ok (.ireturn, 1) := by decide +kernel
theorem dX3_takeNumber_0 : decode cX3_takeNumber 0 = .ok (.aload_n 0, 1) := by decide +kernel
theorem dX3_takeNumber_1 : decode cX3_takeNumber 1 = .ok (.getfield 45, 3) := by decide +kernel
theorem dX3_takeNumber_4 : decode cX3_takeNumber 4 = .ok (.iconst 2, 1) := by decide +kernel
theorem dX3_takeNumber_5 : decode cX3_takeNumber 5 = .ok (.if_icmp .ne 15, 3) := by decide +kernel
theorem dX3_takeNumber_8 : decode cX3_takeNumber 8 = .ok (.aload_n 0, 1) := by decide +kernel
theorem dX3_takeNumber_9 : decode cX3_takeNumber 9 = .ok (.getfield 112, 3) := by decide +kernel
theorem dX3_takeNumber_12 : decode cX3_takeNumber 12 = .ok (.iload_n 1, 1) := by decide +kernel
theorem dX3_takeNumber_13 : decode cX3_takeNumber 13 = .ok (.iload_n 2, 1) := by decide +kernel
theorem dX3_takeNumber_14 : decode cX3_takeNumber 14 = .ok (.invokestatic 115, 3) := by decide +kernel
theorem dX3_takeNumber_17 : decode cX3_takeNumber 17 = .ok (.ifCond .ne 5, 3) := by decide +kernel
theorem dX3_takeNumber_20 : decode cX3_takeNumber 20 = .ok (.iconst (-1), 1) := by decide +kernel
theorem dX3_takeNumber_21 : decode cX3_takeNumber 21 = .ok (.ireturn, 1) := by decide +kernel
theorem dX3_takeNumber_22 : decode cX3_takeNumber 22 = .ok (.aload_n 0, 1) := by decide +kernel
theorem dX3_takeNumber_23 : decode cX3_takeNumber 23 = .ok (.getfield 112, 3) := by decide +kernel
theorem dX3_takeNumber_26 : decode cX3_takeNumber 26 = .ok (.istore_n 3, 1) := by decide +kernel
theorem dX3_takeNumber_27 : decode cX3_takeNumber 27 = .ok (.aload_n 0, 1) := by decide +kernel
theorem dX3_takeNumber_28 : decode cX3_takeNumber 28 = .ok (.invokevirtual 32, 3) := by decide +kernel
theorem dX3_takeNumber_31 : decode cX3_takeNumber 31 = .ok (.iload_n 3, 1) := by decide +kernel
theorem dX3_takeNumber_32 : decode cX3_takeNumber 32 = .ok (.ireturn, 1) := by decide +kernel
theorem dX3_atWord_0 : decode cX3_atWord 0 = .ok (.aload_n 0, 1) := by decide +kernel
theorem dX3_atWord_1 : decode cX3_atWord 1 = .ok (.getfield 45, 3) := by decide +kernel
theorem dX3_atWord_4 : decode cX3_atWord 4 = .ok (.iconst 1, 1) := by decide +kernel
theorem dX3_atWord_5 : decode cX3_atWord 5 = .ok (.if_icmp .ne 19, 3) := by decide +kernel
theorem dX3_atWord_8 : decode cX3_atWord 8 = .ok (.aload_n 0, 1) := by decide +kernel
theorem dX3_atWord_9 : decode cX3_atWord 9 = .ok (.getfield 29, 3) := by decide +kernel
theorem dX3_atWord_12 : decode cX3_atWord 12 = .ok (.aload_n 0, 1) := by decide +kernel
theorem dX3_atWord_13 : decode cX3_atWord 13 = .ok (.getfield 68, 3) := by decide +kernel
theorem dX3_atWord_16 : decode cX3_atWord 16 = .ok (.isub, 1) := by decide +kernel
theorem dX3_atWord_17 : decode cX3_atWord 17 = .ok (.aload_n 1, 1) := by decide +kernel
theorem dX3_atWord_18 : decode cX3_atWord 18 = .ok (.invokevirtual 119, 3) := by decide +kernel
theorem dX3_atWord_21 : decode cX3_atWord 21 = .ok (.if_icmp .eq 5, 3) := by decide +kernel
theorem dX3_atWord_24 : decode cX3_atWord 24 = .ok (.iconst 0, 1) := by decide +kernel
theorem dX3_atWord_25 : decode cX3_atWord 25 = .ok (.ireturn, 1) := by decide +kernel
theorem dX3_atWord_26 : decode cX3_atWord 26 = .ok (.iconst 0, 1) := by decide +kernel
theorem dX3_atWord_27 : decode cX3_atWord 27 = .ok (.istore_n 2, 1) := by decide +kernel
theorem dX3_atWord_28 : decode cX3_atWord 28 = .ok (.iload_n 2, 1) := by decide +kernel
theorem dX3_atWord_29 : decode cX3_atWord 29 = .ok (.aload_n 1, 1) := by decide +kernel
theorem dX3_atWord_30 : decode cX3_atWord 30 = .ok (.invokevirtual 119, 3) := by decide +kernel
theorem dX3_atWord_33 : decode cX3_atWord 33 = .ok (.if_icmp .ge 29, 3) := by decide +kernel
theorem dX3_atWord_36 : decode cX3_atWord 36 = .ok (.aload_n 0, 1) := by decide +kernel
theorem dX3_atWord_37 : decode cX3_atWord 37 = .ok (.aload_n 0, 1) := by decide +kernel
theorem dX3_atWord_38 : decode cX3_atWord 38 = .ok (.getfield 68, 3) := by decide +kernel
theorem dX3_atWord_41 : decode cX3_atWord 41 = .ok (.iload_n 2, 1) := by decide +kernel
theorem dX3_atWord_42 : decode cX3_atWord 42 = .ok (.iadd, 1) := by decide +kernel
theorem dX3_atWord_43 : decode cX3_atWord 43 = .ok (.invokevirtual 124, 3) := by decide +kernel
theorem dX3_atWord_46 : decode cX3_atWord 46 = .ok (.aload_n 1, 1) := by decide +kernel
theorem dX3_atWord_47 : decode cX3_atWord 47 = .ok (.iload_n 2, 1) := by decide +kernel
theorem dX3_atWord_48 : decode cX3_atWord 48 = .ok (.invokevirtual 128, 3) := by decide +kernel
theorem dX3_atWord_51 : decode cX3_atWord 51 = .ok (.if_icmp .eq 5, 3) := by decide +kernel
theorem dX3_atWord_54 : decode cX3_atWord 54 = .ok (.iconst 0, 1) := by decide +kernel
theorem dX3_atWord_55 : decode cX3_atWord 55 = .ok (.ireturn, 1) := by decide +kernel
theorem dX3_atWord_56 : decode cX3_atWord 56 = .ok (.iinc 2 1, 3) := by decide +kernel
theorem dX3_atWord_59 : decode cX3_atWord 59 = .ok (.goto (-31), 3) := by decide +kernel
theorem dX3_atWord_62 : decode cX3_atWord 62 = .ok (.iconst 1, 1) := by decide +kernel
theorem dX3_atWord_63 : decode cX3_atWord 63 = .ok (.ireturn, 1) := by decide +kernel
theorem dX3_advance_0 : decode cX3_advance 0 = .ok (.aload_n 0, 1) := by decide +kernel
theorem dX3_advance_1 : decode cX3_advance 1 = .ok (.getfield 29, 3) := by decide +kernel
theorem dX3_advance_4 : decode cX3_advance 4 = .ok (.aload_n 0, 1) := by decide +kernel
theorem dX3_advance_5 : decode cX3_advance 5 = .ok (.getfield 19, 3) := by decide +kernel
theorem dX3_advance_8 : decode cX3_advance 8 = .ok (.if_icmp .ge 29, 3) := by decide +kernel
theorem dX3_advance_11 : decode cX3_advance 11 = .ok (.aload_n 0, 1) := by decide +kernel
theorem dX3_advance_12 : decode cX3_advance 12 = .ok (.aload_n 0, 1) := by decide +kernel
theorem dX3_advance_13 : decode cX3_advance 13 = .ok (.getfield 29, 3) := by decide +kernel
theorem dX3_advance_16 : decode cX3_advance 16 = .ok (.invokevirtual 124, 3) := by decide +kernel
theorem dX3_advance_19 : decode cX3_advance 19 = .ok (.bipush 32, 2) := by decide +kernel
theorem dX3_advance_21 : decode cX3_advance 21 = .ok (.if_icmp .ne 16, 3) := by decide +kernel
theorem dX3_advance_24 : decode cX3_advance 24 = .ok (.aload_n 0, 1) := by decide +kernel
theorem dX3_advance_25 : decode cX3_advance 25 = .ok (.dup, 1) := by decide +kernel
theorem dX3_advance_26 : decode cX3_advance 26 = .ok (.getfield 29, 3) := by decide +kernel
theorem dX3_advance_29 : decode cX3_advance 29 = .ok (.iconst 1, 1) := by decide +kernel
theorem dX3_advance_30 : decode cX3_advance 30 = .ok (.iadd, 1) := by decide +kernel
theorem dX3_advance_31 : decode cX3_advance 31 = .ok (.putfield 29, 3) := by decide +kernel
theorem dX3_advance_34 : decode cX3_advance 34 = .ok (.goto (-34), 3) := by decide +kernel
theorem dX3_advance_37 : decode cX3_advance 37 = .ok (.aload_n 0, 1) := by decide +kernel
theorem dX3_advance_38 : decode cX3_advance 38 = .ok (.aload_n 0, 1) := by decide +kernel
theorem dX3_advance_39 : decode cX3_advance 39 = .ok (.getfield 29, 3) := by decide +kernel
theorem dX3_advance_42 : decode cX3_advance 42 = .ok (.putfield 68, 3) := by decide +kernel
theorem dX3_advance_45 : decode cX3_advance 45 = .ok (.aload_n 0, 1) := by decide +kernel
theorem dX3_advance_46 : decode cX3_advance 46 = .ok (.aload_n 0, 1) := by decide +kernel
theorem dX3_advance_47 : decode cX3_advance 47 = .ok (.aload_n 0, 1) := by decide +kernel
theorem dX3_advance_48 : decode cX3_advance 48 = .ok (.getfield 68, 3) := by decide +kernel
theorem dX3_advance_51 : decode cX3_advance 51 = .ok (.invokevirtual 124, 3) := by decide +kernel
theorem dX3_advance_54 : decode cX3_advance 54 = .ok (.invokestatic 132, 3) := by decide +kernel
theorem dX3_advance_57 : decode cX3_advance 57 = .ok (.putfield 45, 3) := by decide +kernel
theorem dX3_advance_60 : decode cX3_advance 60 = .ok (.aload_n 0, 1) := by decide +kernel
theorem dX3_advance_61 : decode cX3_advance 61 = .ok (.aload_n 0, 1) := by decide +kernel
theorem dX3_advance_62 : decode cX3_advance 62 = .ok (.getfield 19, 3) := by decide +kernel
theorem dX3_advance_65 : decode cX3_advance 65 = .ok (.aload_n 0, 1) := by decide +kernel
theorem dX3_advance_66 : decode cX3_advance 66 = .ok (.getfield 68, 3) := by decide +kernel
theorem dX3_advance_69 : decode cX3_advance 69 = .ok (.iconst 1, 1) := by decide +kernel
theorem dX3_advance_70 : decode cX3_advance 70 = .ok (.iadd, 1) := by decide +kernel
theorem dX3_advance_71 : decode cX3_advance 71 = .ok (.invokestatic 135, 3) := by decide +kernel
theorem dX3_advance_74 : decode cX3_advance 74 = .ok (.putfield 29, 3) := by decide +kernel
theorem dX3_advance_77 : decode cX3_advance 77 = .ok (.aload_n 0, 1) := by decide +kernel
theorem dX3_advance_78 : decode cX3_advance 78 = .ok (.getfield 45, 3) := by decide +kernel
theorem dX3_advance_81 : decode cX3_advance 81 = .ok (.iconst 1, 1) := by decide +kernel
theorem dX3_advance_82 : decode cX3_advance 82 = .ok (.if_icmp .eq 11, 3) := by decide +kernel
theorem dX3_advance_85 : decode cX3_advance 85 = .ok (.aload_n 0, 1) := by decide +kernel
theorem dX3_advance_86 : decode cX3_advance 86 = .ok (.getfield 45, 3) := by decide +kernel
theorem dX3_advance_89 : decode cX3_advance 89 = .ok (.iconst 2, 1) := by decide +kernel
theorem dX3_advance_90 : decode cX3_advance 90 = .ok (.if_icmp .ne 7, 3) := by decide +kernel
theorem dX3_advance_93 : decode cX3_advance 93 = .ok (.iconst 1, 1) := by decide +kernel
theorem dX3_advance_94 : decode cX3_advance 94 = .ok (.goto 4, 3) := by decide +kernel
theorem dX3_advance_97 : decode cX3_advance 97 = .ok (.iconst 0, 1) := by decide +kernel
theorem dX3_advance_98 : decode cX3_advance 98 = .ok (.istore_n 1, 1) := by decide +kernel
theorem dX3_advance_99 : decode cX3_advance 99 = .ok (.iload_n 1, 1) := by decide +kernel
theorem dX3_advance_100 : decode cX3_advance 100 = .ok (.ifCond .eq 45, 3) := by decide +kernel
theorem dX3_advance_103 : decode cX3_advance 103 = .ok (.aload_n 0, 1) := by decide +kernel
theorem dX3_advance_104 : decode cX3_advance 104 = .ok (.getfield 29, 3) := by decide +kernel
theorem dX3_advance_107 : decode cX3_advance 107 = .ok (.aload_n 0, 1) := by decide +kernel
theorem dX3_advance_108 : decode cX3_advance 108 = .ok (.getfield 19, 3) := by decide +kernel
theorem dX3_advance_111 : decode cX3_advance 111 = .ok (.if_icmp .ge 34, 3) := by decide +kernel
theorem dX3_advance_114 : decode cX3_advance 114 = .ok (.aload_n 0, 1) := by decide +kernel
theorem dX3_advance_115 : decode cX3_advance 115 = .ok (.aload_n 0, 1) := by decide +kernel
theorem dX3_advance_116 : decode cX3_advance 116 = .ok (.getfield 29, 3) := by decide +kernel
theorem dX3_advance_119 : decode cX3_advance 119 = .ok (.invokevirtual 124, 3) := by decide +kernel
theorem dX3_advance_122 : decode cX3_advance 122 = .ok (.invokestatic 132, 3) := by decide +kernel
theorem dX3_advance_125 : decode cX3_advance 125 = .ok (.aload_n 0, 1) := by decide +kernel
theorem dX3_advance_126 : decode cX3_advance 126 = .ok (.getfield 45, 3) := by decide +kernel
theorem dX3_advance_129 : decode cX3_advance 129 = .ok (.if_icmp .ne 16, 3) := by decide +kernel
theorem dX3_advance_132 : decode cX3_advance 132 = .ok (.aload_n 0, 1) := by decide +kernel
theorem dX3_advance_133 : decode cX3_advance 133 = .ok (.dup, 1) := by decide +kernel
theorem dX3_advance_134 : decode cX3_advance 134 = .ok (.getfield 29, 3) := by decide +kernel
theorem dX3_advance_137 : decode cX3_advance 137 = .ok (.iconst 1, 1) := by decide +kernel
theorem dX3_advance_138 : decode cX3_advance 138 = .ok (.iadd, 1) := by decide +kernel
theorem dX3_advance_139 : decode cX3_advance 139 = .ok (.putfield 29, 3) := by decide +kernel
theorem dX3_advance_142 : decode cX3_advance 142 = .ok (.goto (-43), 3) := by decide +kernel
theorem dX3_advance_145 : decode cX3_advance 145 = .ok (.aload_n 0, 1) := by decide +kernel
theorem dX3_advance_146 : decode cX3_advance 146 = .ok (.getfield 45, 3) := by decide +kernel
theorem dX3_advance_149 : decode cX3_advance 149 = .ok (.iconst 2, 1) := by decide +kernel
theorem dX3_advance_150 : decode cX3_advance 150 = .ok (.if_icmp .ne 16, 3) := by decide +kernel
theorem dX3_advance_153 : decode cX3_advance 153 = .ok (.aload_n 0, 1) := by decide +kernel
theorem dX3_advance_154 : decode cX3_advance 154 = .ok (.aload_n 0, 1) := by decide +kernel
theorem dX3_advance_155 : decode cX3_advance 155 = .ok (.getfield 29, 3) := by decide +kernel
theorem dX3_advance_158 : decode cX3_advance 158 = .ok (.aload_n 0, 1) := by decide +kernel
theorem dX3_advance_159 : decode cX3_advance 159 = .ok (.getfield 68, 3) := by decide +kernel
theorem dX3_advance_162 : decode cX3_advance 162 = .ok (.isub, 1) := by decide +kernel
theorem dX3_advance_163 : decode cX3_advance 163 = .ok (.invokevirtual 140, 3) := by decide +kernel
theorem dX3_advance_166 : decode cX3_advance 166 = .ok (.return_, 1) := by decide +kernel
theorem dX3_readFigures_0 : decode cX3_readFigures 0 = .ok (.iload_n 1, 1) := by decide +kernel
theorem dX3_readFigures_1 : decode cX3_readFigures 1 = .ok (.iconst 2, 1) := by decide +kernel
theorem dX3_readFigures_2 : decode cX3_readFigures 2 = .ok (.if_icmp .le 9, 3) := by decide +kernel
theorem dX3_readFigures_5 : decode cX3_readFigures 5 = .ok (.aload_n 0, 1) := by decide +kernel
theorem dX3_readFigures_6 : decode cX3_readFigures 6 = .ok (.iconst 4, 1) := by decide +kernel
theorem dX3_readFigures_7 : decode cX3_readFigures 7 = .ok (.putfield 45, 3) := by decide +kernel
theorem dX3_readFigures_10 : decode cX3_readFigures 10 = .ok (.return_, 1) := by decide +kernel
theorem dX3_readFigures_11 : decode cX3_readFigures 11 = .ok (.aload_n 0, 1) := by decide +kernel
theorem dX3_readFigures_12 : decode cX3_readFigures 12 = .ok (.aload_n 0, 1) := by decide +kernel
theorem dX3_readFigures_13 : decode cX3_readFigures 13 = .ok (.getfield 68, 3) := by decide +kernel
theorem dX3_readFigures_16 : decode cX3_readFigures 16 = .ok (.invokevirtual 124, 3) := by decide +kernel
theorem dX3_readFigures_19 : decode cX3_readFigures 19 = .ok (.bipush 48, 2) := by decide +kernel
theorem dX3_readFigures_21 : decode cX3_readFigures 21 = .ok (.isub, 1) := by decide +kernel
theorem dX3_readFigures_22 : decode cX3_readFigures 22 = .ok (.istore_n 2, 1) := by decide +kernel
theorem dX3_readFigures_23 : decode cX3_readFigures 23 = .ok (.aload_n 0, 1) := by decide +kernel
theorem dX3_readFigures_24 : decode cX3_readFigures 24 = .ok (.iload_n 1, 1) := by decide +kernel
theorem dX3_readFigures_25 : decode cX3_readFigures 25 = .ok (.iconst 2, 1) := by decide +kernel
theorem dX3_readFigures_26 : decode cX3_readFigures 26 = .ok (.if_icmp .ne 24, 3) := by decide +kernel
theorem dX3_readFigures_29 : decode cX3_readFigures 29 = .ok (.bipush 10, 2) := by decide +kernel
theorem dX3_readFigures_31 : decode cX3_readFigures 31 = .ok (.iload_n 2, 1) := by decide +kernel
theorem dX3_readFigures_32 : decode cX3_readFigures 32 = .ok (.imul, 1) := by decide +kernel
theorem dX3_readFigures_33 : decode cX3_readFigures 33 = .ok (.aload_n 0, 1) := by decide +kernel
theorem dX3_readFigures_34 : decode cX3_readFigures 34 = .ok (.aload_n 0, 1) := by decide +kernel
theorem dX3_readFigures_35 : decode cX3_readFigures 35 = .ok (.getfield 68, 3) := by decide +kernel
theorem dX3_readFigures_38 : decode cX3_readFigures 38 = .ok (.iconst 1, 1) := by decide +kernel
theorem dX3_readFigures_39 : decode cX3_readFigures 39 = .ok (.iadd, 1) := by decide +kernel
theorem dX3_readFigures_40 : decode cX3_readFigures 40 = .ok (.invokevirtual 124, 3) := by decide +kernel
theorem dX3_readFigures_43 : decode cX3_readFigures 43 = .ok (.iadd, 1) := by decide +kernel
theorem dX3_readFigures_44 : decode cX3_readFigures 44 = .ok (.bipush 48, 2) := by decide +kernel
theorem dX3_readFigures_46 : decode cX3_readFigures 46 = .ok (.isub, 1) := by decide +kernel
theorem dX3_readFigures_47 : decode cX3_readFigures 47 = .ok (.goto 4, 3) := by decide +kernel
theorem dX3_readFigures_50 : decode cX3_readFigures 50 = .ok (.iload_n 2, 1) := by decide +kernel
theorem dX3_readFigures_51 : decode cX3_readFigures 51 = .ok (.putfield 112, 3) := by decide +kernel
theorem dX3_readFigures_54 : decode cX3_readFigures 54 = .ok (.return_, 1) := by decide +kernel
theorem dX3_tokenBegunBy_0 : decode cX3_tokenBegunBy 0 = .ok (.iload_n 0, 1) := by decide +kernel
theorem dX3_tokenBegunBy_1 : decode cX3_tokenBegunBy 1 = .ok (.iconst (-1), 1) := by decide +kernel
theorem dX3_tokenBegunBy_2 : decode cX3_tokenBegunBy 2 = .ok (.if_icmp .ne 5, 3) := by decide +kernel
theorem dX3_tokenBegunBy_5 : decode cX3_tokenBegunBy 5 = .ok (.iconst 0, 1) := by decide +kernel
theorem dX3_tokenBegunBy_6 : decode cX3_tokenBegunBy 6 = .ok (.ireturn, 1) := by decide +kernel
theorem dX3_tokenBegunBy_7 : decode cX3_tokenBegunBy 7 = .ok (.iload_n 0, 1) := by decide +kernel
theorem dX3_tokenBegunBy_8 : decode cX3_tokenBegunBy 8 = .ok (.bipush 59, 2) := by decide +kernel
theorem dX3_tokenBegunBy_10 : decode cX3_tokenBegunBy 10 = .ok (.if_icmp .ne 5, 3) := by decide +kernel
theorem dX3_tokenBegunBy_13 : decode cX3_tokenBegunBy 13 = .ok (.iconst 3, 1) := by decide +kernel
theorem dX3_tokenBegunBy_14 : decode cX3_tokenBegunBy 14 = .ok (.ireturn, 1) := by decide +kernel
theorem dX3_tokenBegunBy_15 : decode cX3_tokenBegunBy 15 = .ok (.bipush 97, 2) := by decide +kernel
theorem dX3_tokenBegunBy_17 : decode cX3_tokenBegunBy 17 = .ok (.iload_n 0, 1) := by decide +kernel
theorem dX3_tokenBegunBy_18 : decode cX3_tokenBegunBy 18 = .ok (.if_icmp .gt 11, 3) := by decide +kernel
theorem dX3_tokenBegunBy_21 : decode cX3_tokenBegunBy 21 = .ok (.iload_n 0, 1) := by decide +kernel
theorem dX3_tokenBegunBy_22 : decode cX3_tokenBegunBy 22 = .ok (.bipush 122, 2) := by decide +kernel
theorem dX3_tokenBegunBy_24 : decode cX3_tokenBegunBy 24 = .ok (.if_icmp .gt 5, 3) := by decide +kernel
theorem dX3_tokenBegunBy_27 : decode cX3_tokenBegunBy 27 = .ok (.iconst 1, 1) := by decide +kernel
theorem dX3_tokenBegunBy_28 : decode cX3_tokenBegunBy 28 = .ok (.ireturn, 1) := by decide +kernel
theorem dX3_tokenBegunBy_29 : decode cX3_tokenBegunBy 29 = .ok (.bipush 48, 2) := by decide +kernel
theorem dX3_tokenBegunBy_31 : decode cX3_tokenBegunBy 31 = .ok (.iload_n 0, 1) := by decide +kernel
theorem dX3_tokenBegunBy_32 : decode cX3_tokenBegunBy 32 = .ok (.if_icmp .gt 13, 3) := by decide +kernel
theorem dX3_tokenBegunBy_35 : decode cX3_tokenBegunBy 35 = .ok (.iload_n 0, 1) := by decide +kernel
theorem dX3_tokenBegunBy_36 : decode cX3_tokenBegunBy 36 = .ok (.bipush 57, 2) := by decide +kernel
theorem dX3_tokenBegunBy_38 : decode cX3_tokenBegunBy 38 = .ok (.if_icmp .gt 7, 3) := by decide +kernel
theorem dX3_tokenBegunBy_41 : decode cX3_tokenBegunBy 41 = .ok (.iconst 2, 1) := by decide +kernel
theorem dX3_tokenBegunBy_42 : decode cX3_tokenBegunBy 42 = .ok (.goto 4, 3) := by decide +kernel
theorem dX3_tokenBegunBy_45 : decode cX3_tokenBegunBy 45 = .ok (.iconst 4, 1) := by decide +kernel
theorem dX3_tokenBegunBy_46 : decode cX3_tokenBegunBy 46 = .ok (.ireturn, 1) := by decide +kernel
theorem dX3_byteAt_0 : decode cX3_byteAt 0 = .ok (.iload_n 1, 1) := by decide +kernel
theorem dX3_byteAt_1 : decode cX3_byteAt 1 = .ok (.ifCond .lt 29, 3) := by decide +kernel
theorem dX3_byteAt_4 : decode cX3_byteAt 4 = .ok (.iload_n 1, 1) := by decide +kernel
theorem dX3_byteAt_5 : decode cX3_byteAt 5 = .ok (.aload_n 0, 1) := by decide +kernel
theorem dX3_byteAt_6 : decode cX3_byteAt 6 = .ok (.getfield 19, 3) := by decide +kernel
theorem dX3_byteAt_9 : decode cX3_byteAt 9 = .ok (.if_icmp .ge 21, 3) := by decide +kernel
theorem dX3_byteAt_12 : decode cX3_byteAt 12 = .ok (.iload_n 1, 1) := by decide +kernel
theorem dX3_byteAt_13 : decode cX3_byteAt 13 = .ok (.aload_n 0, 1) := by decide +kernel
theorem dX3_byteAt_14 : decode cX3_byteAt 14 = .ok (.getfield 9, 3) := by decide +kernel
theorem dX3_byteAt_17 : decode cX3_byteAt 17 = .ok (.arraylength, 1) := by decide +kernel
theorem dX3_byteAt_18 : decode cX3_byteAt 18 = .ok (.if_icmp .ge 12, 3) := by decide +kernel
theorem dX3_byteAt_21 : decode cX3_byteAt 21 = .ok (.aload_n 0, 1) := by decide +kernel
theorem dX3_byteAt_22 : decode cX3_byteAt 22 = .ok (.getfield 9, 3) := by decide +kernel
theorem dX3_byteAt_25 : decode cX3_byteAt 25 = .ok (.iload_n 1, 1) := by decide +kernel
theorem dX3_byteAt_26 : decode cX3_byteAt 26 = .ok (.iaload, 1) := by decide +kernel
theorem dX3_byteAt_27 : decode cX3_byteAt 27 = .ok (.goto 4, 3) := by decide +kernel
theorem dX3_byteAt_30 : decode cX3_byteAt 30 = .ok (.iconst (-1), 1) := by decide +kernel
theorem dX3_byteAt_31 : decode cX3_byteAt 31 = .ok (.ireturn, 1) := by decide +kernel
theorem dX4_init_0 : decode cX4_init 0 = .ok (.aload_n 0, 1) := by decide +kernel
theorem dX4_init_1 : decode cX4_init 1 = .ok (.invokespecial 3, 3) := by decide +kernel
theorem dX4_init_4 : decode cX4_init 4 = .ok (.aload_n 0, 1) := by decide +kernel
theorem dX4_init_5 : decode cX4_init 5 = .ok (.iconst 0, 1) := by decide +kernel
theorem dX4_init_6 : decode cX4_init 6 = .ok (.iload_n 1, 1) := by decide +kernel
theorem dX4_init_7 : decode cX4_init 7 = .ok (.invokestatic 9, 3) := by decide +kernel
theorem dX4_init_10 : decode cX4_init 10 = .ok (.putfield 15, 3) := by decide +kernel
theorem dX4_init_13 : decode cX4_init 13 = .ok (.aload_n 0, 1) := by decide +kernel
theorem dX4_init_14 : decode cX4_init 14 = .ok (.iconst 0, 1) := by decide +kernel
theorem dX4_init_15 : decode cX4_init 15 = .ok (.iload_n 2, 1) := by decide +kernel
theorem dX4_init_16 : decode cX4_init 16 = .ok (.invokestatic 9, 3) := by decide +kernel
theorem dX4_init_19 : decode cX4_init 19 = .ok (.putfield 21, 3) := by decide +kernel
theorem dX4_init_22 : decode cX4_init 22 = .ok (.aload_n 0, 1) := by decide +kernel
theorem dX4_init_23 : decode cX4_init 23 = .ok (.aload_n 0, 1) := by decide +kernel
theorem dX4_init_24 : decode cX4_init 24 = .ok (.getfield 15, 3) := by decide +kernel
theorem dX4_init_27 : decode cX4_init 27 = .ok (.aload_n 0, 1) := by decide +kernel
theorem dX4_init_28 : decode cX4_init 28 = .ok (.getfield 21, 3) := by decide +kernel
theorem dX4_init_31 : decode cX4_init 31 = .ok (.imul, 1) := by decide +kernel
theorem dX4_init_32 : decode cX4_init 32 = .ok (.newarray .int, 2) := by decide +kernel
theorem dX4_init_34 : decode cX4_init 34 = .ok (.putfield 24, 3) := by decide +kernel
theorem dX4_init_37 : decode cX4_init 37 = .ok (.return_, 1) := by decide +kernel
theorem dX4_holds_0 : decode cX4_holds 0 = .ok (.iload_n 1, 1) := by decide +kernel
theorem dX4_holds_1 : decode cX4_holds 1 = .ok (.ifCond .lt 15, 3) := by decide +kernel
theorem dX4_holds_4 : decode cX4_holds 4 = .ok (.iload_n 1, 1) := by decide +kernel
theorem dX4_holds_5 : decode cX4_holds 5 = .ok (.aload_n 0, 1) := by decide +kernel
theorem dX4_holds_6 : decode cX4_holds 6 = .ok (.getfield 28, 3) := by decide +kernel
theorem dX4_holds_9 : decode cX4_holds 9 = .ok (.if_icmp .ge 7, 3) := by decide +kernel
theorem dX4_holds_12 : decode cX4_holds 12 = .ok (.iconst 1, 1) := by decide +kernel
theorem dX4_holds_13 : decode cX4_holds 13 = .ok (.goto 4, 3) := by decide +kernel
theorem dX4_holds_16 : decode cX4_holds 16 = .ok (.iconst 0, 1) := by decide +kernel
theorem dX4_holds_17 : decode cX4_holds 17 = .ok (.ireturn, 1) := by decide +kernel
theorem dX4_isFull_0 : decode cX4_isFull 0 = .ok (.aload_n 0, 1) := by decide +kernel
theorem dX4_isFull_1 : decode cX4_isFull 1 = .ok (.getfield 28, 3) := by decide +kernel
theorem dX4_isFull_4 : decode cX4_isFull 4 = .ok (.aload_n 0, 1) := by decide +kernel
theorem dX4_isFull_5 : decode cX4_isFull 5 = .ok (.getfield 15, 3) := by decide +kernel
theorem dX4_isFull_8 : decode cX4_isFull 8 = .ok (.if_icmp .lt 7, 3) := by decide +kernel
theorem dX4_isFull_11 : decode cX4_isFull 11 = .ok (.iconst 1, 1) := by decide +kernel
theorem dX4_isFull_12 : decode cX4_isFull 12 = .ok (.goto 4, 3) := by decide +kernel
theorem dX4_isFull_15 : decode cX4_isFull 15 = .ok (.iconst 0, 1) := by decide +kernel
theorem dX4_isFull_16 : decode cX4_isFull 16 = .ok (.ireturn, 1) := by decide +kernel
theorem dX4_placeOf_0 : decode cX4_placeOf 0 = .ok (.iload_n 1, 1) := by decide +kernel
theorem dX4_placeOf_1 : decode cX4_placeOf 1 = .ok (.ifCond .lt 34, 3) := by decide +kernel
theorem dX4_placeOf_4 : decode cX4_placeOf 4 = .ok (.iload_n 1, 1) := by decide +kernel
theorem dX4_placeOf_5 : decode cX4_placeOf 5 = .ok (.aload_n 0, 1) := by decide +kernel
theorem dX4_placeOf_6 : decode cX4_placeOf 6 = .ok (.getfield 28, 3) := by decide +kernel
theorem dX4_placeOf_9 : decode cX4_placeOf 9 = .ok (.if_icmp .ge 26, 3) := by decide +kernel
theorem dX4_placeOf_12 : decode cX4_placeOf 12 = .ok (.iload_n 2, 1) := by decide +kernel
theorem dX4_placeOf_13 : decode cX4_placeOf 13 = .ok (.ifCond .lt 22, 3) := by decide +kernel
theorem dX4_placeOf_16 : decode cX4_placeOf 16 = .ok (.iload_n 2, 1) := by decide +kernel
theorem dX4_placeOf_17 : decode cX4_placeOf 17 = .ok (.aload_n 0, 1) := by decide +kernel
theorem dX4_placeOf_18 : decode cX4_placeOf 18 = .ok (.getfield 21, 3) := by decide +kernel
theorem dX4_placeOf_21 : decode cX4_placeOf 21 = .ok (.if_icmp .ge 14, 3) := by decide +kernel
theorem dX4_placeOf_24 : decode cX4_placeOf 24 = .ok (.iload_n 1, 1) := by decide +kernel
theorem dX4_placeOf_25 : decode cX4_placeOf 25 = .ok (.aload_n 0, 1) := by decide +kernel
theorem dX4_placeOf_26 : decode cX4_placeOf 26 = .ok (.getfield 21, 3) := by decide +kernel
theorem dX4_placeOf_29 : decode cX4_placeOf 29 = .ok (.imul, 1) := by decide +kernel
theorem dX4_placeOf_30 : decode cX4_placeOf 30 = .ok (.iload_n 2, 1) := by decide +kernel
theorem dX4_placeOf_31 : decode cX4_placeOf 31 = .ok (.iadd, 1) := by decide +kernel
theorem dX4_placeOf_32 : decode cX4_placeOf 32 = .ok (.goto 4, 3) := by decide +kernel
theorem dX4_placeOf_35 : decode cX4_placeOf 35 = .ok (.iconst (-1), 1) := by decide +kernel
theorem dX4_placeOf_36 : decode cX4_placeOf 36 = .ok (.ireturn, 1) := by decide +kernel
theorem dX4_get_0 : decode cX4_get 0 = .ok (.aload_n 0, 1) := by decide +kernel
theorem dX4_get_1 : decode cX4_get 1 = .ok (.iload_n 1, 1) := by decide +kernel
theorem dX4_get_2 : decode cX4_get 2 = .ok (.iload_n 2, 1) := by decide +kernel
theorem dX4_get_3 : decode cX4_get 3 = .ok (.invokevirtual 31, 3) := by decide +kernel
theorem dX4_get_6 : decode cX4_get 6 = .ok (.istore_n 3, 1) := by decide +kernel
theorem dX4_get_7 : decode cX4_get 7 = .ok (.iload_n 3, 1) := by decide +kernel
theorem dX4_get_8 : decode cX4_get 8 = .ok (.ifCond .lt 21, 3) := by decide +kernel
theorem dX4_get_11 : decode cX4_get 11 = .ok (.iload_n 3, 1) := by decide +kernel
theorem dX4_get_12 : decode cX4_get 12 = .ok (.aload_n 0, 1) := by decide +kernel
theorem dX4_get_13 : decode cX4_get 13 = .ok (.getfield 24, 3) := by decide +kernel
theorem dX4_get_16 : decode cX4_get 16 = .ok (.arraylength, 1) := by decide +kernel
theorem dX4_get_17 : decode cX4_get 17 = .ok (.if_icmp .ge 12, 3) := by decide +kernel
theorem dX4_get_20 : decode cX4_get 20 = .ok (.aload_n 0, 1) := by decide +kernel
theorem dX4_get_21 : decode cX4_get 21 = .ok (.getfield 24, 3) := by decide +kernel
theorem dX4_get_24 : decode cX4_get 24 = .ok (.iload_n 3, 1) := by decide +kernel
theorem dX4_get_25 : decode cX4_get 25 = .ok (.iaload, 1) := by decide +kernel
theorem dX4_get_26 : decode cX4_get 26 = .ok (.goto 4, 3) := by decide +kernel
theorem dX4_get_29 : decode cX4_get 29 = .ok (.iconst 0, 1) := by decide +kernel
theorem dX4_get_30 : decode cX4_get 30 = .ok (.ireturn, 1) := by decide +kernel
theorem dX4_put_0 : decode cX4_put 0 = .ok (.aload_n 0, 1) := by decide +kernel
theorem dX4_put_1 : decode cX4_put 1 = .ok (.iload_n 1, 1) := by decide +kernel
theorem dX4_put_2 : decode cX4_put 2 = .ok (.iload_n 2, 1) := by decide +kernel
theorem dX4_put_3 : decode cX4_put 3 = .ok (.invokevirtual 31, 3) := by decide +kernel
theorem dX4_put_6 : decode cX4_put 6 = .ok (.istore 4, 2) := by decide +kernel
theorem dX4_put_8 : decode cX4_put 8 = .ok (.iload 4, 2) := by decide +kernel
theorem dX4_put_10 : decode cX4_put 10 = .ok (.ifCond .lt 21, 3) := by decide +kernel
theorem dX4_put_13 : decode cX4_put 13 = .ok (.iload 4, 2) := by decide +kernel
theorem dX4_put_15 : decode cX4_put 15 = .ok (.aload_n 0, 1) := by decide +kernel
theorem dX4_put_16 : decode cX4_put 16 = .ok (.getfield 24, 3) := by decide +kernel
theorem dX4_put_19 : decode cX4_put 19 = .ok (.arraylength, 1) := by decide +kernel
theorem dX4_put_20 : decode cX4_put 20 = .ok (.if_icmp .ge 11, 3) := by decide +kernel
theorem dX4_put_23 : decode cX4_put 23 = .ok (.aload_n 0, 1) := by decide +kernel
theorem dX4_put_24 : decode cX4_put 24 = .ok (.getfield 24, 3) := by decide +kernel
theorem dX4_put_27 : decode cX4_put 27 = .ok (.iload 4, 2) := by decide +kernel
theorem dX4_put_29 : decode cX4_put 29 = .ok (.iload_n 3, 1) := by decide +kernel
theorem dX4_put_30 : decode cX4_put 30 = .ok (.iastore, 1) := by decide +kernel
theorem dX4_put_31 : decode cX4_put 31 = .ok (.return_, 1) := by decide +kernel
theorem dX4_openRow_0 : decode cX4_openRow 0 = .ok (.aload_n 0, 1) := by decide +kernel
theorem dX4_openRow_1 : decode cX4_openRow 1 = .ok (.invokevirtual 34, 3) := by decide +kernel
theorem dX4_openRow_4 : decode cX4_openRow 4 = .ok (.ifCond .eq 5, 3) := by decide +kernel
theorem dX4_openRow_7 : decode cX4_openRow 7 = .ok (.iconst (-1), 1) := by decide +kernel
theorem dX4_openRow_8 : decode cX4_openRow 8 = .ok (.ireturn, 1) := by decide +kernel
theorem dX4_openRow_9 : decode cX4_openRow 9 = .ok (.aload_n 0, 1) := by decide +kernel
theorem dX4_openRow_10 : decode cX4_openRow 10 = .ok (.dup, 1) := by decide +kernel
theorem dX4_openRow_11 : decode cX4_openRow 11 = .ok (.getfield 28, 3) := by decide +kernel
theorem dX4_openRow_14 : decode cX4_openRow 14 = .ok (.iconst 1, 1) := by decide +kernel
theorem dX4_openRow_15 : decode cX4_openRow 15 = .ok (.iadd, 1) := by decide +kernel
theorem dX4_openRow_16 : decode cX4_openRow 16 = .ok (.putfield 28, 3) := by decide +kernel
theorem dX4_openRow_19 : decode cX4_openRow 19 = .ok (.iconst 0, 1) := by decide +kernel
theorem dX4_openRow_20 : decode cX4_openRow 20 = .ok (.istore_n 1, 1) := by decide +kernel
theorem dX4_openRow_21 : decode cX4_openRow 21 = .ok (.iload_n 1, 1) := by decide +kernel
theorem dX4_openRow_22 : decode cX4_openRow 22 = .ok (.aload_n 0, 1) := by decide +kernel
theorem dX4_openRow_23 : decode cX4_openRow 23 = .ok (.getfield 21, 3) := by decide +kernel
theorem dX4_openRow_26 : decode cX4_openRow 26 = .ok (.if_icmp .ge 21, 3) := by decide +kernel
theorem dX4_openRow_29 : decode cX4_openRow 29 = .ok (.aload_n 0, 1) := by decide +kernel
theorem dX4_openRow_30 : decode cX4_openRow 30 = .ok (.aload_n 0, 1) := by decide +kernel
theorem dX4_openRow_31 : decode cX4_openRow 31 = .ok (.getfield 28, 3) := by decide +kernel
theorem dX4_openRow_34 : decode cX4_openRow 34 = .ok (.iconst 1, 1) := by decide +kernel
theorem dX4_openRow_35 : decode cX4_openRow 35 = .ok (.isub, 1) := by decide +kernel
theorem dX4_openRow_36 : decode cX4_openRow 36 = .ok (.iload_n 1, 1) := by decide +kernel
theorem dX4_openRow_37 : decode cX4_openRow 37 = .ok (.iconst 0, 1) := by decide +kernel
theorem dX4_openRow_38 : decode cX4_openRow 38 = .ok (.invokevirtual 38, 3) := by decide +kernel
theorem dX4_openRow_41 : decode cX4_openRow 41 = .ok (.iinc 1 1, 3) := by decide +kernel
theorem dX4_openRow_44 : decode cX4_openRow 44 = .ok (.goto (-23), 3) := by decide +kernel
theorem dX4_openRow_47 : decode cX4_openRow 47 = .ok (.aload_n 0, 1) := by decide +kernel
theorem dX4_openRow_48 : decode cX4_openRow 48 = .ok (.getfield 28, 3) := by decide +kernel
theorem dX4_openRow_51 : decode cX4_openRow 51 = .ok (.iconst 1, 1) := by decide +kernel
theorem dX4_openRow_52 : decode cX4_openRow 52 = .ok (.isub, 1) := by decide +kernel
theorem dX4_openRow_53 : decode cX4_openRow 53 = .ok (.ireturn, 1) := by decide +kernel
theorem dX4_addRow_0 : decode cX4_addRow 0 = .ok (.aload_n 0, 1) := by decide +kernel
theorem dX4_addRow_1 : decode cX4_addRow 1 = .ok (.invokevirtual 42, 3) := by decide +kernel
theorem dX4_addRow_4 : decode cX4_addRow 4 = .ok (.istore 6, 2) := by decide +kernel
theorem dX4_addRow_6 : decode cX4_addRow 6 = .ok (.aload_n 0, 1) := by decide +kernel
theorem dX4_addRow_7 : decode cX4_addRow 7 = .ok (.iload 6, 2) := by decide +kernel
theorem dX4_addRow_9 : decode cX4_addRow 9 = .ok (.iconst 0, 1) := by decide +kernel
theorem dX4_addRow_10 : decode cX4_addRow 10 = .ok (.iload_n 1, 1) := by decide +kernel
theorem dX4_addRow_11 : decode cX4_addRow 11 = .ok (.invokevirtual 38, 3) := by decide +kernel
theorem dX4_addRow_14 : decode cX4_addRow 14 = .ok (.aload_n 0, 1) := by decide +kernel
theorem dX4_addRow_15 : decode cX4_addRow 15 = .ok (.iload 6, 2) := by decide +kernel
theorem dX4_addRow_17 : decode cX4_addRow 17 = .ok (.iconst 1, 1) := by decide +kernel
theorem dX4_addRow_18 : decode cX4_addRow 18 = .ok (.iload_n 2, 1) := by decide +kernel
theorem dX4_addRow_19 : decode cX4_addRow 19 = .ok (.invokevirtual 38, 3) := by decide +kernel
theorem dX4_addRow_22 : decode cX4_addRow 22 = .ok (.aload_n 0, 1) := by decide +kernel
theorem dX4_addRow_23 : decode cX4_addRow 23 = .ok (.iload 6, 2) := by decide +kernel
theorem dX4_addRow_25 : decode cX4_addRow 25 = .ok (.iconst 2, 1) := by decide +kernel
theorem dX4_addRow_26 : decode cX4_addRow 26 = .ok (.iload_n 3, 1) := by decide +kernel
theorem dX4_addRow_27 : decode cX4_addRow 27 = .ok (.invokevirtual 38, 3) := by decide +kernel
theorem dX4_addRow_30 : decode cX4_addRow 30 = .ok (.aload_n 0, 1) := by decide +kernel
theorem dX4_addRow_31 : decode cX4_addRow 31 = .ok (.iload 6, 2) := by decide +kernel
theorem dX4_addRow_33 : decode cX4_addRow 33 = .ok (.iconst 3, 1) := by decide +kernel
theorem dX4_addRow_34 : decode cX4_addRow 34 = .ok (.iload 4, 2) := by decide +kernel
theorem dX4_addRow_36 : decode cX4_addRow 36 = .ok (.invokevirtual 38, 3) := by decide +kernel
theorem dX4_addRow_39 : decode cX4_addRow 39 = .ok (.aload_n 0, 1) := by decide +kernel
theorem dX4_addRow_40 : decode cX4_addRow 40 = .ok (.iload 6, 2) := by decide +kernel
theorem dX4_addRow_42 : decode cX4_addRow 42 = .ok (.iconst 4, 1) := by decide +kernel
theorem dX4_addRow_43 : decode cX4_addRow 43 = .ok (.iload 5, 2) := by decide +kernel
theorem dX4_addRow_45 : decode cX4_addRow 45 = .ok (.invokevirtual 38, 3) := by decide +kernel
theorem dX4_addRow_48 : decode cX4_addRow 48 = .ok (.aload_n 0, 1) := by decide +kernel
theorem dX4_addRow_49 : decode cX4_addRow 49 = .ok (.getfield 28, 3) := by decide +kernel
theorem dX4_addRow_52 : decode cX4_addRow 52 = .ok (.ireturn, 1) := by decide +kernel
theorem dX4_empty_0 : decode cX4_empty 0 = .ok (.aload_n 0, 1) := by decide +kernel
theorem dX4_empty_1 : decode cX4_empty 1 = .ok (.getfield 28, 3) := by decide +kernel
theorem dX4_empty_4 : decode cX4_empty 4 = .ok (.istore_n 1, 1) := by decide +kernel
theorem dX4_empty_5 : decode cX4_empty 5 = .ok (.aload_n 0, 1) := by decide +kernel
theorem dX4_empty_6 : decode cX4_empty 6 = .ok (.iconst 0, 1) := by decide +kernel
theorem dX4_empty_7 : decode cX4_empty 7 = .ok (.putfield 28, 3) := by decide +kernel
theorem dX4_empty_10 : decode cX4_empty 10 = .ok (.iload_n 1, 1) := by decide +kernel
theorem dX4_empty_11 : decode cX4_empty 11 = .ok (.ireturn, 1) := by decide +kernel
theorem dX4_dropFirst_0 : decode cX4_dropFirst 0 = .ok (.aload_n 0, 1) := by decide +kernel
theorem dX4_dropFirst_1 : decode cX4_dropFirst 1 = .ok (.getfield 28, 3) := by decide +kernel
theorem dX4_dropFirst_4 : decode cX4_dropFirst 4 = .ok (.ifCond .le 51, 3) := by decide +kernel
theorem dX4_dropFirst_7 : decode cX4_dropFirst 7 = .ok (.aload_n 0, 1) := by decide +kernel
theorem dX4_dropFirst_8 : decode cX4_dropFirst 8 = .ok (.getfield 21, 3) := by decide +kernel
theorem dX4_dropFirst_11 : decode cX4_dropFirst 11 = .ok (.aload_n 0, 1) := by decide +kernel
theorem dX4_dropFirst_12 : decode cX4_dropFirst 12 = .ok (.getfield 24, 3) := by decide +kernel
theorem dX4_dropFirst_15 : decode cX4_dropFirst 15 = .ok (.arraylength, 1) := by decide +kernel
theorem dX4_dropFirst_16 : decode cX4_dropFirst 16 = .ok (.if_icmp .gt 39, 3) := by decide +kernel
theorem dX4_dropFirst_19 : decode cX4_dropFirst 19 = .ok (.aload_n 0, 1) := by decide +kernel
theorem dX4_dropFirst_20 : decode cX4_dropFirst 20 = .ok (.getfield 24, 3) := by decide +kernel
theorem dX4_dropFirst_23 : decode cX4_dropFirst 23 = .ok (.aload_n 0, 1) := by decide +kernel
theorem dX4_dropFirst_24 : decode cX4_dropFirst 24 = .ok (.getfield 21, 3) := by decide +kernel
theorem dX4_dropFirst_27 : decode cX4_dropFirst 27 = .ok (.aload_n 0, 1) := by decide +kernel
theorem dX4_dropFirst_28 : decode cX4_dropFirst 28 = .ok (.getfield 24, 3) := by decide +kernel
theorem dX4_dropFirst_31 : decode cX4_dropFirst 31 = .ok (.iconst 0, 1) := by decide +kernel
theorem dX4_dropFirst_32 : decode cX4_dropFirst 32 = .ok (.aload_n 0, 1) := by decide +kernel
theorem dX4_dropFirst_33 : decode cX4_dropFirst 33 = .ok (.getfield 24, 3) := by decide +kernel
theorem dX4_dropFirst_36 : decode cX4_dropFirst 36 = .ok (.arraylength, 1) := by decide +kernel
theorem dX4_dropFirst_37 : decode cX4_dropFirst 37 = .ok (.aload_n 0, 1) := by decide +kernel
theorem dX4_dropFirst_38 : decode cX4_dropFirst 38 = .ok (.getfield 21, 3) := by decide +kernel
theorem dX4_dropFirst_41 : decode cX4_dropFirst 41 = .ok (.isub, 1) := by decide +kernel
theorem dX4_dropFirst_42 : decode cX4_dropFirst 42 = .ok (.invokestatic 46, 3) := by decide +kernel
theorem dX4_dropFirst_45 : decode cX4_dropFirst 45 = .ok (.aload_n 0, 1) := by decide +kernel
theorem dX4_dropFirst_46 : decode cX4_dropFirst 46 = .ok (.dup, 1) := by decide +kernel
theorem dX4_dropFirst_47 : decode cX4_dropFirst 47 = .ok (.getfield 28, 3) := by decide +kernel
theorem dX4_dropFirst_50 : decode cX4_dropFirst 50 = .ok (.iconst 1, 1) := by decide +kernel
theorem dX4_dropFirst_51 : decode cX4_dropFirst 51 = .ok (.isub, 1) := by decide +kernel
theorem dX4_dropFirst_52 : decode cX4_dropFirst 52 = .ok (.putfield 28, 3) := by decide +kernel
theorem dX4_dropFirst_55 : decode cX4_dropFirst 55 = .ok (.return_, 1) := by decide +kernel
theorem dX4_putSheet_0 : decode cX4_putSheet 0 = .ok (.aload_n 0, 1) := by decide +kernel
theorem dX4_putSheet_1 : decode cX4_putSheet 1 = .ok (.iload_n 1, 1) := by decide +kernel
theorem dX4_putSheet_2 : decode cX4_putSheet 2 = .ok (.iload_n 2, 1) := by decide +kernel
theorem dX4_putSheet_3 : decode cX4_putSheet 3 = .ok (.invokevirtual 31, 3) := by decide +kernel
theorem dX4_putSheet_6 : decode cX4_putSheet 6 = .ok (.istore 4, 2) := by decide +kernel
theorem dX4_putSheet_8 : decode cX4_putSheet 8 = .ok (.iload 4, 2) := by decide +kernel
theorem dX4_putSheet_10 : decode cX4_putSheet 10 = .ok (.ifCond .lt 56, 3) := by decide +kernel
theorem dX4_putSheet_13 : decode cX4_putSheet 13 = .ok (.aload_n 3, 1) := by decide +kernel
theorem dX4_putSheet_14 : decode cX4_putSheet 14 = .ok (.ifnull 52, 3) := by decide +kernel
theorem dX4_putSheet_17 : decode cX4_putSheet 17 = .ok (.aload_n 3, 1) := by decide +kernel
theorem dX4_putSheet_18 : decode cX4_putSheet 18 = .ok (.getfield 24, 3) := by decide +kernel
theorem dX4_putSheet_21 : decode cX4_putSheet 21 = .ok (.arraylength, 1) := by decide +kernel
theorem dX4_putSheet_22 : decode cX4_putSheet 22 = .ok (.aload_n 0, 1) := by decide +kernel
theorem dX4_putSheet_23 : decode cX4_putSheet 23 = .ok (.getfield 21, 3) := by decide +kernel
theorem dX4_putSheet_26 : decode cX4_putSheet 26 = .ok (.iload_n 2, 1) := by decide +kernel
theorem dX4_putSheet_27 : decode cX4_putSheet 27 = .ok (.isub, 1) := by decide +kernel
theorem dX4_putSheet_28 : decode cX4_putSheet 28 = .ok (.if_icmp .gt 38, 3) := by decide +kernel
theorem dX4_putSheet_31 : decode cX4_putSheet 31 = .ok (.aload_n 3, 1) := by decide +kernel
theorem dX4_putSheet_32 : decode cX4_putSheet 32 = .ok (.getfield 24, 3) := by decide +kernel
theorem dX4_putSheet_35 : decode cX4_putSheet 35 = .ok (.arraylength, 1) := by decide +kernel
theorem dX4_putSheet_36 : decode cX4_putSheet 36 = .ok (.aload_n 0, 1) := by decide +kernel
theorem dX4_putSheet_37 : decode cX4_putSheet 37 = .ok (.getfield 24, 3) := by decide +kernel
theorem dX4_putSheet_40 : decode cX4_putSheet 40 = .ok (.arraylength, 1) := by decide +kernel
theorem dX4_putSheet_41 : decode cX4_putSheet 41 = .ok (.iload 4, 2) := by decide +kernel
theorem dX4_putSheet_43 : decode cX4_putSheet 43 = .ok (.isub, 1) := by decide +kernel
theorem dX4_putSheet_44 : decode cX4_putSheet 44 = .ok (.if_icmp .gt 22, 3) := by decide +kernel
theorem dX4_putSheet_47 : decode cX4_putSheet 47 = .ok (.aload_n 3, 1) := by decide +kernel
theorem dX4_putSheet_48 : decode cX4_putSheet 48 = .ok (.getfield 24, 3) := by decide +kernel
theorem dX4_putSheet_51 : decode cX4_putSheet 51 = .ok (.iconst 0, 1) := by decide +kernel
theorem dX4_putSheet_52 : decode cX4_putSheet 52 = .ok (.aload_n 0, 1) := by decide +kernel
theorem dX4_putSheet_53 : decode cX4_putSheet 53 = .ok (.getfield 24, 3) := by decide +kernel
theorem dX4_putSheet_56 : decode cX4_putSheet 56 = .ok (.iload 4, 2) := by decide +kernel
theorem dX4_putSheet_58 : decode cX4_putSheet 58 = .ok (.aload_n 3, 1) := by decide +kernel
theorem dX4_putSheet_59 : decode cX4_putSheet 59 = .ok (.getfield 24, 3) := by decide +kernel
theorem dX4_putSheet_62 : decode cX4_putSheet 62 = .ok (.arraylength, 1) := by decide +kernel
theorem dX4_putSheet_63 : decode cX4_putSheet 63 = .ok (.invokestatic 46, 3) := by decide +kernel
theorem dX4_putSheet_66 : decode cX4_putSheet 66 = .ok (.return_, 1) := by decide +kernel
theorem dX4_getSheet_0 : decode cX4_getSheet 0 = .ok (.aload_n 0, 1) := by decide +kernel
theorem dX4_getSheet_1 : decode cX4_getSheet 1 = .ok (.iload_n 1, 1) := by decide +kernel
theorem dX4_getSheet_2 : decode cX4_getSheet 2 = .ok (.iload_n 2, 1) := by decide +kernel
theorem dX4_getSheet_3 : decode cX4_getSheet 3 = .ok (.invokevirtual 31, 3) := by decide +kernel
theorem dX4_getSheet_6 : decode cX4_getSheet 6 = .ok (.istore 4, 2) := by decide +kernel
theorem dX4_getSheet_8 : decode cX4_getSheet 8 = .ok (.iload 4, 2) := by decide +kernel
theorem dX4_getSheet_10 : decode cX4_getSheet 10 = .ok (.ifCond .lt 56, 3) := by decide +kernel
theorem dX4_getSheet_13 : decode cX4_getSheet 13 = .ok (.aload_n 3, 1) := by decide +kernel
theorem dX4_getSheet_14 : decode cX4_getSheet 14 = .ok (.ifnull 52, 3) := by decide +kernel
theorem dX4_getSheet_17 : decode cX4_getSheet 17 = .ok (.aload_n 3, 1) := by decide +kernel
theorem dX4_getSheet_18 : decode cX4_getSheet 18 = .ok (.getfield 24, 3) := by decide +kernel
theorem dX4_getSheet_21 : decode cX4_getSheet 21 = .ok (.arraylength, 1) := by decide +kernel
theorem dX4_getSheet_22 : decode cX4_getSheet 22 = .ok (.aload_n 0, 1) := by decide +kernel
theorem dX4_getSheet_23 : decode cX4_getSheet 23 = .ok (.getfield 21, 3) := by decide +kernel
theorem dX4_getSheet_26 : decode cX4_getSheet 26 = .ok (.iload_n 2, 1) := by decide +kernel
theorem dX4_getSheet_27 : decode cX4_getSheet 27 = .ok (.isub, 1) := by decide +kernel
theorem dX4_getSheet_28 : decode cX4_getSheet 28 = .ok (.if_icmp .gt 38, 3) := by decide +kernel
theorem dX4_getSheet_31 : decode cX4_getSheet 31 = .ok (.aload_n 3, 1) := by decide +kernel
theorem dX4_getSheet_32 : decode cX4_getSheet 32 = .ok (.getfield 24, 3) := by decide +kernel
theorem dX4_getSheet_35 : decode cX4_getSheet 35 = .ok (.arraylength, 1) := by decide +kernel
theorem dX4_getSheet_36 : decode cX4_getSheet 36 = .ok (.aload_n 0, 1) := by decide +kernel
theorem dX4_getSheet_37 : decode cX4_getSheet 37 = .ok (.getfield 24, 3) := by decide +kernel
theorem dX4_getSheet_40 : decode cX4_getSheet 40 = .ok (.arraylength, 1) := by decide +kernel
theorem dX4_getSheet_41 : decode cX4_getSheet 41 = .ok (.iload 4, 2) := by decide +kernel
theorem dX4_getSheet_43 : decode cX4_getSheet 43 = .ok (.isub, 1) := by decide +kernel
theorem dX4_getSheet_44 : decode cX4_getSheet 44 = .ok (.if_icmp .gt 22, 3) := by decide +kernel
theorem dX4_getSheet_47 : decode cX4_getSheet 47 = .ok (.aload_n 0, 1) := by decide +kernel
theorem dX4_getSheet_48 : decode cX4_getSheet 48 = .ok (.getfield 24, 3) := by decide +kernel
theorem dX4_getSheet_51 : decode cX4_getSheet 51 = .ok (.iload 4, 2) := by decide +kernel
theorem dX4_getSheet_53 : decode cX4_getSheet 53 = .ok (.aload_n 3, 1) := by decide +kernel
theorem dX4_getSheet_54 : decode cX4_getSheet 54 = .ok (.getfield 24, 3) := by decide +kernel
theorem dX4_getSheet_57 : decode cX4_getSheet 57 = .ok (.iconst 0, 1) := by decide +kernel
theorem dX4_getSheet_58 : decode cX4_getSheet 58 = .ok (.aload_n 3, 1) := by decide +kernel
theorem dX4_getSheet_59 : decode cX4_getSheet 59 = .ok (.getfield 24, 3) := by decide +kernel
theorem dX4_getSheet_62 : decode cX4_getSheet 62 = .ok (.arraylength, 1) := by decide +kernel
theorem dX4_getSheet_63 : decode cX4_getSheet 63 = .ok (.invokestatic 46, 3) := by decide +kernel
theorem dX4_getSheet_66 : decode cX4_getSheet 66 = .ok (.return_, 1) := by decide +kernel
theorem dX4_copyFrom_0 : decode cX4_copyFrom 0 = .ok (.aload_n 1, 1) := by decide +kernel
theorem dX4_copyFrom_1 : decode cX4_copyFrom 1 = .ok (.ifnull 53, 3) := by decide +kernel
theorem dX4_copyFrom_4 : decode cX4_copyFrom 4 = .ok (.aload_n 1, 1) := by decide +kernel
theorem dX4_copyFrom_5 : decode cX4_copyFrom 5 = .ok (.getfield 15, 3) := by decide +kernel
theorem dX4_copyFrom_8 : decode cX4_copyFrom 8 = .ok (.aload_n 0, 1) := by decide +kernel
theorem dX4_copyFrom_9 : decode cX4_copyFrom 9 = .ok (.getfield 15, 3) := by decide +kernel
theorem dX4_copyFrom_12 : decode cX4_copyFrom 12 = .ok (.if_icmp .ne 42, 3) := by decide +kernel
theorem dX4_copyFrom_15 : decode cX4_copyFrom 15 = .ok (.aload_n 1, 1) := by decide +kernel
theorem dX4_copyFrom_16 : decode cX4_copyFrom 16 = .ok (.getfield 24, 3) := by decide +kernel
theorem dX4_copyFrom_19 : decode cX4_copyFrom 19 = .ok (.arraylength, 1) := by decide +kernel
theorem dX4_copyFrom_20 : decode cX4_copyFrom 20 = .ok (.aload_n 0, 1) := by decide +kernel
theorem dX4_copyFrom_21 : decode cX4_copyFrom 21 = .ok (.getfield 24, 3) := by decide +kernel
theorem dX4_copyFrom_24 : decode cX4_copyFrom 24 = .ok (.arraylength, 1) := by decide +kernel
theorem dX4_copyFrom_25 : decode cX4_copyFrom 25 = .ok (.if_icmp .ne 29, 3) := by decide +kernel
theorem dX4_copyFrom_28 : decode cX4_copyFrom 28 = .ok (.aload_n 1, 1) := by decide +kernel
theorem dX4_copyFrom_29 : decode cX4_copyFrom 29 = .ok (.getfield 24, 3) := by decide +kernel
theorem dX4_copyFrom_32 : decode cX4_copyFrom 32 = .ok (.iconst 0, 1) := by decide +kernel
theorem dX4_copyFrom_33 : decode cX4_copyFrom 33 = .ok (.aload_n 0, 1) := by decide +kernel
theorem dX4_copyFrom_34 : decode cX4_copyFrom 34 = .ok (.getfield 24, 3) := by decide +kernel
theorem dX4_copyFrom_37 : decode cX4_copyFrom 37 = .ok (.iconst 0, 1) := by decide +kernel
theorem dX4_copyFrom_38 : decode cX4_copyFrom 38 = .ok (.aload_n 0, 1) := by decide +kernel
theorem dX4_copyFrom_39 : decode cX4_copyFrom 39 = .ok (.getfield 24, 3) := by decide +kernel
theorem dX4_copyFrom_42 : decode cX4_copyFrom 42 = .ok (.arraylength, 1) := by decide +kernel
theorem dX4_copyFrom_43 : decode cX4_copyFrom 43 = .ok (.invokestatic 46, 3) := by decide +kernel
theorem dX4_copyFrom_46 : decode cX4_copyFrom 46 = .ok (.aload_n 0, 1) := by decide +kernel
theorem dX4_copyFrom_47 : decode cX4_copyFrom 47 = .ok (.aload_n 1, 1) := by decide +kernel
theorem dX4_copyFrom_48 : decode cX4_copyFrom 48 = .ok (.getfield 28, 3) := by decide +kernel
theorem dX4_copyFrom_51 : decode cX4_copyFrom 51 = .ok (.putfield 28, 3) := by decide +kernel
theorem dX4_copyFrom_54 : decode cX4_copyFrom 54 = .ok (.return_, 1) := by decide +kernel
theorem dX4_mixInto_0 : decode cX4_mixInto 0 = .ok (.lload_n 1, 1) := by decide +kernel
theorem dX4_mixInto_1 : decode cX4_mixInto 1 = .ok (.lstore_n 3, 1) := by decide +kernel
theorem dX4_mixInto_2 : decode cX4_mixInto 2 = .ok (.iconst 0, 1) := by decide +kernel
theorem dX4_mixInto_3 : decode cX4_mixInto 3 = .ok (.istore 5, 2) := by decide +kernel
theorem dX4_mixInto_5 : decode cX4_mixInto 5 = .ok (.iload 5, 2) := by decide +kernel
theorem dX4_mixInto_7 : decode cX4_mixInto 7 = .ok (.aload_n 0, 1) := by decide +kernel
theorem dX4_mixInto_8 : decode cX4_mixInto 8 = .ok (.getfield 28, 3) := by decide +kernel
theorem dX4_mixInto_11 : decode cX4_mixInto 11 = .ok (.aload_n 0, 1) := by decide +kernel
theorem dX4_mixInto_12 : decode cX4_mixInto 12 = .ok (.getfield 21, 3) := by decide +kernel
theorem dX4_mixInto_15 : decode cX4_mixInto 15 = .ok (.imul, 1) := by decide +kernel
theorem dX4_mixInto_16 : decode cX4_mixInto 16 = .ok (.if_icmp .ge 34, 3) := by decide +kernel
theorem dX4_mixInto_19 : decode cX4_mixInto 19 = .ok (.iload 5, 2) := by decide +kernel
theorem dX4_mixInto_21 : decode cX4_mixInto 21 = .ok (.aload_n 0, 1) := by decide +kernel
theorem dX4_mixInto_22 : decode cX4_mixInto 22 = .ok (.getfield 24, 3) := by decide +kernel
theorem dX4_mixInto_25 : decode cX4_mixInto 25 = .ok (.arraylength, 1) := by decide +kernel
theorem dX4_mixInto_26 : decode cX4_mixInto 26 = .ok (.if_icmp .ge 24, 3) := by decide +kernel
theorem dX4_mixInto_29 : decode cX4_mixInto 29 = .ok (.ldc2_w 52, 3) := by decide +kernel
theorem dX4_mixInto_32 : decode cX4_mixInto 32 = .ok (.lload_n 3, 1) := by decide +kernel
theorem dX4_mixInto_33 : decode cX4_mixInto 33 = .ok (.lmul, 1) := by decide +kernel
theorem dX4_mixInto_34 : decode cX4_mixInto 34 = .ok (.aload_n 0, 1) := by decide +kernel
theorem dX4_mixInto_35 : decode cX4_mixInto 35 = .ok (.getfield 24, 3) := by decide +kernel
theorem dX4_mixInto_38 : decode cX4_mixInto 38 = .ok (.iload 5, 2) := by decide +kernel
theorem dX4_mixInto_40 : decode cX4_mixInto 40 = .ok (.iaload, 1) := by decide +kernel
theorem dX4_mixInto_41 : decode cX4_mixInto 41 = .ok (.i2l, 1) := by decide +kernel
theorem dX4_mixInto_42 : decode cX4_mixInto 42 = .ok (.ladd, 1) := by decide +kernel
theorem dX4_mixInto_43 : decode cX4_mixInto 43 = .ok (.lstore_n 3, 1) := by decide +kernel
theorem dX4_mixInto_44 : decode cX4_mixInto 44 = .ok (.iinc 5 1, 3) := by decide +kernel
theorem dX4_mixInto_47 : decode cX4_mixInto 47 = .ok (.goto (-42), 3) := by decide +kernel
theorem dX4_mixInto_50 : decode cX4_mixInto 50 = .ok (.lload_n 3, 1) := by decide +kernel
theorem dX4_mixInto_51 : decode cX4_mixInto 51 = .ok (.lreturn, 1) := by decide +kernel
theorem dX5_init_0 : decode cX5_init 0 = .ok (.aload_n 0, 1) := by decide +kernel
theorem dX5_init_1 : decode cX5_init 1 = .ok (.invokespecial 3, 3) := by decide +kernel
theorem dX5_init_4 : decode cX5_init 4 = .ok (.aload_n 0, 1) := by decide +kernel
theorem dX5_init_5 : decode cX5_init 5 = .ok (.bipush 6, 2) := by decide +kernel
theorem dX5_init_7 : decode cX5_init 7 = .ok (.newarray .int, 2) := by decide +kernel
theorem dX5_init_9 : decode cX5_init 9 = .ok (.putfield 9, 3) := by decide +kernel
theorem dX5_init_12 : decode cX5_init 12 = .ok (.aload_n 0, 1) := by decide +kernel
theorem dX5_init_13 : decode cX5_init 13 = .ok (.aload_n 1, 1) := by decide +kernel
theorem dX5_init_14 : decode cX5_init 14 = .ok (.putfield 15, 3) := by decide +kernel
theorem dX5_init_17 : decode cX5_init 17 = .ok (.return_, 1) := by decide +kernel
theorem dX5_doorsBy_0 : decode cX5_doorsBy 0 = .ok (.aload_n 0, 1) := by decide +kernel
theorem dX5_doorsBy_1 : decode cX5_doorsBy 1 = .ok (.getfield 15, 3) := by decide +kernel
theorem dX5_doorsBy_4 : decode cX5_doorsBy 4 = .ok (.getfield 19, 3) := by decide +kernel
theorem dX5_doorsBy_7 : decode cX5_doorsBy 7 = .ok (.iload_n 1, 1) := by decide +kernel
theorem dX5_doorsBy_8 : decode cX5_doorsBy 8 = .ok (.iconst 0, 1) := by decide +kernel
theorem dX5_doorsBy_9 : decode cX5_doorsBy 9 = .ok (.invokevirtual 25, 3) := by decide +kernel
theorem dX5_doorsBy_12 : decode cX5_doorsBy 12 = .ok (.istore_n 2, 1) := by decide +kernel
theorem dX5_doorsBy_13 : decode cX5_doorsBy 13 = .ok (.aload_n 0, 1) := by decide +kernel
theorem dX5_doorsBy_14 : decode cX5_doorsBy 14 = .ok (.getfield 15, 3) := by decide +kernel
theorem dX5_doorsBy_17 : decode cX5_doorsBy 17 = .ok (.getfield 19, 3) := by decide +kernel
theorem dX5_doorsBy_20 : decode cX5_doorsBy 20 = .ok (.iload_n 1, 1) := by decide +kernel
theorem dX5_doorsBy_21 : decode cX5_doorsBy 21 = .ok (.iconst 2, 1) := by decide +kernel
theorem dX5_doorsBy_22 : decode cX5_doorsBy 22 = .ok (.invokevirtual 25, 3) := by decide +kernel
theorem dX5_doorsBy_25 : decode cX5_doorsBy 25 = .ok (.aload_n 0, 1) := by decide +kernel
theorem dX5_doorsBy_26 : decode cX5_doorsBy 26 = .ok (.getfield 15, 3) := by decide +kernel
theorem dX5_doorsBy_29 : decode cX5_doorsBy 29 = .ok (.iload_n 2, 1) := by decide +kernel
theorem dX5_doorsBy_30 : decode cX5_doorsBy 30 = .ok (.aload_n 0, 1) := by decide +kernel
theorem dX5_doorsBy_31 : decode cX5_doorsBy 31 = .ok (.getfield 15, 3) := by decide +kernel
theorem dX5_doorsBy_34 : decode cX5_doorsBy 34 = .ok (.getfield 19, 3) := by decide +kernel
theorem dX5_doorsBy_37 : decode cX5_doorsBy 37 = .ok (.iload_n 1, 1) := by decide +kernel
theorem dX5_doorsBy_38 : decode cX5_doorsBy 38 = .ok (.iconst 1, 1) := by decide +kernel
theorem dX5_doorsBy_39 : decode cX5_doorsBy 39 = .ok (.invokevirtual 25, 3) := by decide +kernel
theorem dX5_doorsBy_42 : decode cX5_doorsBy 42 = .ok (.invokevirtual 31, 3) := by decide +kernel
theorem dX5_doorsBy_45 : decode cX5_doorsBy 45 = .ok (.isub, 1) := by decide +kernel
theorem dX5_doorsBy_46 : decode cX5_doorsBy 46 = .ok (.istore_n 3, 1) := by decide +kernel
theorem dX5_doorsBy_47 : decode cX5_doorsBy 47 = .ok (.iconst 0, 1) := by decide +kernel
theorem dX5_doorsBy_48 : decode cX5_doorsBy 48 = .ok (.istore 4, 2) := by decide +kernel
theorem dX5_doorsBy_50 : decode cX5_doorsBy 50 = .ok (.iconst 0, 1) := by decide +kernel
theorem dX5_doorsBy_51 : decode cX5_doorsBy 51 = .ok (.istore 5, 2) := by decide +kernel
theorem dX5_doorsBy_53 : decode cX5_doorsBy 53 = .ok (.iload 5, 2) := by decide +kernel
theorem dX5_doorsBy_55 : decode cX5_doorsBy 55 = .ok (.bipush 9, 2) := by decide +kernel
theorem dX5_doorsBy_57 : decode cX5_doorsBy 57 = .ok (.if_icmp .gt 50, 3) := by decide +kernel
theorem dX5_doorsBy_60 : decode cX5_doorsBy 60 = .ok (.iconst 0, 1) := by decide +kernel
theorem dX5_doorsBy_61 : decode cX5_doorsBy 61 = .ok (.iload_n 3, 1) := by decide +kernel
theorem dX5_doorsBy_62 : decode cX5_doorsBy 62 = .ok (.iload 5, 2) := by decide +kernel
theorem dX5_doorsBy_64 : decode cX5_doorsBy 64 = .ok (.aload_n 0, 1) := by decide +kernel
theorem dX5_doorsBy_65 : decode cX5_doorsBy 65 = .ok (.getfield 15, 3) := by decide +kernel
theorem dX5_doorsBy_68 : decode cX5_doorsBy 68 = .ok (.iload_n 2, 1) := by decide +kernel
theorem dX5_doorsBy_69 : decode cX5_doorsBy 69 = .ok (.invokevirtual 34, 3) := by decide +kernel
theorem dX5_doorsBy_72 : decode cX5_doorsBy 72 = .ok (.imul, 1) := by decide +kernel
theorem dX5_doorsBy_73 : decode cX5_doorsBy 73 = .ok (.isub, 1) := by decide +kernel
theorem dX5_doorsBy_74 : decode cX5_doorsBy 74 = .ok (.invokestatic 38, 3) := by decide +kernel
theorem dX5_doorsBy_77 : decode cX5_doorsBy 77 = .ok (.aload_n 0, 1) := by decide +kernel
theorem dX5_doorsBy_78 : decode cX5_doorsBy 78 = .ok (.getfield 15, 3) := by decide +kernel
theorem dX5_doorsBy_81 : decode cX5_doorsBy 81 = .ok (.getfield 19, 3) := by decide +kernel
theorem dX5_doorsBy_84 : decode cX5_doorsBy 84 = .ok (.iload_n 1, 1) := by decide +kernel
theorem dX5_doorsBy_85 : decode cX5_doorsBy 85 = .ok (.iconst 3, 1) := by decide +kernel
theorem dX5_doorsBy_86 : decode cX5_doorsBy 86 = .ok (.invokevirtual 25, 3) := by decide +kernel
theorem dX5_doorsBy_89 : decode cX5_doorsBy 89 = .ok (.if_icmp .ne 12, 3) := by decide +kernel
theorem dX5_doorsBy_92 : decode cX5_doorsBy 92 = .ok (.iload 4, 2) := by decide +kernel
theorem dX5_doorsBy_94 : decode cX5_doorsBy 94 = .ok (.iconst 1, 1) := by decide +kernel
theorem dX5_doorsBy_95 : decode cX5_doorsBy 95 = .ok (.iload 5, 2) := by decide +kernel
theorem dX5_doorsBy_97 : decode cX5_doorsBy 97 = .ok (.ishl, 1) := by decide +kernel
theorem dX5_doorsBy_98 : decode cX5_doorsBy 98 = .ok (.ior, 1) := by decide +kernel
theorem dX5_doorsBy_99 : decode cX5_doorsBy 99 = .ok (.istore 4, 2) := by decide +kernel
theorem dX5_doorsBy_101 : decode cX5_doorsBy 101 = .ok (.iinc 5 1, 3) := by decide +kernel
theorem dX5_doorsBy_104 : decode cX5_doorsBy 104 = .ok (.goto (-51), 3) := by decide +kernel
theorem dX5_doorsBy_107 : decode cX5_doorsBy 107 = .ok (.iload 4, 2) := by decide +kernel
theorem dX5_doorsBy_109 : decode cX5_doorsBy 109 = .ok (.ireturn, 1) := by decide +kernel
theorem dX5_doorsByAll_0 : decode cX5_doorsByAll 0 = .ok (.sipush 1023, 3) := by decide +kernel
theorem dX5_doorsByAll_3 : decode cX5_doorsByAll 3 = .ok (.istore_n 2, 1) := by decide +kernel
theorem dX5_doorsByAll_4 : decode cX5_doorsByAll 4 = .ok (.iconst 0, 1) := by decide +kernel
theorem dX5_doorsByAll_5 : decode cX5_doorsByAll 5 = .ok (.istore_n 3, 1) := by decide +kernel
theorem dX5_doorsByAll_6 : decode cX5_doorsByAll 6 = .ok (.iload_n 3, 1) := by decide +kernel
theorem dX5_doorsByAll_7 : decode cX5_doorsByAll 7 = .ok (.aload_n 0, 1) := by decide +kernel
theorem dX5_doorsByAll_8 : decode cX5_doorsByAll 8 = .ok (.getfield 15, 3) := by decide +kernel
theorem dX5_doorsByAll_11 : decode cX5_doorsByAll 11 = .ok (.getfield 19, 3) := by decide +kernel
theorem dX5_doorsByAll_14 : decode cX5_doorsByAll 14 = .ok (.getfield 43, 3) := by decide +kernel
theorem dX5_doorsByAll_17 : decode cX5_doorsByAll 17 = .ok (.if_icmp .ge 33, 3) := by decide +kernel
theorem dX5_doorsByAll_20 : decode cX5_doorsByAll 20 = .ok (.aload_n 0, 1) := by decide +kernel
theorem dX5_doorsByAll_21 : decode cX5_doorsByAll 21 = .ok (.getfield 15, 3) := by decide +kernel
theorem dX5_doorsByAll_24 : decode cX5_doorsByAll 24 = .ok (.getfield 19, 3) := by decide +kernel
theorem dX5_doorsByAll_27 : decode cX5_doorsByAll 27 = .ok (.iload_n 3, 1) := by decide +kernel
theorem dX5_doorsByAll_28 : decode cX5_doorsByAll 28 = .ok (.iconst 0, 1) := by decide +kernel
theorem dX5_doorsByAll_29 : decode cX5_doorsByAll 29 = .ok (.invokevirtual 25, 3) := by decide +kernel
theorem dX5_doorsByAll_32 : decode cX5_doorsByAll 32 = .ok (.iload_n 1, 1) := by decide +kernel
theorem dX5_doorsByAll_33 : decode cX5_doorsByAll 33 = .ok (.if_icmp .ne 11, 3) := by decide +kernel
theorem dX5_doorsByAll_36 : decode cX5_doorsByAll 36 = .ok (.iload_n 2, 1) := by decide +kernel
theorem dX5_doorsByAll_37 : decode cX5_doorsByAll 37 = .ok (.aload_n 0, 1) := by decide +kernel
theorem dX5_doorsByAll_38 : decode cX5_doorsByAll 38 = .ok (.iload_n 3, 1) := by decide +kernel
theorem dX5_doorsByAll_39 : decode cX5_doorsByAll 39 = .ok (.invokevirtual 47, 3) := by decide +kernel
theorem dX5_doorsByAll_42 : decode cX5_doorsByAll 42 = .ok (.iand, 1) := by decide +kernel
theorem dX5_doorsByAll_43 : decode cX5_doorsByAll 43 = .ok (.istore_n 2, 1) := by decide +kernel
theorem dX5_doorsByAll_44 : decode cX5_doorsByAll 44 = .ok (.iinc 3 1, 3) := by decide +kernel
theorem dX5_doorsByAll_47 : decode cX5_doorsByAll 47 = .ok (.goto (-41), 3) := by decide +kernel
theorem dX5_doorsByAll_50 : decode cX5_doorsByAll 50 = .ok (.iload_n 2, 1) := by decide +kernel
theorem dX5_doorsByAll_51 : decode cX5_doorsByAll 51 = .ok (.ireturn, 1) := by decide +kernel
theorem dX5_kindsOfCellar_0 : decode cX5_kindsOfCellar 0 = .ok (.iconst 0, 1) := by decide +kernel
theorem dX5_kindsOfCellar_1 : decode cX5_kindsOfCellar 1 = .ok (.istore_n 2, 1) := by decide +kernel
theorem dX5_kindsOfCellar_2 : decode cX5_kindsOfCellar 2 = .ok (.iconst 0, 1) := by decide +kernel
theorem dX5_kindsOfCellar_3 : decode cX5_kindsOfCellar 3 = .ok (.istore_n 3, 1) := by decide +kernel
theorem dX5_kindsOfCellar_4 : decode cX5_kindsOfCellar 4 = .ok (.iload_n 3, 1) := by decide +kernel
theorem dX5_kindsOfCellar_5 : decode cX5_kindsOfCellar 5 = .ok (.bipush 6, 2) := by decide +kernel
theorem dX5_kindsOfCellar_7 : decode cX5_kindsOfCellar 7 = .ok (.if_icmp .ge 24, 3) := by decide +kernel
theorem dX5_kindsOfCellar_10 : decode cX5_kindsOfCellar 10 = .ok (.aload_n 0, 1) := by decide +kernel
theorem dX5_kindsOfCellar_11 : decode cX5_kindsOfCellar 11 = .ok (.iload_n 1, 1) := by decide +kernel
theorem dX5_kindsOfCellar_12 : decode cX5_kindsOfCellar 12 = .ok (.iload_n 3, 1) := by decide +kernel
theorem dX5_kindsOfCellar_13 : decode cX5_kindsOfCellar 13 = .ok (.invokevirtual 50, 3) := by decide +kernel
theorem dX5_kindsOfCellar_16 : decode cX5_kindsOfCellar 16 = .ok (.ifCond .eq 9, 3) := by decide +kernel
theorem dX5_kindsOfCellar_19 : decode cX5_kindsOfCellar 19 = .ok (.iload_n 2, 1) := by decide +kernel
theorem dX5_kindsOfCellar_20 : decode cX5_kindsOfCellar 20 = .ok (.iconst 1, 1) := by decide +kernel
theorem dX5_kindsOfCellar_21 : decode cX5_kindsOfCellar 21 = .ok (.iload_n 3, 1) := by decide +kernel
theorem dX5_kindsOfCellar_22 : decode cX5_kindsOfCellar 22 = .ok (.ishl, 1) := by decide +kernel
theorem dX5_kindsOfCellar_23 : decode cX5_kindsOfCellar 23 = .ok (.ior, 1) := by decide +kernel
theorem dX5_kindsOfCellar_24 : decode cX5_kindsOfCellar 24 = .ok (.istore_n 2, 1) := by decide +kernel
theorem dX5_kindsOfCellar_25 : decode cX5_kindsOfCellar 25 = .ok (.iinc 3 1, 3) := by decide +kernel
theorem dX5_kindsOfCellar_28 : decode cX5_kindsOfCellar 28 = .ok (.goto (-24), 3) := by decide +kernel
theorem dX5_kindsOfCellar_31 : decode cX5_kindsOfCellar 31 = .ok (.iload_n 2, 1) := by decide +kernel
theorem dX5_kindsOfCellar_32 : decode cX5_kindsOfCellar 32 = .ok (.ireturn, 1) := by decide +kernel
theorem dX5_fitsNotes_0 : decode cX5_fitsNotes 0 = .ok (.aload_n 0, 1) := by decide +kernel
theorem dX5_fitsNotes_1 : decode cX5_fitsNotes 1 = .ok (.getfield 15, 3) := by decide +kernel
theorem dX5_fitsNotes_4 : decode cX5_fitsNotes 4 = .ok (.getfield 54, 3) := by decide +kernel
theorem dX5_fitsNotes_7 : decode cX5_fitsNotes 7 = .ok (.astore_n 3, 1) := by decide +kernel
theorem dX5_fitsNotes_8 : decode cX5_fitsNotes 8 = .ok (.iconst 0, 1) := by decide +kernel
theorem dX5_fitsNotes_9 : decode cX5_fitsNotes 9 = .ok (.istore 4, 2) := by decide +kernel
theorem dX5_fitsNotes_11 : decode cX5_fitsNotes 11 = .ok (.iload 4, 2) := by decide +kernel
theorem dX5_fitsNotes_13 : decode cX5_fitsNotes 13 = .ok (.aload_n 3, 1) := by decide +kernel
theorem dX5_fitsNotes_14 : decode cX5_fitsNotes 14 = .ok (.getfield 43, 3) := by decide +kernel
theorem dX5_fitsNotes_17 : decode cX5_fitsNotes 17 = .ok (.if_icmp .ge 80, 3) := by decide +kernel
theorem dX5_fitsNotes_20 : decode cX5_fitsNotes 20 = .ok (.iload_n 2, 1) := by decide +kernel
theorem dX5_fitsNotes_21 : decode cX5_fitsNotes 21 = .ok (.aload_n 3, 1) := by decide +kernel
theorem dX5_fitsNotes_22 : decode cX5_fitsNotes 22 = .ok (.iload 4, 2) := by decide +kernel
theorem dX5_fitsNotes_24 : decode cX5_fitsNotes 24 = .ok (.iconst 2, 1) := by decide +kernel
theorem dX5_fitsNotes_25 : decode cX5_fitsNotes 25 = .ok (.invokevirtual 25, 3) := by decide +kernel
theorem dX5_fitsNotes_28 : decode cX5_fitsNotes 28 = .ok (.aload_n 3, 1) := by decide +kernel
theorem dX5_fitsNotes_29 : decode cX5_fitsNotes 29 = .ok (.iload 4, 2) := by decide +kernel
theorem dX5_fitsNotes_31 : decode cX5_fitsNotes 31 = .ok (.iconst 1, 1) := by decide +kernel
theorem dX5_fitsNotes_32 : decode cX5_fitsNotes 32 = .ok (.invokevirtual 25, 3) := by decide +kernel
theorem dX5_fitsNotes_35 : decode cX5_fitsNotes 35 = .ok (.invokestatic 57, 3) := by decide +kernel
theorem dX5_fitsNotes_38 : decode cX5_fitsNotes 38 = .ok (.istore 5, 2) := by decide +kernel
theorem dX5_fitsNotes_40 : decode cX5_fitsNotes 40 = .ok (.iload 5, 2) := by decide +kernel
theorem dX5_fitsNotes_42 : decode cX5_fitsNotes 42 = .ok (.aload_n 3, 1) := by decide +kernel
theorem dX5_fitsNotes_43 : decode cX5_fitsNotes 43 = .ok (.iload 4, 2) := by decide +kernel
theorem dX5_fitsNotes_45 : decode cX5_fitsNotes 45 = .ok (.iconst 3, 1) := by decide +kernel
theorem dX5_fitsNotes_46 : decode cX5_fitsNotes 46 = .ok (.invokevirtual 25, 3) := by decide +kernel
theorem dX5_fitsNotes_49 : decode cX5_fitsNotes 49 = .ok (.if_icmp .ne 21, 3) := by decide +kernel
theorem dX5_fitsNotes_52 : decode cX5_fitsNotes 52 = .ok (.iload_n 2, 1) := by decide +kernel
theorem dX5_fitsNotes_53 : decode cX5_fitsNotes 53 = .ok (.invokestatic 63, 3) := by decide +kernel
theorem dX5_fitsNotes_56 : decode cX5_fitsNotes 56 = .ok (.aload_n 3, 1) := by decide +kernel
theorem dX5_fitsNotes_57 : decode cX5_fitsNotes 57 = .ok (.iload 4, 2) := by decide +kernel
theorem dX5_fitsNotes_59 : decode cX5_fitsNotes 59 = .ok (.iconst 4, 1) := by decide +kernel
theorem dX5_fitsNotes_60 : decode cX5_fitsNotes 60 = .ok (.invokevirtual 25, 3) := by decide +kernel
theorem dX5_fitsNotes_63 : decode cX5_fitsNotes 63 = .ok (.if_icmp .ne 7, 3) := by decide +kernel
theorem dX5_fitsNotes_66 : decode cX5_fitsNotes 66 = .ok (.iconst 1, 1) := by decide +kernel
theorem dX5_fitsNotes_67 : decode cX5_fitsNotes 67 = .ok (.goto 4, 3) := by decide +kernel
theorem dX5_fitsNotes_70 : decode cX5_fitsNotes 70 = .ok (.iconst 0, 1) := by decide +kernel
theorem dX5_fitsNotes_71 : decode cX5_fitsNotes 71 = .ok (.istore 6, 2) := by decide +kernel
theorem dX5_fitsNotes_73 : decode cX5_fitsNotes 73 = .ok (.aload_n 3, 1) := by decide +kernel
theorem dX5_fitsNotes_74 : decode cX5_fitsNotes 74 = .ok (.iload 4, 2) := by decide +kernel
theorem dX5_fitsNotes_76 : decode cX5_fitsNotes 76 = .ok (.iconst 0, 1) := by decide +kernel
theorem dX5_fitsNotes_77 : decode cX5_fitsNotes 77 = .ok (.invokevirtual 25, 3) := by decide +kernel
theorem dX5_fitsNotes_80 : decode cX5_fitsNotes 80 = .ok (.iload_n 1, 1) := by decide +kernel
theorem dX5_fitsNotes_81 : decode cX5_fitsNotes 81 = .ok (.if_icmp .ne 10, 3) := by decide +kernel
theorem dX5_fitsNotes_84 : decode cX5_fitsNotes 84 = .ok (.iload 6, 2) := by decide +kernel
theorem dX5_fitsNotes_86 : decode cX5_fitsNotes 86 = .ok (.ifCond .ne 5, 3) := by decide +kernel
theorem dX5_fitsNotes_89 : decode cX5_fitsNotes 89 = .ok (.iconst 0, 1) := by decide +kernel
theorem dX5_fitsNotes_90 : decode cX5_fitsNotes 90 = .ok (.ireturn, 1) := by decide +kernel
theorem dX5_fitsNotes_91 : decode cX5_fitsNotes 91 = .ok (.iinc 4 1, 3) := by decide +kernel
theorem dX5_fitsNotes_94 : decode cX5_fitsNotes 94 = .ok (.goto (-83), 3) := by decide +kernel
theorem dX5_fitsNotes_97 : decode cX5_fitsNotes 97 = .ok (.iconst 1, 1) := by decide +kernel
theorem dX5_fitsNotes_98 : decode cX5_fitsNotes 98 = .ok (.ireturn, 1) := by decide +kernel
theorem dX5_weekToWatch_0 : decode cX5_weekToWatch 0 = .ok (.aload_n 0, 1) := by decide +kernel
theorem dX5_weekToWatch_1 : decode cX5_weekToWatch 1 = .ok (.iload_n 1, 1) := by decide +kernel
theorem dX5_weekToWatch_2 : decode cX5_weekToWatch 2 = .ok (.invokevirtual 66, 3) := by decide +kernel
theorem dX5_weekToWatch_5 : decode cX5_weekToWatch 5 = .ok (.istore_n 2, 1) := by decide +kernel
theorem dX5_weekToWatch_6 : decode cX5_weekToWatch 6 = .ok (.iconst (-1), 1) := by decide +kernel
theorem dX5_weekToWatch_7 : decode cX5_weekToWatch 7 = .ok (.istore_n 3, 1) := by decide +kernel
theorem dX5_weekToWatch_8 : decode cX5_weekToWatch 8 = .ok (.bipush 7, 2) := by decide +kernel
theorem dX5_weekToWatch_10 : decode cX5_weekToWatch 10 = .ok (.istore 4, 2) := by decide +kernel
theorem dX5_weekToWatch_12 : decode cX5_weekToWatch 12 = .ok (.iconst 0, 1) := by decide +kernel
theorem dX5_weekToWatch_13 : decode cX5_weekToWatch 13 = .ok (.istore 5, 2) := by decide +kernel
theorem dX5_weekToWatch_15 : decode cX5_weekToWatch 15 = .ok (.iload 5, 2) := by decide +kernel
theorem dX5_weekToWatch_17 : decode cX5_weekToWatch 17 = .ok (.bipush 11, 2) := by decide +kernel
theorem dX5_weekToWatch_19 : decode cX5_weekToWatch 19 = .ok (.if_icmp .gt 104, 3) := by decide +kernel
theorem dX5_weekToWatch_22 : decode cX5_weekToWatch 22 = .ok (.iload_n 2, 1) := by decide +kernel
theorem dX5_weekToWatch_23 : decode cX5_weekToWatch 23 = .ok (.ifCond .eq 100, 3) := by decide +kernel
theorem dX5_weekToWatch_26 : decode cX5_weekToWatch 26 = .ok (.iconst 0, 1) := by decide +kernel
theorem dX5_weekToWatch_27 : decode cX5_weekToWatch 27 = .ok (.istore 6, 2) := by decide +kernel
theorem dX5_weekToWatch_29 : decode cX5_weekToWatch 29 = .ok (.iload 6, 2) := by decide +kernel
theorem dX5_weekToWatch_31 : decode cX5_weekToWatch 31 = .ok (.aload_n 0, 1) := by decide +kernel
theorem dX5_weekToWatch_32 : decode cX5_weekToWatch 32 = .ok (.getfield 9, 3) := by decide +kernel
theorem dX5_weekToWatch_35 : decode cX5_weekToWatch 35 = .ok (.arraylength, 1) := by decide +kernel
theorem dX5_weekToWatch_36 : decode cX5_weekToWatch 36 = .ok (.if_icmp .ge 61, 3) := by decide +kernel
theorem dX5_weekToWatch_39 : decode cX5_weekToWatch 39 = .ok (.iload 6, 2) := by decide +kernel
theorem dX5_weekToWatch_41 : decode cX5_weekToWatch 41 = .ok (.iload 5, 2) := by decide +kernel
theorem dX5_weekToWatch_43 : decode cX5_weekToWatch 43 = .ok (.aload_n 0, 1) := by decide +kernel
theorem dX5_weekToWatch_44 : decode cX5_weekToWatch 44 = .ok (.getfield 15, 3) := by decide +kernel
theorem dX5_weekToWatch_47 : decode cX5_weekToWatch 47 = .ok (.getfield 69, 3) := by decide +kernel
theorem dX5_weekToWatch_50 : decode cX5_weekToWatch 50 = .ok (.iload_n 1, 1) := by decide +kernel
theorem dX5_weekToWatch_51 : decode cX5_weekToWatch 51 = .ok (.iconst 1, 1) := by decide +kernel
theorem dX5_weekToWatch_52 : decode cX5_weekToWatch 52 = .ok (.invokevirtual 25, 3) := by decide +kernel
theorem dX5_weekToWatch_55 : decode cX5_weekToWatch 55 = .ok (.invokestatic 57, 3) := by decide +kernel
theorem dX5_weekToWatch_58 : decode cX5_weekToWatch 58 = .ok (.istore 7, 2) := by decide +kernel
theorem dX5_weekToWatch_60 : decode cX5_weekToWatch 60 = .ok (.aload_n 0, 1) := by decide +kernel
theorem dX5_weekToWatch_61 : decode cX5_weekToWatch 61 = .ok (.getfield 9, 3) := by decide +kernel
theorem dX5_weekToWatch_64 : decode cX5_weekToWatch 64 = .ok (.iload 6, 2) := by decide +kernel
theorem dX5_weekToWatch_66 : decode cX5_weekToWatch 66 = .ok (.iload_n 2, 1) := by decide +kernel
theorem dX5_weekToWatch_67 : decode cX5_weekToWatch 67 = .ok (.iload 6, 2) := by decide +kernel
theorem dX5_weekToWatch_69 : decode cX5_weekToWatch 69 = .ok (.invokestatic 72, 3) := by decide +kernel
theorem dX5_weekToWatch_72 : decode cX5_weekToWatch 72 = .ok (.ifCond .eq 17, 3) := by decide +kernel
theorem dX5_weekToWatch_75 : decode cX5_weekToWatch 75 = .ok (.bipush 100, 2) := by decide +kernel
theorem dX5_weekToWatch_77 : decode cX5_weekToWatch 77 = .ok (.iload 7, 2) := by decide +kernel
theorem dX5_weekToWatch_79 : decode cX5_weekToWatch 79 = .ok (.imul, 1) := by decide +kernel
theorem dX5_weekToWatch_80 : decode cX5_weekToWatch 80 = .ok (.iload 6, 2) := by decide +kernel
theorem dX5_weekToWatch_82 : decode cX5_weekToWatch 82 = .ok (.invokestatic 63, 3) := by decide +kernel
theorem dX5_weekToWatch_85 : decode cX5_weekToWatch 85 = .ok (.iadd, 1) := by decide +kernel
theorem dX5_weekToWatch_86 : decode cX5_weekToWatch 86 = .ok (.goto 4, 3) := by decide +kernel
theorem dX5_weekToWatch_89 : decode cX5_weekToWatch 89 = .ok (.iconst (-1), 1) := by decide +kernel
theorem dX5_weekToWatch_90 : decode cX5_weekToWatch 90 = .ok (.iastore, 1) := by decide +kernel
theorem dX5_weekToWatch_91 : decode cX5_weekToWatch 91 = .ok (.iinc 6 1, 3) := by decide +kernel
theorem dX5_weekToWatch_94 : decode cX5_weekToWatch 94 = .ok (.goto (-65), 3) := by decide +kernel
theorem dX5_weekToWatch_97 : decode cX5_weekToWatch 97 = .ok (.aload_n 0, 1) := by decide +kernel
theorem dX5_weekToWatch_98 : decode cX5_weekToWatch 98 = .ok (.invokevirtual 75, 3) := by decide +kernel
theorem dX5_weekToWatch_101 : decode cX5_weekToWatch 101 = .ok (.istore 6, 2) := by decide +kernel
theorem dX5_weekToWatch_103 : decode cX5_weekToWatch 103 = .ok (.iload 6, 2) := by decide +kernel
theorem dX5_weekToWatch_105 : decode cX5_weekToWatch 105 = .ok (.iload 4, 2) := by decide +kernel
theorem dX5_weekToWatch_107 : decode cX5_weekToWatch 107 = .ok (.if_icmp .ge 10, 3) := by decide +kernel
theorem dX5_weekToWatch_110 : decode cX5_weekToWatch 110 = .ok (.iload 6, 2) := by decide +kernel
theorem dX5_weekToWatch_112 : decode cX5_weekToWatch 112 = .ok (.istore 4, 2) := by decide +kernel
theorem dX5_weekToWatch_114 : decode cX5_weekToWatch 114 = .ok (.iload 5, 2) := by decide +kernel
theorem dX5_weekToWatch_116 : decode cX5_weekToWatch 116 = .ok (.istore_n 3, 1) := by decide +kernel
theorem dX5_weekToWatch_117 : decode cX5_weekToWatch 117 = .ok (.iinc 5 1, 3) := by decide +kernel
theorem dX5_weekToWatch_120 : decode cX5_weekToWatch 120 = .ok (.goto (-105), 3) := by decide +kernel
theorem dX5_weekToWatch_123 : decode cX5_weekToWatch 123 = .ok (.iload_n 3, 1) := by decide +kernel
theorem dX5_weekToWatch_124 : decode cX5_weekToWatch 124 = .ok (.ireturn, 1) := by decide +kernel
theorem dX5_kindsOfSlinger_0 : decode cX5_kindsOfSlinger 0 = .ok (.iconst 0, 1) := by decide +kernel
theorem dX5_kindsOfSlinger_1 : decode cX5_kindsOfSlinger 1 = .ok (.istore_n 2, 1) := by decide +kernel
theorem dX5_kindsOfSlinger_2 : decode cX5_kindsOfSlinger 2 = .ok (.iconst 0, 1) := by decide +kernel
theorem dX5_kindsOfSlinger_3 : decode cX5_kindsOfSlinger 3 = .ok (.istore_n 3, 1) := by decide +kernel
theorem dX5_kindsOfSlinger_4 : decode cX5_kindsOfSlinger 4 = .ok (.iload_n 3, 1) := by decide +kernel
theorem dX5_kindsOfSlinger_5 : decode cX5_kindsOfSlinger 5 = .ok (.bipush 6, 2) := by decide +kernel
theorem dX5_kindsOfSlinger_7 : decode cX5_kindsOfSlinger 7 = .ok (.if_icmp .ge 24, 3) := by decide +kernel
theorem dX5_kindsOfSlinger_10 : decode cX5_kindsOfSlinger 10 = .ok (.aload_n 0, 1) := by decide +kernel
theorem dX5_kindsOfSlinger_11 : decode cX5_kindsOfSlinger 11 = .ok (.iload_n 1, 1) := by decide +kernel
theorem dX5_kindsOfSlinger_12 : decode cX5_kindsOfSlinger 12 = .ok (.iload_n 3, 1) := by decide +kernel
theorem dX5_kindsOfSlinger_13 : decode cX5_kindsOfSlinger 13 = .ok (.invokevirtual 79, 3) := by decide +kernel
theorem dX5_kindsOfSlinger_16 : decode cX5_kindsOfSlinger 16 = .ok (.ifCond .eq 9, 3) := by decide +kernel
theorem dX5_kindsOfSlinger_19 : decode cX5_kindsOfSlinger 19 = .ok (.iload_n 2, 1) := by decide +kernel
theorem dX5_kindsOfSlinger_20 : decode cX5_kindsOfSlinger 20 = .ok (.iconst 1, 1) := by decide +kernel
theorem dX5_kindsOfSlinger_21 : decode cX5_kindsOfSlinger 21 = .ok (.iload_n 3, 1) := by decide +kernel
theorem dX5_kindsOfSlinger_22 : decode cX5_kindsOfSlinger 22 = .ok (.ishl, 1) := by decide +kernel
theorem dX5_kindsOfSlinger_23 : decode cX5_kindsOfSlinger 23 = .ok (.ior, 1) := by decide +kernel
theorem dX5_kindsOfSlinger_24 : decode cX5_kindsOfSlinger 24 = .ok (.istore_n 2, 1) := by decide +kernel
theorem dX5_kindsOfSlinger_25 : decode cX5_kindsOfSlinger 25 = .ok (.iinc 3 1, 3) := by decide +kernel
theorem dX5_kindsOfSlinger_28 : decode cX5_kindsOfSlinger 28 = .ok (.goto (-24), 3) := by decide +kernel
theorem dX5_kindsOfSlinger_31 : decode cX5_kindsOfSlinger 31 = .ok (.iload_n 2, 1) := by decide +kernel
theorem dX5_kindsOfSlinger_32 : decode cX5_kindsOfSlinger 32 = .ok (.ireturn, 1) := by decide +kernel
theorem dX5_fitsThrown_0 : decode cX5_fitsThrown 0 = .ok (.aload_n 0, 1) := by decide +kernel
theorem dX5_fitsThrown_1 : decode cX5_fitsThrown 1 = .ok (.getfield 15, 3) := by decide +kernel
theorem dX5_fitsThrown_4 : decode cX5_fitsThrown 4 = .ok (.getfield 82, 3) := by decide +kernel
theorem dX5_fitsThrown_7 : decode cX5_fitsThrown 7 = .ok (.astore_n 3, 1) := by decide +kernel
theorem dX5_fitsThrown_8 : decode cX5_fitsThrown 8 = .ok (.aload_n 0, 1) := by decide +kernel
theorem dX5_fitsThrown_9 : decode cX5_fitsThrown 9 = .ok (.getfield 15, 3) := by decide +kernel
theorem dX5_fitsThrown_12 : decode cX5_fitsThrown 12 = .ok (.getfield 85, 3) := by decide +kernel
theorem dX5_fitsThrown_15 : decode cX5_fitsThrown 15 = .ok (.iload_n 1, 1) := by decide +kernel
theorem dX5_fitsThrown_16 : decode cX5_fitsThrown 16 = .ok (.iconst 1, 1) := by decide +kernel
theorem dX5_fitsThrown_17 : decode cX5_fitsThrown 17 = .ok (.invokevirtual 25, 3) := by decide +kernel
theorem dX5_fitsThrown_20 : decode cX5_fitsThrown 20 = .ok (.istore 4, 2) := by decide +kernel
theorem dX5_fitsThrown_22 : decode cX5_fitsThrown 22 = .ok (.iconst 0, 1) := by decide +kernel
theorem dX5_fitsThrown_23 : decode cX5_fitsThrown 23 = .ok (.istore 5, 2) := by decide +kernel
theorem dX5_fitsThrown_25 : decode cX5_fitsThrown 25 = .ok (.iload 5, 2) := by decide +kernel
theorem dX5_fitsThrown_27 : decode cX5_fitsThrown 27 = .ok (.aload_n 3, 1) := by decide +kernel
theorem dX5_fitsThrown_28 : decode cX5_fitsThrown 28 = .ok (.getfield 43, 3) := by decide +kernel
theorem dX5_fitsThrown_31 : decode cX5_fitsThrown 31 = .ok (.if_icmp .ge 88, 3) := by decide +kernel
theorem dX5_fitsThrown_34 : decode cX5_fitsThrown 34 = .ok (.aload_n 3, 1) := by decide +kernel
theorem dX5_fitsThrown_35 : decode cX5_fitsThrown 35 = .ok (.iload 5, 2) := by decide +kernel
theorem dX5_fitsThrown_37 : decode cX5_fitsThrown 37 = .ok (.iconst 1, 1) := by decide +kernel
theorem dX5_fitsThrown_38 : decode cX5_fitsThrown 38 = .ok (.invokevirtual 25, 3) := by decide +kernel
theorem dX5_fitsThrown_41 : decode cX5_fitsThrown 41 = .ok (.istore 6, 2) := by decide +kernel
theorem dX5_fitsThrown_43 : decode cX5_fitsThrown 43 = .ok (.iload_n 2, 1) := by decide +kernel
theorem dX5_fitsThrown_44 : decode cX5_fitsThrown 44 = .ok (.iload 4, 2) := by decide +kernel
theorem dX5_fitsThrown_46 : decode cX5_fitsThrown 46 = .ok (.iload 6, 2) := by decide +kernel
theorem dX5_fitsThrown_48 : decode cX5_fitsThrown 48 = .ok (.aload_n 3, 1) := by decide +kernel
theorem dX5_fitsThrown_49 : decode cX5_fitsThrown 49 = .ok (.iload 5, 2) := by decide +kernel
theorem dX5_fitsThrown_51 : decode cX5_fitsThrown 51 = .ok (.iconst 2, 1) := by decide +kernel
theorem dX5_fitsThrown_52 : decode cX5_fitsThrown 52 = .ok (.invokevirtual 25, 3) := by decide +kernel
theorem dX5_fitsThrown_55 : decode cX5_fitsThrown 55 = .ok (.invokestatic 88, 3) := by decide +kernel
theorem dX5_fitsThrown_58 : decode cX5_fitsThrown 58 = .ok (.istore 7, 2) := by decide +kernel
theorem dX5_fitsThrown_60 : decode cX5_fitsThrown 60 = .ok (.iload 7, 2) := by decide +kernel
theorem dX5_fitsThrown_62 : decode cX5_fitsThrown 62 = .ok (.aload_n 3, 1) := by decide +kernel
theorem dX5_fitsThrown_63 : decode cX5_fitsThrown 63 = .ok (.iload 5, 2) := by decide +kernel
theorem dX5_fitsThrown_65 : decode cX5_fitsThrown 65 = .ok (.iconst 3, 1) := by decide +kernel
theorem dX5_fitsThrown_66 : decode cX5_fitsThrown 66 = .ok (.invokevirtual 25, 3) := by decide +kernel
theorem dX5_fitsThrown_69 : decode cX5_fitsThrown 69 = .ok (.if_icmp .ne 23, 3) := by decide +kernel
theorem dX5_fitsThrown_72 : decode cX5_fitsThrown 72 = .ok (.iload_n 2, 1) := by decide +kernel
theorem dX5_fitsThrown_73 : decode cX5_fitsThrown 73 = .ok (.iload 6, 2) := by decide +kernel
theorem dX5_fitsThrown_75 : decode cX5_fitsThrown 75 = .ok (.invokestatic 92, 3) := by decide +kernel
theorem dX5_fitsThrown_78 : decode cX5_fitsThrown 78 = .ok (.aload_n 3, 1) := by decide +kernel
theorem dX5_fitsThrown_79 : decode cX5_fitsThrown 79 = .ok (.iload 5, 2) := by decide +kernel
theorem dX5_fitsThrown_81 : decode cX5_fitsThrown 81 = .ok (.iconst 4, 1) := by decide +kernel
theorem dX5_fitsThrown_82 : decode cX5_fitsThrown 82 = .ok (.invokevirtual 25, 3) := by decide +kernel
theorem dX5_fitsThrown_85 : decode cX5_fitsThrown 85 = .ok (.if_icmp .ne 7, 3) := by decide +kernel
theorem dX5_fitsThrown_88 : decode cX5_fitsThrown 88 = .ok (.iconst 1, 1) := by decide +kernel
theorem dX5_fitsThrown_89 : decode cX5_fitsThrown 89 = .ok (.goto 4, 3) := by decide +kernel
theorem dX5_fitsThrown_92 : decode cX5_fitsThrown 92 = .ok (.iconst 0, 1) := by decide +kernel
theorem dX5_fitsThrown_93 : decode cX5_fitsThrown 93 = .ok (.istore 8, 2) := by decide +kernel
theorem dX5_fitsThrown_95 : decode cX5_fitsThrown 95 = .ok (.aload_n 3, 1) := by decide +kernel
theorem dX5_fitsThrown_96 : decode cX5_fitsThrown 96 = .ok (.iload 5, 2) := by decide +kernel
theorem dX5_fitsThrown_98 : decode cX5_fitsThrown 98 = .ok (.iconst 0, 1) := by decide +kernel
theorem dX5_fitsThrown_99 : decode cX5_fitsThrown 99 = .ok (.invokevirtual 25, 3) := by decide +kernel
theorem dX5_fitsThrown_102 : decode cX5_fitsThrown 102 = .ok (.iload_n 1, 1) := by decide +kernel
theorem dX5_fitsThrown_103 : decode cX5_fitsThrown 103 = .ok (.if_icmp .ne 10, 3) := by decide +kernel
theorem dX5_fitsThrown_106 : decode cX5_fitsThrown 106 = .ok (.iload 8, 2) := by decide +kernel
theorem dX5_fitsThrown_108 : decode cX5_fitsThrown 108 = .ok (.ifCond .ne 5, 3) := by decide +kernel
theorem dX5_fitsThrown_111 : decode cX5_fitsThrown 111 = .ok (.iconst 0, 1) := by decide +kernel
theorem dX5_fitsThrown_112 : decode cX5_fitsThrown 112 = .ok (.ireturn, 1) := by decide +kernel
theorem dX5_fitsThrown_113 : decode cX5_fitsThrown 113 = .ok (.iinc 5 1, 3) := by decide +kernel
theorem dX5_fitsThrown_116 : decode cX5_fitsThrown 116 = .ok (.goto (-91), 3) := by decide +kernel
theorem dX5_fitsThrown_119 : decode cX5_fitsThrown 119 = .ok (.iconst 1, 1) := by decide +kernel
theorem dX5_fitsThrown_120 : decode cX5_fitsThrown 120 = .ok (.ireturn, 1) := by decide +kernel
theorem dX5_throwToAsk_0 : decode cX5_throwToAsk 0 = .ok (.aload_n 0, 1) := by decide +kernel
theorem dX5_throwToAsk_1 : decode cX5_throwToAsk 1 = .ok (.iload_n 1, 1) := by decide +kernel
theorem dX5_throwToAsk_2 : decode cX5_throwToAsk 2 = .ok (.invokevirtual 95, 3) := by decide +kernel
theorem dX5_throwToAsk_5 : decode cX5_throwToAsk 5 = .ok (.istore_n 2, 1) := by decide +kernel
theorem dX5_throwToAsk_6 : decode cX5_throwToAsk 6 = .ok (.iconst (-1), 1) := by decide +kernel
theorem dX5_throwToAsk_7 : decode cX5_throwToAsk 7 = .ok (.istore_n 3, 1) := by decide +kernel
theorem dX5_throwToAsk_8 : decode cX5_throwToAsk 8 = .ok (.bipush 7, 2) := by decide +kernel
theorem dX5_throwToAsk_10 : decode cX5_throwToAsk 10 = .ok (.istore 4, 2) := by decide +kernel
theorem dX5_throwToAsk_12 : decode cX5_throwToAsk 12 = .ok (.bipush 10, 2) := by decide +kernel
theorem dX5_throwToAsk_14 : decode cX5_throwToAsk 14 = .ok (.istore 5, 2) := by decide +kernel
theorem dX5_throwToAsk_16 : decode cX5_throwToAsk 16 = .ok (.iload 5, 2) := by decide +kernel
theorem dX5_throwToAsk_18 : decode cX5_throwToAsk 18 = .ok (.bipush 99, 2) := by decide +kernel
theorem dX5_throwToAsk_20 : decode cX5_throwToAsk 20 = .ok (.if_icmp .gt 122, 3) := by decide +kernel
theorem dX5_throwToAsk_23 : decode cX5_throwToAsk 23 = .ok (.iload_n 2, 1) := by decide +kernel
theorem dX5_throwToAsk_24 : decode cX5_throwToAsk 24 = .ok (.ifCond .eq 118, 3) := by decide +kernel
theorem dX5_throwToAsk_27 : decode cX5_throwToAsk 27 = .ok (.iload 5, 2) := by decide +kernel
theorem dX5_throwToAsk_29 : decode cX5_throwToAsk 29 = .ok (.bipush 10, 2) := by decide +kernel
theorem dX5_throwToAsk_31 : decode cX5_throwToAsk 31 = .ok (.idiv, 1) := by decide +kernel
theorem dX5_throwToAsk_32 : decode cX5_throwToAsk 32 = .ok (.istore 6, 2) := by decide +kernel
theorem dX5_throwToAsk_34 : decode cX5_throwToAsk 34 = .ok (.iload 5, 2) := by decide +kernel
theorem dX5_throwToAsk_36 : decode cX5_throwToAsk 36 = .ok (.bipush 10, 2) := by decide +kernel
theorem dX5_throwToAsk_38 : decode cX5_throwToAsk 38 = .ok (.irem, 1) := by decide +kernel
theorem dX5_throwToAsk_39 : decode cX5_throwToAsk 39 = .ok (.istore 7, 2) := by decide +kernel
theorem dX5_throwToAsk_41 : decode cX5_throwToAsk 41 = .ok (.iconst 0, 1) := by decide +kernel
theorem dX5_throwToAsk_42 : decode cX5_throwToAsk 42 = .ok (.istore 8, 2) := by decide +kernel
theorem dX5_throwToAsk_44 : decode cX5_throwToAsk 44 = .ok (.iload 8, 2) := by decide +kernel
theorem dX5_throwToAsk_46 : decode cX5_throwToAsk 46 = .ok (.aload_n 0, 1) := by decide +kernel
theorem dX5_throwToAsk_47 : decode cX5_throwToAsk 47 = .ok (.getfield 9, 3) := by decide +kernel
theorem dX5_throwToAsk_50 : decode cX5_throwToAsk 50 = .ok (.arraylength, 1) := by decide +kernel
theorem dX5_throwToAsk_51 : decode cX5_throwToAsk 51 = .ok (.if_icmp .ge 65, 3) := by decide +kernel
theorem dX5_throwToAsk_54 : decode cX5_throwToAsk 54 = .ok (.iload 8, 2) := by decide +kernel
theorem dX5_throwToAsk_56 : decode cX5_throwToAsk 56 = .ok (.aload_n 0, 1) := by decide +kernel
theorem dX5_throwToAsk_57 : decode cX5_throwToAsk 57 = .ok (.getfield 15, 3) := by decide +kernel
theorem dX5_throwToAsk_60 : decode cX5_throwToAsk 60 = .ok (.getfield 85, 3) := by decide +kernel
theorem dX5_throwToAsk_63 : decode cX5_throwToAsk 63 = .ok (.iload_n 1, 1) := by decide +kernel
theorem dX5_throwToAsk_64 : decode cX5_throwToAsk 64 = .ok (.iconst 1, 1) := by decide +kernel
theorem dX5_throwToAsk_65 : decode cX5_throwToAsk 65 = .ok (.invokevirtual 25, 3) := by decide +kernel
theorem dX5_throwToAsk_68 : decode cX5_throwToAsk 68 = .ok (.iload 6, 2) := by decide +kernel
theorem dX5_throwToAsk_70 : decode cX5_throwToAsk 70 = .ok (.iload 7, 2) := by decide +kernel
theorem dX5_throwToAsk_72 : decode cX5_throwToAsk 72 = .ok (.invokestatic 88, 3) := by decide +kernel
theorem dX5_throwToAsk_75 : decode cX5_throwToAsk 75 = .ok (.istore 9, 2) := by decide +kernel
theorem dX5_throwToAsk_77 : decode cX5_throwToAsk 77 = .ok (.aload_n 0, 1) := by decide +kernel
theorem dX5_throwToAsk_78 : decode cX5_throwToAsk 78 = .ok (.getfield 9, 3) := by decide +kernel
theorem dX5_throwToAsk_81 : decode cX5_throwToAsk 81 = .ok (.iload 8, 2) := by decide +kernel
theorem dX5_throwToAsk_83 : decode cX5_throwToAsk 83 = .ok (.iload_n 2, 1) := by decide +kernel
theorem dX5_throwToAsk_84 : decode cX5_throwToAsk 84 = .ok (.iload 8, 2) := by decide +kernel
theorem dX5_throwToAsk_86 : decode cX5_throwToAsk 86 = .ok (.invokestatic 72, 3) := by decide +kernel
theorem dX5_throwToAsk_89 : decode cX5_throwToAsk 89 = .ok (.ifCond .eq 19, 3) := by decide +kernel
theorem dX5_throwToAsk_92 : decode cX5_throwToAsk 92 = .ok (.bipush 100, 2) := by decide +kernel
theorem dX5_throwToAsk_94 : decode cX5_throwToAsk 94 = .ok (.iload 9, 2) := by decide +kernel
theorem dX5_throwToAsk_96 : decode cX5_throwToAsk 96 = .ok (.imul, 1) := by decide +kernel
theorem dX5_throwToAsk_97 : decode cX5_throwToAsk 97 = .ok (.iload 8, 2) := by decide +kernel
theorem dX5_throwToAsk_99 : decode cX5_throwToAsk 99 = .ok (.iload 6, 2) := by decide +kernel
theorem dX5_throwToAsk_101 : decode cX5_throwToAsk 101 = .ok (.invokestatic 92, 3) := by decide +kernel
theorem dX5_throwToAsk_104 : decode cX5_throwToAsk 104 = .ok (.iadd, 1) := by decide +kernel
theorem dX5_throwToAsk_105 : decode cX5_throwToAsk 105 = .ok (.goto 4, 3) := by decide +kernel
theorem dX5_throwToAsk_108 : decode cX5_throwToAsk 108 = .ok (.iconst (-1), 1) := by decide +kernel
theorem dX5_throwToAsk_109 : decode cX5_throwToAsk 109 = .ok (.iastore, 1) := by decide +kernel
theorem dX5_throwToAsk_110 : decode cX5_throwToAsk 110 = .ok (.iinc 8 1, 3) := by decide +kernel
theorem dX5_throwToAsk_113 : decode cX5_throwToAsk 113 = .ok (.goto (-69), 3) := by decide +kernel
theorem dX5_throwToAsk_116 : decode cX5_throwToAsk 116 = .ok (.aload_n 0, 1) := by decide +kernel
theorem dX5_throwToAsk_117 : decode cX5_throwToAsk 117 = .ok (.invokevirtual 75, 3) := by decide +kernel
theorem dX5_throwToAsk_120 : decode cX5_throwToAsk 120 = .ok (.istore 8, 2) := by decide +kernel
theorem dX5_throwToAsk_122 : decode cX5_throwToAsk 122 = .ok (.iload 8, 2) := by decide +kernel
theorem dX5_throwToAsk_124 : decode cX5_throwToAsk 124 = .ok (.iload 4, 2) := by decide +kernel
theorem dX5_throwToAsk_126 : decode cX5_throwToAsk 126 = .ok (.if_icmp .ge 10, 3) := by decide +kernel
theorem dX5_throwToAsk_129 : decode cX5_throwToAsk 129 = .ok (.iload 8, 2) := by decide +kernel
theorem dX5_throwToAsk_131 : decode cX5_throwToAsk 131 = .ok (.istore 4, 2) := by decide +kernel
theorem dX5_throwToAsk_133 : decode cX5_throwToAsk 133 = .ok (.iload 5, 2) := by decide +kernel
theorem dX5_throwToAsk_135 : decode cX5_throwToAsk 135 = .ok (.istore_n 3, 1) := by decide +kernel
theorem dX5_throwToAsk_136 : decode cX5_throwToAsk 136 = .ok (.iinc 5 1, 3) := by decide +kernel
theorem dX5_throwToAsk_139 : decode cX5_throwToAsk 139 = .ok (.goto (-123), 3) := by decide +kernel
theorem dX5_throwToAsk_142 : decode cX5_throwToAsk 142 = .ok (.iload_n 3, 1) := by decide +kernel
theorem dX5_throwToAsk_143 : decode cX5_throwToAsk 143 = .ok (.ireturn, 1) := by decide +kernel
theorem dX5_isIn_0 : decode cX5_isIn 0 = .ok (.iload_n 0, 1) := by decide +kernel
theorem dX5_isIn_1 : decode cX5_isIn 1 = .ok (.iload_n 1, 1) := by decide +kernel
theorem dX5_isIn_2 : decode cX5_isIn 2 = .ok (.ishr, 1) := by decide +kernel
theorem dX5_isIn_3 : decode cX5_isIn 3 = .ok (.iconst 1, 1) := by decide +kernel
theorem dX5_isIn_4 : decode cX5_isIn 4 = .ok (.iand, 1) := by decide +kernel
theorem dX5_isIn_5 : decode cX5_isIn 5 = .ok (.iconst 1, 1) := by decide +kernel
theorem dX5_isIn_6 : decode cX5_isIn 6 = .ok (.if_icmp .ne 7, 3) := by decide +kernel
theorem dX5_isIn_9 : decode cX5_isIn 9 = .ok (.iconst 1, 1) := by decide +kernel
theorem dX5_isIn_10 : decode cX5_isIn 10 = .ok (.goto 4, 3) := by decide +kernel
theorem dX5_isIn_13 : decode cX5_isIn 13 = .ok (.iconst 0, 1) := by decide +kernel
theorem dX5_isIn_14 : decode cX5_isIn 14 = .ok (.ireturn, 1) := by decide +kernel
theorem dX5_mostAlike_0 : decode cX5_mostAlike 0 = .ok (.iconst 0, 1) := by decide +kernel
theorem dX5_mostAlike_1 : decode cX5_mostAlike 1 = .ok (.istore_n 1, 1) := by decide +kernel
theorem dX5_mostAlike_2 : decode cX5_mostAlike 2 = .ok (.iconst 0, 1) := by decide +kernel
theorem dX5_mostAlike_3 : decode cX5_mostAlike 3 = .ok (.istore_n 2, 1) := by decide +kernel
theorem dX5_mostAlike_4 : decode cX5_mostAlike 4 = .ok (.iload_n 2, 1) := by decide +kernel
theorem dX5_mostAlike_5 : decode cX5_mostAlike 5 = .ok (.aload_n 0, 1) := by decide +kernel
theorem dX5_mostAlike_6 : decode cX5_mostAlike 6 = .ok (.getfield 9, 3) := by decide +kernel
theorem dX5_mostAlike_9 : decode cX5_mostAlike 9 = .ok (.arraylength, 1) := by decide +kernel
theorem dX5_mostAlike_10 : decode cX5_mostAlike 10 = .ok (.if_icmp .ge 65, 3) := by decide +kernel
theorem dX5_mostAlike_13 : decode cX5_mostAlike 13 = .ok (.iconst 0, 1) := by decide +kernel
theorem dX5_mostAlike_14 : decode cX5_mostAlike 14 = .ok (.istore_n 3, 1) := by decide +kernel
theorem dX5_mostAlike_15 : decode cX5_mostAlike 15 = .ok (.iconst 0, 1) := by decide +kernel
theorem dX5_mostAlike_16 : decode cX5_mostAlike 16 = .ok (.istore 4, 2) := by decide +kernel
theorem dX5_mostAlike_18 : decode cX5_mostAlike 18 = .ok (.iload 4, 2) := by decide +kernel
theorem dX5_mostAlike_20 : decode cX5_mostAlike 20 = .ok (.aload_n 0, 1) := by decide +kernel
theorem dX5_mostAlike_21 : decode cX5_mostAlike 21 = .ok (.getfield 9, 3) := by decide +kernel
theorem dX5_mostAlike_24 : decode cX5_mostAlike 24 = .ok (.arraylength, 1) := by decide +kernel
theorem dX5_mostAlike_25 : decode cX5_mostAlike 25 = .ok (.if_icmp .ge 38, 3) := by decide +kernel
theorem dX5_mostAlike_28 : decode cX5_mostAlike 28 = .ok (.aload_n 0, 1) := by decide +kernel
theorem dX5_mostAlike_29 : decode cX5_mostAlike 29 = .ok (.getfield 9, 3) := by decide +kernel
theorem dX5_mostAlike_32 : decode cX5_mostAlike 32 = .ok (.iload_n 2, 1) := by decide +kernel
theorem dX5_mostAlike_33 : decode cX5_mostAlike 33 = .ok (.iaload, 1) := by decide +kernel
theorem dX5_mostAlike_34 : decode cX5_mostAlike 34 = .ok (.iconst (-1), 1) := by decide +kernel
theorem dX5_mostAlike_35 : decode cX5_mostAlike 35 = .ok (.if_icmp .eq 22, 3) := by decide +kernel
theorem dX5_mostAlike_38 : decode cX5_mostAlike 38 = .ok (.aload_n 0, 1) := by decide +kernel
theorem dX5_mostAlike_39 : decode cX5_mostAlike 39 = .ok (.getfield 9, 3) := by decide +kernel
theorem dX5_mostAlike_42 : decode cX5_mostAlike 42 = .ok (.iload_n 2, 1) := by decide +kernel
theorem dX5_mostAlike_43 : decode cX5_mostAlike 43 = .ok (.iaload, 1) := by decide +kernel
theorem dX5_mostAlike_44 : decode cX5_mostAlike 44 = .ok (.aload_n 0, 1) := by decide +kernel
theorem dX5_mostAlike_45 : decode cX5_mostAlike 45 = .ok (.getfield 9, 3) := by decide +kernel
theorem dX5_mostAlike_48 : decode cX5_mostAlike 48 = .ok (.iload 4, 2) := by decide +kernel
theorem dX5_mostAlike_50 : decode cX5_mostAlike 50 = .ok (.iaload, 1) := by decide +kernel
theorem dX5_mostAlike_51 : decode cX5_mostAlike 51 = .ok (.if_icmp .ne 6, 3) := by decide +kernel
theorem dX5_mostAlike_54 : decode cX5_mostAlike 54 = .ok (.iinc 3 1, 3) := by decide +kernel
theorem dX5_mostAlike_57 : decode cX5_mostAlike 57 = .ok (.iinc 4 1, 3) := by decide +kernel
theorem dX5_mostAlike_60 : decode cX5_mostAlike 60 = .ok (.goto (-42), 3) := by decide +kernel
theorem dX5_mostAlike_63 : decode cX5_mostAlike 63 = .ok (.iload_n 1, 1) := by decide +kernel
theorem dX5_mostAlike_64 : decode cX5_mostAlike 64 = .ok (.iload_n 3, 1) := by decide +kernel
theorem dX5_mostAlike_65 : decode cX5_mostAlike 65 = .ok (.invokestatic 38, 3) := by decide +kernel
theorem dX5_mostAlike_68 : decode cX5_mostAlike 68 = .ok (.istore_n 1, 1) := by decide +kernel
theorem dX5_mostAlike_69 : decode cX5_mostAlike 69 = .ok (.iinc 2 1, 3) := by decide +kernel
theorem dX5_mostAlike_72 : decode cX5_mostAlike 72 = .ok (.goto (-68), 3) := by decide +kernel
theorem dX5_mostAlike_75 : decode cX5_mostAlike 75 = .ok (.iload_n 1, 1) := by decide +kernel
theorem dX5_mostAlike_76 : decode cX5_mostAlike 76 = .ok (.ireturn, 1) := by decide +kernel
theorem dX6_init_0 : decode cX6_init 0 = .ok (.aload_n 0, 1) := by decide +kernel
theorem dX6_init_1 : decode cX6_init 1 = .ok (.invokespecial 5, 3) := by decide +kernel
theorem dX6_init_4 : decode cX6_init 4 = .ok (.aload_n 0, 1) := by decide +kernel
theorem dX6_init_5 : decode cX6_init 5 = .ok (.new 11, 3) := by decide +kernel
theorem dX6_init_8 : decode cX6_init 8 = .ok (.dup, 1) := by decide +kernel
theorem dX6_init_9 : decode cX6_init 9 = .ok (.iconst 5, 1) := by decide +kernel
theorem dX6_init_10 : decode cX6_init 10 = .ok (.bipush 11, 2) := by decide +kernel
theorem dX6_init_12 : decode cX6_init 12 = .ok (.invokespecial 13, 3) := by decide +kernel
theorem dX6_init_15 : decode cX6_init 15 = .ok (.putfield 16, 3) := by decide +kernel
theorem dX6_init_18 : decode cX6_init 18 = .ok (.aload_n 0, 1) := by decide +kernel
theorem dX6_init_19 : decode cX6_init 19 = .ok (.new 11, 3) := by decide +kernel
theorem dX6_init_22 : decode cX6_init 22 = .ok (.dup, 1) := by decide +kernel
theorem dX6_init_23 : decode cX6_init 23 = .ok (.bipush 6, 2) := by decide +kernel
theorem dX6_init_25 : decode cX6_init 25 = .ok (.iconst 2, 1) := by decide +kernel
theorem dX6_init_26 : decode cX6_init 26 = .ok (.invokespecial 13, 3) := by decide +kernel
theorem dX6_init_29 : decode cX6_init 29 = .ok (.putfield 20, 3) := by decide +kernel
theorem dX6_init_32 : decode cX6_init 32 = .ok (.aload_n 0, 1) := by decide +kernel
theorem dX6_init_33 : decode cX6_init 33 = .ok (.new 11, 3) := by decide +kernel
theorem dX6_init_36 : decode cX6_init 36 = .ok (.dup, 1) := by decide +kernel
theorem dX6_init_37 : decode cX6_init 37 = .ok (.iconst 4, 1) := by decide +kernel
theorem dX6_init_38 : decode cX6_init 38 = .ok (.iconst 3, 1) := by decide +kernel
theorem dX6_init_39 : decode cX6_init 39 = .ok (.invokespecial 13, 3) := by decide +kernel
theorem dX6_init_42 : decode cX6_init 42 = .ok (.putfield 23, 3) := by decide +kernel
theorem dX6_init_45 : decode cX6_init 45 = .ok (.aload_n 0, 1) := by decide +kernel
theorem dX6_init_46 : decode cX6_init 46 = .ok (.new 11, 3) := by decide +kernel
theorem dX6_init_49 : decode cX6_init 49 = .ok (.dup, 1) := by decide +kernel
theorem dX6_init_50 : decode cX6_init 50 = .ok (.iconst 4, 1) := by decide +kernel
theorem dX6_init_51 : decode cX6_init 51 = .ok (.iconst 4, 1) := by decide +kernel
theorem dX6_init_52 : decode cX6_init 52 = .ok (.invokespecial 13, 3) := by decide +kernel
theorem dX6_init_55 : decode cX6_init 55 = .ok (.putfield 26, 3) := by decide +kernel
theorem dX6_init_58 : decode cX6_init 58 = .ok (.aload_n 0, 1) := by decide +kernel
theorem dX6_init_59 : decode cX6_init 59 = .ok (.new 11, 3) := by decide +kernel
theorem dX6_init_62 : decode cX6_init 62 = .ok (.dup, 1) := by decide +kernel
theorem dX6_init_63 : decode cX6_init 63 = .ok (.bipush 6, 2) := by decide +kernel
theorem dX6_init_65 : decode cX6_init 65 = .ok (.iconst 5, 1) := by decide +kernel
theorem dX6_init_66 : decode cX6_init 66 = .ok (.invokespecial 13, 3) := by decide +kernel
theorem dX6_init_69 : decode cX6_init 69 = .ok (.putfield 29, 3) := by decide +kernel
theorem dX6_init_72 : decode cX6_init 72 = .ok (.aload_n 0, 1) := by decide +kernel
theorem dX6_init_73 : decode cX6_init 73 = .ok (.new 11, 3) := by decide +kernel
theorem dX6_init_76 : decode cX6_init 76 = .ok (.dup, 1) := by decide +kernel
theorem dX6_init_77 : decode cX6_init 77 = .ok (.bipush 6, 2) := by decide +kernel
theorem dX6_init_79 : decode cX6_init 79 = .ok (.iconst 5, 1) := by decide +kernel
theorem dX6_init_80 : decode cX6_init 80 = .ok (.invokespecial 13, 3) := by decide +kernel
theorem dX6_init_83 : decode cX6_init 83 = .ok (.putfield 32, 3) := by decide +kernel
theorem dX6_init_86 : decode cX6_init 86 = .ok (.aload_n 0, 1) := by decide +kernel
theorem dX6_init_87 : decode cX6_init 87 = .ok (.new 11, 3) := by decide +kernel
theorem dX6_init_90 : decode cX6_init 90 = .ok (.dup, 1) := by decide +kernel
theorem dX6_init_91 : decode cX6_init 91 = .ok (.bipush 8, 2) := by decide +kernel
theorem dX6_init_93 : decode cX6_init 93 = .ok (.bipush 69, 2) := by decide +kernel
theorem dX6_init_95 : decode cX6_init 95 = .ok (.invokespecial 13, 3) := by decide +kernel
theorem dX6_init_98 : decode cX6_init 98 = .ok (.putfield 35, 3) := by decide +kernel
theorem dX6_init_101 : decode cX6_init 101 = .ok (.return_, 1) := by decide +kernel
theorem dX6_reset_0 : decode cX6_reset 0 = .ok (.aload_n 0, 1) := by decide +kernel
theorem dX6_reset_1 : decode cX6_reset 1 = .ok (.iconst 0, 1) := by decide +kernel
theorem dX6_reset_2 : decode cX6_reset 2 = .ok (.putfield 38, 3) := by decide +kernel
theorem dX6_reset_5 : decode cX6_reset 5 = .ok (.aload_n 0, 1) := by decide +kernel
theorem dX6_reset_6 : decode cX6_reset 6 = .ok (.iload_n 1, 1) := by decide +kernel
theorem dX6_reset_7 : decode cX6_reset 7 = .ok (.putfield 42, 3) := by decide +kernel
theorem dX6_reset_10 : decode cX6_reset 10 = .ok (.aload_n 0, 1) := by decide +kernel
theorem dX6_reset_11 : decode cX6_reset 11 = .ok (.getfield 16, 3) := by decide +kernel
theorem dX6_reset_14 : decode cX6_reset 14 = .ok (.invokevirtual 45, 3) := by decide +kernel
theorem dX6_reset_17 : decode cX6_reset 17 = .ok (.pop, 1) := by decide +kernel
theorem dX6_reset_18 : decode cX6_reset 18 = .ok (.aload_n 0, 1) := by decide +kernel
theorem dX6_reset_19 : decode cX6_reset 19 = .ok (.getfield 20, 3) := by decide +kernel
theorem dX6_reset_22 : decode cX6_reset 22 = .ok (.invokevirtual 45, 3) := by decide +kernel
theorem dX6_reset_25 : decode cX6_reset 25 = .ok (.pop, 1) := by decide +kernel
theorem dX6_reset_26 : decode cX6_reset 26 = .ok (.aload_n 0, 1) := by decide +kernel
theorem dX6_reset_27 : decode cX6_reset 27 = .ok (.getfield 23, 3) := by decide +kernel
theorem dX6_reset_30 : decode cX6_reset 30 = .ok (.invokevirtual 45, 3) := by decide +kernel
theorem dX6_reset_33 : decode cX6_reset 33 = .ok (.pop, 1) := by decide +kernel
theorem dX6_reset_34 : decode cX6_reset 34 = .ok (.aload_n 0, 1) := by decide +kernel
theorem dX6_reset_35 : decode cX6_reset 35 = .ok (.getfield 26, 3) := by decide +kernel
theorem dX6_reset_38 : decode cX6_reset 38 = .ok (.invokevirtual 45, 3) := by decide +kernel
theorem dX6_reset_41 : decode cX6_reset 41 = .ok (.pop, 1) := by decide +kernel
theorem dX6_reset_42 : decode cX6_reset 42 = .ok (.aload_n 0, 1) := by decide +kernel
theorem dX6_reset_43 : decode cX6_reset 43 = .ok (.getfield 29, 3) := by decide +kernel
theorem dX6_reset_46 : decode cX6_reset 46 = .ok (.invokevirtual 45, 3) := by decide +kernel
theorem dX6_reset_49 : decode cX6_reset 49 = .ok (.pop, 1) := by decide +kernel
theorem dX6_reset_50 : decode cX6_reset 50 = .ok (.aload_n 0, 1) := by decide +kernel
theorem dX6_reset_51 : decode cX6_reset 51 = .ok (.getfield 32, 3) := by decide +kernel
theorem dX6_reset_54 : decode cX6_reset 54 = .ok (.invokevirtual 45, 3) := by decide +kernel
theorem dX6_reset_57 : decode cX6_reset 57 = .ok (.pop, 1) := by decide +kernel
theorem dX6_reset_58 : decode cX6_reset 58 = .ok (.aload_n 0, 1) := by decide +kernel
theorem dX6_reset_59 : decode cX6_reset 59 = .ok (.getfield 35, 3) := by decide +kernel
theorem dX6_reset_62 : decode cX6_reset 62 = .ok (.invokevirtual 45, 3) := by decide +kernel
theorem dX6_reset_65 : decode cX6_reset 65 = .ok (.pop, 1) := by decide +kernel
theorem dX6_reset_66 : decode cX6_reset 66 = .ok (.return_, 1) := by decide +kernel
theorem dX6_copyFrom_0 : decode cX6_copyFrom 0 = .ok (.aload_n 1, 1) := by decide +kernel
theorem dX6_copyFrom_1 : decode cX6_copyFrom 1 = .ok (.ifnonnull 4, 3) := by decide +kernel
theorem dX6_copyFrom_4 : decode cX6_copyFrom 4 = .ok (.return_, 1) := by decide +kernel
theorem dX6_copyFrom_5 : decode cX6_copyFrom 5 = .ok (.aload_n 0, 1) := by decide +kernel
theorem dX6_copyFrom_6 : decode cX6_copyFrom 6 = .ok (.aload_n 1, 1) := by decide +kernel
theorem dX6_copyFrom_7 : decode cX6_copyFrom 7 = .ok (.getfield 38, 3) := by decide +kernel
theorem dX6_copyFrom_10 : decode cX6_copyFrom 10 = .ok (.putfield 38, 3) := by decide +kernel
theorem dX6_copyFrom_13 : decode cX6_copyFrom 13 = .ok (.aload_n 0, 1) := by decide +kernel
theorem dX6_copyFrom_14 : decode cX6_copyFrom 14 = .ok (.aload_n 1, 1) := by decide +kernel
theorem dX6_copyFrom_15 : decode cX6_copyFrom 15 = .ok (.getfield 42, 3) := by decide +kernel
theorem dX6_copyFrom_18 : decode cX6_copyFrom 18 = .ok (.putfield 42, 3) := by decide +kernel
theorem dX6_copyFrom_21 : decode cX6_copyFrom 21 = .ok (.aload_n 0, 1) := by decide +kernel
theorem dX6_copyFrom_22 : decode cX6_copyFrom 22 = .ok (.getfield 16, 3) := by decide +kernel
theorem dX6_copyFrom_25 : decode cX6_copyFrom 25 = .ok (.aload_n 1, 1) := by decide +kernel
theorem dX6_copyFrom_26 : decode cX6_copyFrom 26 = .ok (.getfield 16, 3) := by decide +kernel
theorem dX6_copyFrom_29 : decode cX6_copyFrom 29 = .ok (.invokevirtual 49, 3) := by decide +kernel
theorem dX6_copyFrom_32 : decode cX6_copyFrom 32 = .ok (.aload_n 0, 1) := by decide +kernel
theorem dX6_copyFrom_33 : decode cX6_copyFrom 33 = .ok (.getfield 20, 3) := by decide +kernel
theorem dX6_copyFrom_36 : decode cX6_copyFrom 36 = .ok (.aload_n 1, 1) := by decide +kernel
theorem dX6_copyFrom_37 : decode cX6_copyFrom 37 = .ok (.getfield 20, 3) := by decide +kernel
theorem dX6_copyFrom_40 : decode cX6_copyFrom 40 = .ok (.invokevirtual 49, 3) := by decide +kernel
theorem dX6_copyFrom_43 : decode cX6_copyFrom 43 = .ok (.aload_n 0, 1) := by decide +kernel
theorem dX6_copyFrom_44 : decode cX6_copyFrom 44 = .ok (.getfield 23, 3) := by decide +kernel
theorem dX6_copyFrom_47 : decode cX6_copyFrom 47 = .ok (.aload_n 1, 1) := by decide +kernel
theorem dX6_copyFrom_48 : decode cX6_copyFrom 48 = .ok (.getfield 23, 3) := by decide +kernel
theorem dX6_copyFrom_51 : decode cX6_copyFrom 51 = .ok (.invokevirtual 49, 3) := by decide +kernel
theorem dX6_copyFrom_54 : decode cX6_copyFrom 54 = .ok (.aload_n 0, 1) := by decide +kernel
theorem dX6_copyFrom_55 : decode cX6_copyFrom 55 = .ok (.getfield 26, 3) := by decide +kernel
theorem dX6_copyFrom_58 : decode cX6_copyFrom 58 = .ok (.aload_n 1, 1) := by decide +kernel
theorem dX6_copyFrom_59 : decode cX6_copyFrom 59 = .ok (.getfield 26, 3) := by decide +kernel
theorem dX6_copyFrom_62 : decode cX6_copyFrom 62 = .ok (.invokevirtual 49, 3) := by decide +kernel
theorem dX6_copyFrom_65 : decode cX6_copyFrom 65 = .ok (.aload_n 0, 1) := by decide +kernel
theorem dX6_copyFrom_66 : decode cX6_copyFrom 66 = .ok (.getfield 29, 3) := by decide +kernel
theorem dX6_copyFrom_69 : decode cX6_copyFrom 69 = .ok (.aload_n 1, 1) := by decide +kernel
theorem dX6_copyFrom_70 : decode cX6_copyFrom 70 = .ok (.getfield 29, 3) := by decide +kernel
theorem dX6_copyFrom_73 : decode cX6_copyFrom 73 = .ok (.invokevirtual 49, 3) := by decide +kernel
theorem dX6_copyFrom_76 : decode cX6_copyFrom 76 = .ok (.aload_n 0, 1) := by decide +kernel
theorem dX6_copyFrom_77 : decode cX6_copyFrom 77 = .ok (.getfield 32, 3) := by decide +kernel
theorem dX6_copyFrom_80 : decode cX6_copyFrom 80 = .ok (.aload_n 1, 1) := by decide +kernel
theorem dX6_copyFrom_81 : decode cX6_copyFrom 81 = .ok (.getfield 32, 3) := by decide +kernel
theorem dX6_copyFrom_84 : decode cX6_copyFrom 84 = .ok (.invokevirtual 49, 3) := by decide +kernel
theorem dX6_copyFrom_87 : decode cX6_copyFrom 87 = .ok (.aload_n 0, 1) := by decide +kernel
theorem dX6_copyFrom_88 : decode cX6_copyFrom 88 = .ok (.getfield 35, 3) := by decide +kernel
theorem dX6_copyFrom_91 : decode cX6_copyFrom 91 = .ok (.aload_n 1, 1) := by decide +kernel
theorem dX6_copyFrom_92 : decode cX6_copyFrom 92 = .ok (.getfield 35, 3) := by decide +kernel
theorem dX6_copyFrom_95 : decode cX6_copyFrom 95 = .ok (.invokevirtual 49, 3) := by decide +kernel
theorem dX6_copyFrom_98 : decode cX6_copyFrom 98 = .ok (.return_, 1) := by decide +kernel
theorem dX6_remember_0 : decode cX6_remember 0 = .ok (.aload_n 0, 1) := by decide +kernel
theorem dX6_remember_1 : decode cX6_remember 1 = .ok (.getfield 35, 3) := by decide +kernel
theorem dX6_remember_4 : decode cX6_remember 4 = .ok (.invokevirtual 53, 3) := by decide +kernel
theorem dX6_remember_7 : decode cX6_remember 7 = .ok (.ifCond .eq 10, 3) := by decide +kernel
theorem dX6_remember_10 : decode cX6_remember 10 = .ok (.aload_n 0, 1) := by decide +kernel
theorem dX6_remember_11 : decode cX6_remember 11 = .ok (.getfield 35, 3) := by decide +kernel
theorem dX6_remember_14 : decode cX6_remember 14 = .ok (.invokevirtual 57, 3) := by decide +kernel
theorem dX6_remember_17 : decode cX6_remember 17 = .ok (.aload_n 0, 1) := by decide +kernel
theorem dX6_remember_18 : decode cX6_remember 18 = .ok (.getfield 35, 3) := by decide +kernel
theorem dX6_remember_21 : decode cX6_remember 21 = .ok (.invokevirtual 60, 3) := by decide +kernel
theorem dX6_remember_24 : decode cX6_remember 24 = .ok (.istore_n 1, 1) := by decide +kernel
theorem dX6_remember_25 : decode cX6_remember 25 = .ok (.aload_n 0, 1) := by decide +kernel
theorem dX6_remember_26 : decode cX6_remember 26 = .ok (.getfield 35, 3) := by decide +kernel
theorem dX6_remember_29 : decode cX6_remember 29 = .ok (.iload_n 1, 1) := by decide +kernel
theorem dX6_remember_30 : decode cX6_remember 30 = .ok (.iconst 0, 1) := by decide +kernel
theorem dX6_remember_31 : decode cX6_remember 31 = .ok (.aload_n 0, 1) := by decide +kernel
theorem dX6_remember_32 : decode cX6_remember 32 = .ok (.getfield 38, 3) := by decide +kernel
theorem dX6_remember_35 : decode cX6_remember 35 = .ok (.invokevirtual 63, 3) := by decide +kernel
theorem dX6_remember_38 : decode cX6_remember 38 = .ok (.aload_n 0, 1) := by decide +kernel
theorem dX6_remember_39 : decode cX6_remember 39 = .ok (.getfield 35, 3) := by decide +kernel
theorem dX6_remember_42 : decode cX6_remember 42 = .ok (.iload_n 1, 1) := by decide +kernel
theorem dX6_remember_43 : decode cX6_remember 43 = .ok (.iconst 1, 1) := by decide +kernel
theorem dX6_remember_44 : decode cX6_remember 44 = .ok (.aload_n 0, 1) := by decide +kernel
theorem dX6_remember_45 : decode cX6_remember 45 = .ok (.getfield 42, 3) := by decide +kernel
theorem dX6_remember_48 : decode cX6_remember 48 = .ok (.invokevirtual 63, 3) := by decide +kernel
theorem dX6_remember_51 : decode cX6_remember 51 = .ok (.aload_n 0, 1) := by decide +kernel
theorem dX6_remember_52 : decode cX6_remember 52 = .ok (.getfield 35, 3) := by decide +kernel
theorem dX6_remember_55 : decode cX6_remember 55 = .ok (.iload_n 1, 1) := by decide +kernel
theorem dX6_remember_56 : decode cX6_remember 56 = .ok (.iconst 2, 1) := by decide +kernel
theorem dX6_remember_57 : decode cX6_remember 57 = .ok (.aload_n 0, 1) := by decide +kernel
theorem dX6_remember_58 : decode cX6_remember 58 = .ok (.getfield 16, 3) := by decide +kernel
theorem dX6_remember_61 : decode cX6_remember 61 = .ok (.invokevirtual 67, 3) := by decide +kernel
theorem dX6_remember_64 : decode cX6_remember 64 = .ok (.aload_n 0, 1) := by decide +kernel
theorem dX6_remember_65 : decode cX6_remember 65 = .ok (.getfield 35, 3) := by decide +kernel
theorem dX6_remember_68 : decode cX6_remember 68 = .ok (.iload_n 1, 1) := by decide +kernel
theorem dX6_remember_69 : decode cX6_remember 69 = .ok (.bipush 57, 2) := by decide +kernel
theorem dX6_remember_71 : decode cX6_remember 71 = .ok (.aload_n 0, 1) := by decide +kernel
theorem dX6_remember_72 : decode cX6_remember 72 = .ok (.getfield 23, 3) := by decide +kernel
theorem dX6_remember_75 : decode cX6_remember 75 = .ok (.invokevirtual 67, 3) := by decide +kernel
theorem dX6_remember_78 : decode cX6_remember 78 = .ok (.return_, 1) := by decide +kernel
theorem dX6_goBack_0 : decode cX6_goBack 0 = .ok (.aload_n 0, 1) := by decide +kernel
theorem dX6_goBack_1 : decode cX6_goBack 1 = .ok (.getfield 35, 3) := by decide +kernel
theorem dX6_goBack_4 : decode cX6_goBack 4 = .ok (.getfield 71, 3) := by decide +kernel
theorem dX6_goBack_7 : decode cX6_goBack 7 = .ok (.iconst 1, 1) := by decide +kernel
theorem dX6_goBack_8 : decode cX6_goBack 8 = .ok (.isub, 1) := by decide +kernel
theorem dX6_goBack_9 : decode cX6_goBack 9 = .ok (.istore_n 1, 1) := by decide +kernel
theorem dX6_goBack_10 : decode cX6_goBack 10 = .ok (.aload_n 0, 1) := by decide +kernel
theorem dX6_goBack_11 : decode cX6_goBack 11 = .ok (.getfield 35, 3) := by decide +kernel
theorem dX6_goBack_14 : decode cX6_goBack 14 = .ok (.iload_n 1, 1) := by decide +kernel
theorem dX6_goBack_15 : decode cX6_goBack 15 = .ok (.invokevirtual 74, 3) := by decide +kernel
theorem dX6_goBack_18 : decode cX6_goBack 18 = .ok (.ifCond .ne 4, 3) := by decide +kernel
theorem dX6_goBack_21 : decode cX6_goBack 21 = .ok (.return_, 1) := by decide +kernel
theorem dX6_goBack_22 : decode cX6_goBack 22 = .ok (.aload_n 0, 1) := by decide +kernel
theorem dX6_goBack_23 : decode cX6_goBack 23 = .ok (.aload_n 0, 1) := by decide +kernel
theorem dX6_goBack_24 : decode cX6_goBack 24 = .ok (.getfield 35, 3) := by decide +kernel
theorem dX6_goBack_27 : decode cX6_goBack 27 = .ok (.iload_n 1, 1) := by decide +kernel
theorem dX6_goBack_28 : decode cX6_goBack 28 = .ok (.iconst 0, 1) := by decide +kernel
theorem dX6_goBack_29 : decode cX6_goBack 29 = .ok (.invokevirtual 78, 3) := by decide +kernel
theorem dX6_goBack_32 : decode cX6_goBack 32 = .ok (.putfield 38, 3) := by decide +kernel
theorem dX6_goBack_35 : decode cX6_goBack 35 = .ok (.aload_n 0, 1) := by decide +kernel
theorem dX6_goBack_36 : decode cX6_goBack 36 = .ok (.aload_n 0, 1) := by decide +kernel
theorem dX6_goBack_37 : decode cX6_goBack 37 = .ok (.getfield 35, 3) := by decide +kernel
theorem dX6_goBack_40 : decode cX6_goBack 40 = .ok (.iload_n 1, 1) := by decide +kernel
theorem dX6_goBack_41 : decode cX6_goBack 41 = .ok (.iconst 1, 1) := by decide +kernel
theorem dX6_goBack_42 : decode cX6_goBack 42 = .ok (.invokevirtual 78, 3) := by decide +kernel
theorem dX6_goBack_45 : decode cX6_goBack 45 = .ok (.putfield 42, 3) := by decide +kernel
theorem dX6_goBack_48 : decode cX6_goBack 48 = .ok (.aload_n 0, 1) := by decide +kernel
theorem dX6_goBack_49 : decode cX6_goBack 49 = .ok (.getfield 35, 3) := by decide +kernel
theorem dX6_goBack_52 : decode cX6_goBack 52 = .ok (.iload_n 1, 1) := by decide +kernel
theorem dX6_goBack_53 : decode cX6_goBack 53 = .ok (.iconst 2, 1) := by decide +kernel
theorem dX6_goBack_54 : decode cX6_goBack 54 = .ok (.aload_n 0, 1) := by decide +kernel
theorem dX6_goBack_55 : decode cX6_goBack 55 = .ok (.getfield 16, 3) := by decide +kernel
theorem dX6_goBack_58 : decode cX6_goBack 58 = .ok (.invokevirtual 82, 3) := by decide +kernel
theorem dX6_goBack_61 : decode cX6_goBack 61 = .ok (.aload_n 0, 1) := by decide +kernel
theorem dX6_goBack_62 : decode cX6_goBack 62 = .ok (.getfield 35, 3) := by decide +kernel
theorem dX6_goBack_65 : decode cX6_goBack 65 = .ok (.iload_n 1, 1) := by decide +kernel
theorem dX6_goBack_66 : decode cX6_goBack 66 = .ok (.bipush 57, 2) := by decide +kernel
theorem dX6_goBack_68 : decode cX6_goBack 68 = .ok (.aload_n 0, 1) := by decide +kernel
theorem dX6_goBack_69 : decode cX6_goBack 69 = .ok (.getfield 23, 3) := by decide +kernel
theorem dX6_goBack_72 : decode cX6_goBack 72 = .ok (.invokevirtual 82, 3) := by decide +kernel
theorem dX6_goBack_75 : decode cX6_goBack 75 = .ok (.aload_n 0, 1) := by decide +kernel
theorem dX6_goBack_76 : decode cX6_goBack 76 = .ok (.getfield 35, 3) := by decide +kernel
theorem dX6_goBack_79 : decode cX6_goBack 79 = .ok (.iload_n 1, 1) := by decide +kernel
theorem dX6_goBack_80 : decode cX6_goBack 80 = .ok (.putfield 71, 3) := by decide +kernel
theorem dX6_goBack_83 : decode cX6_goBack 83 = .ok (.return_, 1) := by decide +kernel
theorem dX6_addCellar_0 : decode cX6_addCellar 0 = .ok (.aload_n 0, 1) := by decide +kernel
theorem dX6_addCellar_1 : decode cX6_addCellar 1 = .ok (.getfield 16, 3) := by decide +kernel
theorem dX6_addCellar_4 : decode cX6_addCellar 4 = .ok (.invokevirtual 60, 3) := by decide +kernel
theorem dX6_addCellar_7 : decode cX6_addCellar 7 = .ok (.istore_n 3, 1) := by decide +kernel
theorem dX6_addCellar_8 : decode cX6_addCellar 8 = .ok (.aload_n 0, 1) := by decide +kernel
theorem dX6_addCellar_9 : decode cX6_addCellar 9 = .ok (.getfield 16, 3) := by decide +kernel
theorem dX6_addCellar_12 : decode cX6_addCellar 12 = .ok (.iload_n 3, 1) := by decide +kernel
theorem dX6_addCellar_13 : decode cX6_addCellar 13 = .ok (.iconst 0, 1) := by decide +kernel
theorem dX6_addCellar_14 : decode cX6_addCellar 14 = .ok (.iload_n 1, 1) := by decide +kernel
theorem dX6_addCellar_15 : decode cX6_addCellar 15 = .ok (.invokevirtual 63, 3) := by decide +kernel
theorem dX6_addCellar_18 : decode cX6_addCellar 18 = .ok (.aload_n 0, 1) := by decide +kernel
theorem dX6_addCellar_19 : decode cX6_addCellar 19 = .ok (.getfield 16, 3) := by decide +kernel
theorem dX6_addCellar_22 : decode cX6_addCellar 22 = .ok (.iload_n 3, 1) := by decide +kernel
theorem dX6_addCellar_23 : decode cX6_addCellar 23 = .ok (.iconst 1, 1) := by decide +kernel
theorem dX6_addCellar_24 : decode cX6_addCellar 24 = .ok (.iload_n 2, 1) := by decide +kernel
theorem dX6_addCellar_25 : decode cX6_addCellar 25 = .ok (.invokevirtual 63, 3) := by decide +kernel
theorem dX6_addCellar_28 : decode cX6_addCellar 28 = .ok (.iload_n 3, 1) := by decide +kernel
theorem dX6_addCellar_29 : decode cX6_addCellar 29 = .ok (.ireturn, 1) := by decide +kernel
theorem dX6_addSlinger_0 : decode cX6_addSlinger 0 = .ok (.aload_n 0, 1) := by decide +kernel
theorem dX6_addSlinger_1 : decode cX6_addSlinger 1 = .ok (.getfield 20, 3) := by decide +kernel
theorem dX6_addSlinger_4 : decode cX6_addSlinger 4 = .ok (.invokevirtual 60, 3) := by decide +kernel
theorem dX6_addSlinger_7 : decode cX6_addSlinger 7 = .ok (.istore_n 3, 1) := by decide +kernel
theorem dX6_addSlinger_8 : decode cX6_addSlinger 8 = .ok (.aload_n 0, 1) := by decide +kernel
theorem dX6_addSlinger_9 : decode cX6_addSlinger 9 = .ok (.getfield 20, 3) := by decide +kernel
theorem dX6_addSlinger_12 : decode cX6_addSlinger 12 = .ok (.iload_n 3, 1) := by decide +kernel
theorem dX6_addSlinger_13 : decode cX6_addSlinger 13 = .ok (.iconst 0, 1) := by decide +kernel
theorem dX6_addSlinger_14 : decode cX6_addSlinger 14 = .ok (.iload_n 1, 1) := by decide +kernel
theorem dX6_addSlinger_15 : decode cX6_addSlinger 15 = .ok (.invokevirtual 63, 3) := by decide +kernel
theorem dX6_addSlinger_18 : decode cX6_addSlinger 18 = .ok (.aload_n 0, 1) := by decide +kernel
theorem dX6_addSlinger_19 : decode cX6_addSlinger 19 = .ok (.getfield 20, 3) := by decide +kernel
theorem dX6_addSlinger_22 : decode cX6_addSlinger 22 = .ok (.iload_n 3, 1) := by decide +kernel
theorem dX6_addSlinger_23 : decode cX6_addSlinger 23 = .ok (.iconst 1, 1) := by decide +kernel
theorem dX6_addSlinger_24 : decode cX6_addSlinger 24 = .ok (.iload_n 2, 1) := by decide +kernel
theorem dX6_addSlinger_25 : decode cX6_addSlinger 25 = .ok (.invokevirtual 63, 3) := by decide +kernel
theorem dX6_addSlinger_28 : decode cX6_addSlinger 28 = .ok (.iload_n 3, 1) := by decide +kernel
theorem dX6_addSlinger_29 : decode cX6_addSlinger 29 = .ok (.ireturn, 1) := by decide +kernel
theorem dX6_addCloud_0 : decode cX6_addCloud 0 = .ok (.aload_n 0, 1) := by decide +kernel
theorem dX6_addCloud_1 : decode cX6_addCloud 1 = .ok (.getfield 23, 3) := by decide +kernel
theorem dX6_addCloud_4 : decode cX6_addCloud 4 = .ok (.invokevirtual 60, 3) := by decide +kernel
theorem dX6_addCloud_7 : decode cX6_addCloud 7 = .ok (.istore_n 3, 1) := by decide +kernel
theorem dX6_addCloud_8 : decode cX6_addCloud 8 = .ok (.aload_n 0, 1) := by decide +kernel
theorem dX6_addCloud_9 : decode cX6_addCloud 9 = .ok (.getfield 23, 3) := by decide +kernel
theorem dX6_addCloud_12 : decode cX6_addCloud 12 = .ok (.iload_n 3, 1) := by decide +kernel
theorem dX6_addCloud_13 : decode cX6_addCloud 13 = .ok (.iconst 0, 1) := by decide +kernel
theorem dX6_addCloud_14 : decode cX6_addCloud 14 = .ok (.iload_n 1, 1) := by decide +kernel
theorem dX6_addCloud_15 : decode cX6_addCloud 15 = .ok (.invokevirtual 63, 3) := by decide +kernel
theorem dX6_addCloud_18 : decode cX6_addCloud 18 = .ok (.aload_n 0, 1) := by decide +kernel
theorem dX6_addCloud_19 : decode cX6_addCloud 19 = .ok (.getfield 23, 3) := by decide +kernel
theorem dX6_addCloud_22 : decode cX6_addCloud 22 = .ok (.iload_n 3, 1) := by decide +kernel
theorem dX6_addCloud_23 : decode cX6_addCloud 23 = .ok (.iconst 1, 1) := by decide +kernel
theorem dX6_addCloud_24 : decode cX6_addCloud 24 = .ok (.iload_n 2, 1) := by decide +kernel
theorem dX6_addCloud_25 : decode cX6_addCloud 25 = .ok (.invokevirtual 63, 3) := by decide +kernel
theorem dX6_addCloud_28 : decode cX6_addCloud 28 = .ok (.iload_n 3, 1) := by decide +kernel
theorem dX6_addCloud_29 : decode cX6_addCloud 29 = .ok (.ireturn, 1) := by decide +kernel
theorem dX6_stonesOf_0 : decode cX6_stonesOf 0 = .ok (.iload_n 2, 1) := by decide +kernel
theorem dX6_stonesOf_1 : decode cX6_stonesOf 1 = .ok (.invokestatic 85, 3) := by decide +kernel
theorem dX6_stonesOf_4 : decode cX6_stonesOf 4 = .ok (.ifCond .eq 17, 3) := by decide +kernel
theorem dX6_stonesOf_7 : decode cX6_stonesOf 7 = .ok (.aload_n 0, 1) := by decide +kernel
theorem dX6_stonesOf_8 : decode cX6_stonesOf 8 = .ok (.getfield 16, 3) := by decide +kernel
theorem dX6_stonesOf_11 : decode cX6_stonesOf 11 = .ok (.iload_n 1, 1) := by decide +kernel
theorem dX6_stonesOf_12 : decode cX6_stonesOf 12 = .ok (.iconst 1, 1) := by decide +kernel
theorem dX6_stonesOf_13 : decode cX6_stonesOf 13 = .ok (.iload_n 2, 1) := by decide +kernel
theorem dX6_stonesOf_14 : decode cX6_stonesOf 14 = .ok (.iadd, 1) := by decide +kernel
theorem dX6_stonesOf_15 : decode cX6_stonesOf 15 = .ok (.invokevirtual 78, 3) := by decide +kernel
theorem dX6_stonesOf_18 : decode cX6_stonesOf 18 = .ok (.goto 4, 3) := by decide +kernel
theorem dX6_stonesOf_21 : decode cX6_stonesOf 21 = .ok (.iconst 0, 1) := by decide +kernel
theorem dX6_stonesOf_22 : decode cX6_stonesOf 22 = .ok (.ireturn, 1) := by decide +kernel
theorem dX6_putStones_0 : decode cX6_putStones 0 = .ok (.iload_n 2, 1) := by decide +kernel
theorem dX6_putStones_1 : decode cX6_putStones 1 = .ok (.invokestatic 85, 3) := by decide +kernel
theorem dX6_putStones_4 : decode cX6_putStones 4 = .ok (.ifCond .eq 15, 3) := by decide +kernel
theorem dX6_putStones_7 : decode cX6_putStones 7 = .ok (.aload_n 0, 1) := by decide +kernel
theorem dX6_putStones_8 : decode cX6_putStones 8 = .ok (.getfield 16, 3) := by decide +kernel
theorem dX6_putStones_11 : decode cX6_putStones 11 = .ok (.iload_n 1, 1) := by decide +kernel
theorem dX6_putStones_12 : decode cX6_putStones 12 = .ok (.iconst 1, 1) := by decide +kernel
theorem dX6_putStones_13 : decode cX6_putStones 13 = .ok (.iload_n 2, 1) := by decide +kernel
theorem dX6_putStones_14 : decode cX6_putStones 14 = .ok (.iadd, 1) := by decide +kernel
theorem dX6_putStones_15 : decode cX6_putStones 15 = .ok (.iload_n 3, 1) := by decide +kernel
theorem dX6_putStones_16 : decode cX6_putStones 16 = .ok (.invokevirtual 63, 3) := by decide +kernel
theorem dX6_putStones_19 : decode cX6_putStones 19 = .ok (.return_, 1) := by decide +kernel
theorem dX6_stonesFrom_0 : decode cX6_stonesFrom 0 = .ok (.iconst 0, 1) := by decide +kernel
theorem dX6_stonesFrom_1 : decode cX6_stonesFrom 1 = .ok (.istore_n 3, 1) := by decide +kernel
theorem dX6_stonesFrom_2 : decode cX6_stonesFrom 2 = .ok (.iconst 1, 1) := by decide +kernel
theorem dX6_stonesFrom_3 : decode cX6_stonesFrom 3 = .ok (.iload_n 2, 1) := by decide +kernel
theorem dX6_stonesFrom_4 : decode cX6_stonesFrom 4 = .ok (.invokestatic 88, 3) := by decide +kernel
theorem dX6_stonesFrom_7 : decode cX6_stonesFrom 7 = .ok (.istore 4, 2) := by decide +kernel
theorem dX6_stonesFrom_9 : decode cX6_stonesFrom 9 = .ok (.iload 4, 2) := by decide +kernel
theorem dX6_stonesFrom_11 : decode cX6_stonesFrom 11 = .ok (.bipush 9, 2) := by decide +kernel
theorem dX6_stonesFrom_13 : decode cX6_stonesFrom 13 = .ok (.if_icmp .gt 19, 3) := by decide +kernel
theorem dX6_stonesFrom_16 : decode cX6_stonesFrom 16 = .ok (.iload_n 3, 1) := by decide +kernel
theorem dX6_stonesFrom_17 : decode cX6_stonesFrom 17 = .ok (.aload_n 0, 1) := by decide +kernel
theorem dX6_stonesFrom_18 : decode cX6_stonesFrom 18 = .ok (.iload_n 1, 1) := by decide +kernel
theorem dX6_stonesFrom_19 : decode cX6_stonesFrom 19 = .ok (.iload 4, 2) := by decide +kernel
theorem dX6_stonesFrom_21 : decode cX6_stonesFrom 21 = .ok (.invokevirtual 93, 3) := by decide +kernel
theorem dX6_stonesFrom_24 : decode cX6_stonesFrom 24 = .ok (.iadd, 1) := by decide +kernel
theorem dX6_stonesFrom_25 : decode cX6_stonesFrom 25 = .ok (.istore_n 3, 1) := by decide +kernel
theorem dX6_stonesFrom_26 : decode cX6_stonesFrom 26 = .ok (.iinc 4 1, 3) := by decide +kernel
theorem dX6_stonesFrom_29 : decode cX6_stonesFrom 29 = .ok (.goto (-20), 3) := by decide +kernel
theorem dX6_stonesFrom_32 : decode cX6_stonesFrom 32 = .ok (.iload_n 3, 1) := by decide +kernel
theorem dX6_stonesFrom_33 : decode cX6_stonesFrom 33 = .ok (.ireturn, 1) := by decide +kernel
theorem dX6_allStones_0 : decode cX6_allStones 0 = .ok (.iconst 0, 1) := by decide +kernel
theorem dX6_allStones_1 : decode cX6_allStones 1 = .ok (.istore_n 1, 1) := by decide +kernel
theorem dX6_allStones_2 : decode cX6_allStones 2 = .ok (.iconst 0, 1) := by decide +kernel
theorem dX6_allStones_3 : decode cX6_allStones 3 = .ok (.istore_n 2, 1) := by decide +kernel
theorem dX6_allStones_4 : decode cX6_allStones 4 = .ok (.iload_n 2, 1) := by decide +kernel
theorem dX6_allStones_5 : decode cX6_allStones 5 = .ok (.aload_n 0, 1) := by decide +kernel
theorem dX6_allStones_6 : decode cX6_allStones 6 = .ok (.getfield 16, 3) := by decide +kernel
theorem dX6_allStones_9 : decode cX6_allStones 9 = .ok (.getfield 71, 3) := by decide +kernel
theorem dX6_allStones_12 : decode cX6_allStones 12 = .ok (.if_icmp .ge 18, 3) := by decide +kernel
theorem dX6_allStones_15 : decode cX6_allStones 15 = .ok (.iload_n 1, 1) := by decide +kernel
theorem dX6_allStones_16 : decode cX6_allStones 16 = .ok (.aload_n 0, 1) := by decide +kernel
theorem dX6_allStones_17 : decode cX6_allStones 17 = .ok (.iload_n 2, 1) := by decide +kernel
theorem dX6_allStones_18 : decode cX6_allStones 18 = .ok (.iconst 1, 1) := by decide +kernel
theorem dX6_allStones_19 : decode cX6_allStones 19 = .ok (.invokevirtual 96, 3) := by decide +kernel
theorem dX6_allStones_22 : decode cX6_allStones 22 = .ok (.iadd, 1) := by decide +kernel
theorem dX6_allStones_23 : decode cX6_allStones 23 = .ok (.istore_n 1, 1) := by decide +kernel
theorem dX6_allStones_24 : decode cX6_allStones 24 = .ok (.iinc 2 1, 3) := by decide +kernel
theorem dX6_allStones_27 : decode cX6_allStones 27 = .ok (.goto (-23), 3) := by decide +kernel
theorem dX6_allStones_30 : decode cX6_allStones 30 = .ok (.iload_n 1, 1) := by decide +kernel
theorem dX6_allStones_31 : decode cX6_allStones 31 = .ok (.ireturn, 1) := by decide +kernel
theorem dX6_greatest_0 : decode cX6_greatest 0 = .ok (.bipush 9, 2) := by decide +kernel
theorem dX6_greatest_2 : decode cX6_greatest 2 = .ok (.istore_n 2, 1) := by decide +kernel
theorem dX6_greatest_3 : decode cX6_greatest 3 = .ok (.iload_n 2, 1) := by decide +kernel
theorem dX6_greatest_4 : decode cX6_greatest 4 = .ok (.iconst 1, 1) := by decide +kernel
theorem dX6_greatest_5 : decode cX6_greatest 5 = .ok (.if_icmp .lt 20, 3) := by decide +kernel
theorem dX6_greatest_8 : decode cX6_greatest 8 = .ok (.aload_n 0, 1) := by decide +kernel
theorem dX6_greatest_9 : decode cX6_greatest 9 = .ok (.iload_n 1, 1) := by decide +kernel
theorem dX6_greatest_10 : decode cX6_greatest 10 = .ok (.iload_n 2, 1) := by decide +kernel
theorem dX6_greatest_11 : decode cX6_greatest 11 = .ok (.invokevirtual 93, 3) := by decide +kernel
theorem dX6_greatest_14 : decode cX6_greatest 14 = .ok (.ifCond .le 5, 3) := by decide +kernel
theorem dX6_greatest_17 : decode cX6_greatest 17 = .ok (.iload_n 2, 1) := by decide +kernel
theorem dX6_greatest_18 : decode cX6_greatest 18 = .ok (.ireturn, 1) := by decide +kernel
theorem dX6_greatest_19 : decode cX6_greatest 19 = .ok (.iinc 2 (-1), 3) := by decide +kernel
theorem dX6_greatest_22 : decode cX6_greatest 22 = .ok (.goto (-19), 3) := by decide +kernel
theorem dX6_greatest_25 : decode cX6_greatest 25 = .ok (.iconst 0, 1) := by decide +kernel
theorem dX6_greatest_26 : decode cX6_greatest 26 = .ok (.ireturn, 1) := by decide +kernel
theorem dX6_meltIn_0 : decode cX6_meltIn 0 = .ok (.aload_n 0, 1) := by decide +kernel
theorem dX6_meltIn_1 : decode cX6_meltIn 1 = .ok (.getfield 16, 3) := by decide +kernel
theorem dX6_meltIn_4 : decode cX6_meltIn 4 = .ok (.iload_n 1, 1) := by decide +kernel
theorem dX6_meltIn_5 : decode cX6_meltIn 5 = .ok (.iconst 0, 1) := by decide +kernel
theorem dX6_meltIn_6 : decode cX6_meltIn 6 = .ok (.invokevirtual 78, 3) := by decide +kernel
theorem dX6_meltIn_9 : decode cX6_meltIn 9 = .ok (.iload_n 2, 1) := by decide +kernel
theorem dX6_meltIn_10 : decode cX6_meltIn 10 = .ok (.aload_n 0, 1) := by decide +kernel
theorem dX6_meltIn_11 : decode cX6_meltIn 11 = .ok (.getfield 16, 3) := by decide +kernel
theorem dX6_meltIn_14 : decode cX6_meltIn 14 = .ok (.iload_n 1, 1) := by decide +kernel
theorem dX6_meltIn_15 : decode cX6_meltIn 15 = .ok (.iconst 1, 1) := by decide +kernel
theorem dX6_meltIn_16 : decode cX6_meltIn 16 = .ok (.invokevirtual 78, 3) := by decide +kernel
theorem dX6_meltIn_19 : decode cX6_meltIn 19 = .ok (.invokestatic 99, 3) := by decide +kernel
theorem dX6_meltIn_22 : decode cX6_meltIn 22 = .ok (.ireturn, 1) := by decide +kernel
theorem dX6_doorCost_0 : decode cX6_doorCost 0 = .ok (.aload_n 0, 1) := by decide +kernel
theorem dX6_doorCost_1 : decode cX6_doorCost 1 = .ok (.getfield 16, 3) := by decide +kernel
theorem dX6_doorCost_4 : decode cX6_doorCost 4 = .ok (.iload_n 1, 1) := by decide +kernel
theorem dX6_doorCost_5 : decode cX6_doorCost 5 = .ok (.iconst 0, 1) := by decide +kernel
theorem dX6_doorCost_6 : decode cX6_doorCost 6 = .ok (.invokevirtual 78, 3) := by decide +kernel
theorem dX6_doorCost_9 : decode cX6_doorCost 9 = .ok (.invokestatic 105, 3) := by decide +kernel
theorem dX6_doorCost_12 : decode cX6_doorCost 12 = .ok (.ireturn, 1) := by decide +kernel
theorem dX6_loseRings_0 : decode cX6_loseRings 0 = .ok (.iconst 1, 1) := by decide +kernel
theorem dX6_loseRings_1 : decode cX6_loseRings 1 = .ok (.istore_n 3, 1) := by decide +kernel
theorem dX6_loseRings_2 : decode cX6_loseRings 2 = .ok (.iload_n 3, 1) := by decide +kernel
theorem dX6_loseRings_3 : decode cX6_loseRings 3 = .ok (.bipush 9, 2) := by decide +kernel
theorem dX6_loseRings_5 : decode cX6_loseRings 5 = .ok (.if_icmp .gt 45, 3) := by decide +kernel
theorem dX6_loseRings_8 : decode cX6_loseRings 8 = .ok (.aload_n 0, 1) := by decide +kernel
theorem dX6_loseRings_9 : decode cX6_loseRings 9 = .ok (.getfield 16, 3) := by decide +kernel
theorem dX6_loseRings_12 : decode cX6_loseRings 12 = .ok (.iload_n 1, 1) := by decide +kernel
theorem dX6_loseRings_13 : decode cX6_loseRings 13 = .ok (.iconst 1, 1) := by decide +kernel
theorem dX6_loseRings_14 : decode cX6_loseRings 14 = .ok (.iload_n 3, 1) := by decide +kernel
theorem dX6_loseRings_15 : decode cX6_loseRings 15 = .ok (.iadd, 1) := by decide +kernel
theorem dX6_loseRings_16 : decode cX6_loseRings 16 = .ok (.iload_n 3, 1) := by decide +kernel
theorem dX6_loseRings_17 : decode cX6_loseRings 17 = .ok (.iload_n 2, 1) := by decide +kernel
theorem dX6_loseRings_18 : decode cX6_loseRings 18 = .ok (.iadd, 1) := by decide +kernel
theorem dX6_loseRings_19 : decode cX6_loseRings 19 = .ok (.bipush 9, 2) := by decide +kernel
theorem dX6_loseRings_21 : decode cX6_loseRings 21 = .ok (.if_icmp .gt 19, 3) := by decide +kernel
theorem dX6_loseRings_24 : decode cX6_loseRings 24 = .ok (.aload_n 0, 1) := by decide +kernel
theorem dX6_loseRings_25 : decode cX6_loseRings 25 = .ok (.getfield 16, 3) := by decide +kernel
theorem dX6_loseRings_28 : decode cX6_loseRings 28 = .ok (.iload_n 1, 1) := by decide +kernel
theorem dX6_loseRings_29 : decode cX6_loseRings 29 = .ok (.iconst 1, 1) := by decide +kernel
theorem dX6_loseRings_30 : decode cX6_loseRings 30 = .ok (.iload_n 3, 1) := by decide +kernel
theorem dX6_loseRings_31 : decode cX6_loseRings 31 = .ok (.iadd, 1) := by decide +kernel
theorem dX6_loseRings_32 : decode cX6_loseRings 32 = .ok (.iload_n 2, 1) := by decide +kernel
theorem dX6_loseRings_33 : decode cX6_loseRings 33 = .ok (.iadd, 1) := by decide +kernel
theorem dX6_loseRings_34 : decode cX6_loseRings 34 = .ok (.invokevirtual 78, 3) := by decide +kernel
theorem dX6_loseRings_37 : decode cX6_loseRings 37 = .ok (.goto 4, 3) := by decide +kernel
theorem dX6_loseRings_40 : decode cX6_loseRings 40 = .ok (.iconst 0, 1) := by decide +kernel
theorem dX6_loseRings_41 : decode cX6_loseRings 41 = .ok (.invokevirtual 63, 3) := by decide +kernel
theorem dX6_loseRings_44 : decode cX6_loseRings 44 = .ok (.iinc 3 1, 3) := by decide +kernel
theorem dX6_loseRings_47 : decode cX6_loseRings 47 = .ok (.goto (-45), 3) := by decide +kernel
theorem dX6_loseRings_50 : decode cX6_loseRings 50 = .ok (.return_, 1) := by decide +kernel
theorem dX6_openDoor_0 : decode cX6_openDoor 0 = .ok (.aload_n 0, 1) := by decide +kernel
theorem dX6_openDoor_1 : decode cX6_openDoor 1 = .ok (.iload_n 1, 1) := by decide +kernel
theorem dX6_openDoor_2 : decode cX6_openDoor 2 = .ok (.aload_n 0, 1) := by decide +kernel
theorem dX6_openDoor_3 : decode cX6_openDoor 3 = .ok (.iload_n 1, 1) := by decide +kernel
theorem dX6_openDoor_4 : decode cX6_openDoor 4 = .ok (.invokevirtual 109, 3) := by decide +kernel
theorem dX6_openDoor_7 : decode cX6_openDoor 7 = .ok (.invokevirtual 112, 3) := by decide +kernel
theorem dX6_openDoor_10 : decode cX6_openDoor 10 = .ok (.return_, 1) := by decide +kernel
theorem dX6_passWeeks_0 : decode cX6_passWeeks 0 = .ok (.iconst 0, 1) := by decide +kernel
theorem dX6_passWeeks_1 : decode cX6_passWeeks 1 = .ok (.istore_n 2, 1) := by decide +kernel
theorem dX6_passWeeks_2 : decode cX6_passWeeks 2 = .ok (.iload_n 2, 1) := by decide +kernel
theorem dX6_passWeeks_3 : decode cX6_passWeeks 3 = .ok (.iload_n 1, 1) := by decide +kernel
theorem dX6_passWeeks_4 : decode cX6_passWeeks 4 = .ok (.if_icmp .ge 62, 3) := by decide +kernel
theorem dX6_passWeeks_7 : decode cX6_passWeeks 7 = .ok (.aload_n 0, 1) := by decide +kernel
theorem dX6_passWeeks_8 : decode cX6_passWeeks 8 = .ok (.getfield 38, 3) := by decide +kernel
theorem dX6_passWeeks_11 : decode cX6_passWeeks 11 = .ok (.sipush 999, 3) := by decide +kernel
theorem dX6_passWeeks_14 : decode cX6_passWeeks 14 = .ok (.if_icmp .ge 52, 3) := by decide +kernel
theorem dX6_passWeeks_17 : decode cX6_passWeeks 17 = .ok (.iconst 0, 1) := by decide +kernel
theorem dX6_passWeeks_18 : decode cX6_passWeeks 18 = .ok (.istore_n 3, 1) := by decide +kernel
theorem dX6_passWeeks_19 : decode cX6_passWeeks 19 = .ok (.iload_n 3, 1) := by decide +kernel
theorem dX6_passWeeks_20 : decode cX6_passWeeks 20 = .ok (.aload_n 0, 1) := by decide +kernel
theorem dX6_passWeeks_21 : decode cX6_passWeeks 21 = .ok (.getfield 16, 3) := by decide +kernel
theorem dX6_passWeeks_24 : decode cX6_passWeeks 24 = .ok (.getfield 71, 3) := by decide +kernel
theorem dX6_passWeeks_27 : decode cX6_passWeeks 27 = .ok (.if_icmp .ge 23, 3) := by decide +kernel
theorem dX6_passWeeks_30 : decode cX6_passWeeks 30 = .ok (.aload_n 0, 1) := by decide +kernel
theorem dX6_passWeeks_31 : decode cX6_passWeeks 31 = .ok (.iload_n 3, 1) := by decide +kernel
theorem dX6_passWeeks_32 : decode cX6_passWeeks 32 = .ok (.aload_n 0, 1) := by decide +kernel
theorem dX6_passWeeks_33 : decode cX6_passWeeks 33 = .ok (.iload_n 3, 1) := by decide +kernel
theorem dX6_passWeeks_34 : decode cX6_passWeeks 34 = .ok (.aload_n 0, 1) := by decide +kernel
theorem dX6_passWeeks_35 : decode cX6_passWeeks 35 = .ok (.getfield 38, 3) := by decide +kernel
theorem dX6_passWeeks_38 : decode cX6_passWeeks 38 = .ok (.invokevirtual 115, 3) := by decide +kernel
theorem dX6_passWeeks_41 : decode cX6_passWeeks 41 = .ok (.invokevirtual 112, 3) := by decide +kernel
theorem dX6_passWeeks_44 : decode cX6_passWeeks 44 = .ok (.iinc 3 1, 3) := by decide +kernel
theorem dX6_passWeeks_47 : decode cX6_passWeeks 47 = .ok (.goto (-28), 3) := by decide +kernel
theorem dX6_passWeeks_50 : decode cX6_passWeeks 50 = .ok (.aload_n 0, 1) := by decide +kernel
theorem dX6_passWeeks_51 : decode cX6_passWeeks 51 = .ok (.dup, 1) := by decide +kernel
theorem dX6_passWeeks_52 : decode cX6_passWeeks 52 = .ok (.getfield 38, 3) := by decide +kernel
theorem dX6_passWeeks_55 : decode cX6_passWeeks 55 = .ok (.iconst 1, 1) := by decide +kernel
theorem dX6_passWeeks_56 : decode cX6_passWeeks 56 = .ok (.iadd, 1) := by decide +kernel
theorem dX6_passWeeks_57 : decode cX6_passWeeks 57 = .ok (.putfield 38, 3) := by decide +kernel
theorem dX6_passWeeks_60 : decode cX6_passWeeks 60 = .ok (.iinc 2 1, 3) := by decide +kernel
theorem dX6_passWeeks_63 : decode cX6_passWeeks 63 = .ok (.goto (-61), 3) := by decide +kernel
theorem dX6_passWeeks_66 : decode cX6_passWeeks 66 = .ok (.return_, 1) := by decide +kernel
theorem dX6_throwFar_0 : decode cX6_throwFar 0 = .ok (.aload_n 0, 1) := by decide +kernel
theorem dX6_throwFar_1 : decode cX6_throwFar 1 = .ok (.getfield 20, 3) := by decide +kernel
theorem dX6_throwFar_4 : decode cX6_throwFar 4 = .ok (.iload_n 1, 1) := by decide +kernel
theorem dX6_throwFar_5 : decode cX6_throwFar 5 = .ok (.iconst 0, 1) := by decide +kernel
theorem dX6_throwFar_6 : decode cX6_throwFar 6 = .ok (.invokevirtual 78, 3) := by decide +kernel
theorem dX6_throwFar_9 : decode cX6_throwFar 9 = .ok (.aload_n 0, 1) := by decide +kernel
theorem dX6_throwFar_10 : decode cX6_throwFar 10 = .ok (.getfield 20, 3) := by decide +kernel
theorem dX6_throwFar_13 : decode cX6_throwFar 13 = .ok (.iload_n 1, 1) := by decide +kernel
theorem dX6_throwFar_14 : decode cX6_throwFar 14 = .ok (.iconst 1, 1) := by decide +kernel
theorem dX6_throwFar_15 : decode cX6_throwFar 15 = .ok (.invokevirtual 78, 3) := by decide +kernel
theorem dX6_throwFar_18 : decode cX6_throwFar 18 = .ok (.iload_n 2, 1) := by decide +kernel
theorem dX6_throwFar_19 : decode cX6_throwFar 19 = .ok (.iload_n 3, 1) := by decide +kernel
theorem dX6_throwFar_20 : decode cX6_throwFar 20 = .ok (.invokestatic 118, 3) := by decide +kernel
theorem dX6_throwFar_23 : decode cX6_throwFar 23 = .ok (.ireturn, 1) := by decide +kernel
theorem dX6_throwHits_0 : decode cX6_throwHits 0 = .ok (.aload_n 0, 1) := by decide +kernel
theorem dX6_throwHits_1 : decode cX6_throwHits 1 = .ok (.getfield 20, 3) := by decide +kernel
theorem dX6_throwHits_4 : decode cX6_throwHits 4 = .ok (.iload_n 1, 1) := by decide +kernel
theorem dX6_throwHits_5 : decode cX6_throwHits 5 = .ok (.iconst 0, 1) := by decide +kernel
theorem dX6_throwHits_6 : decode cX6_throwHits 6 = .ok (.invokevirtual 78, 3) := by decide +kernel
theorem dX6_throwHits_9 : decode cX6_throwHits 9 = .ok (.iload_n 2, 1) := by decide +kernel
theorem dX6_throwHits_10 : decode cX6_throwHits 10 = .ok (.invokestatic 122, 3) := by decide +kernel
theorem dX6_throwHits_13 : decode cX6_throwHits 13 = .ok (.ireturn, 1) := by decide +kernel
theorem dX6_isHere_0 : decode cX6_isHere 0 = .ok (.aload_n 0, 1) := by decide +kernel
theorem dX6_isHere_1 : decode cX6_isHere 1 = .ok (.getfield 23, 3) := by decide +kernel
theorem dX6_isHere_4 : decode cX6_isHere 4 = .ok (.iload_n 1, 1) := by decide +kernel
theorem dX6_isHere_5 : decode cX6_isHere 5 = .ok (.iconst 0, 1) := by decide +kernel
theorem dX6_isHere_6 : decode cX6_isHere 6 = .ok (.invokevirtual 78, 3) := by decide +kernel
theorem dX6_isHere_9 : decode cX6_isHere 9 = .ok (.ifCond .ne 7, 3) := by decide +kernel
theorem dX6_isHere_12 : decode cX6_isHere 12 = .ok (.iconst 1, 1) := by decide +kernel
theorem dX6_isHere_13 : decode cX6_isHere 13 = .ok (.goto 4, 3) := by decide +kernel
theorem dX6_isHere_16 : decode cX6_isHere 16 = .ok (.iconst 0, 1) := by decide +kernel
theorem dX6_isHere_17 : decode cX6_isHere 17 = .ok (.ireturn, 1) := by decide +kernel
theorem dX6_isTurned_0 : decode cX6_isTurned 0 = .ok (.aload_n 0, 1) := by decide +kernel
theorem dX6_isTurned_1 : decode cX6_isTurned 1 = .ok (.iload_n 1, 1) := by decide +kernel
theorem dX6_isTurned_2 : decode cX6_isTurned 2 = .ok (.invokevirtual 125, 3) := by decide +kernel
theorem dX6_isTurned_5 : decode cX6_isTurned 5 = .ok (.ifCond .gt 7, 3) := by decide +kernel
theorem dX6_isTurned_8 : decode cX6_isTurned 8 = .ok (.iconst 1, 1) := by decide +kernel
theorem dX6_isTurned_9 : decode cX6_isTurned 9 = .ok (.goto 4, 3) := by decide +kernel
theorem dX6_isTurned_12 : decode cX6_isTurned 12 = .ok (.iconst 0, 1) := by decide +kernel
theorem dX6_isTurned_13 : decode cX6_isTurned 13 = .ok (.ireturn, 1) := by decide +kernel
theorem dX6_needsYet_0 : decode cX6_needsYet 0 = .ok (.aload_n 0, 1) := by decide +kernel
theorem dX6_needsYet_1 : decode cX6_needsYet 1 = .ok (.getfield 23, 3) := by decide +kernel
theorem dX6_needsYet_4 : decode cX6_needsYet 4 = .ok (.iload_n 1, 1) := by decide +kernel
theorem dX6_needsYet_5 : decode cX6_needsYet 5 = .ok (.iconst 1, 1) := by decide +kernel
theorem dX6_needsYet_6 : decode cX6_needsYet 6 = .ok (.invokevirtual 78, 3) := by decide +kernel
theorem dX6_needsYet_9 : decode cX6_needsYet 9 = .ok (.aload_n 0, 1) := by decide +kernel
theorem dX6_needsYet_10 : decode cX6_needsYet 10 = .ok (.getfield 23, 3) := by decide +kernel
theorem dX6_needsYet_13 : decode cX6_needsYet 13 = .ok (.iload_n 1, 1) := by decide +kernel
theorem dX6_needsYet_14 : decode cX6_needsYet 14 = .ok (.iconst 2, 1) := by decide +kernel
theorem dX6_needsYet_15 : decode cX6_needsYet 15 = .ok (.invokevirtual 78, 3) := by decide +kernel
theorem dX6_needsYet_18 : decode cX6_needsYet 18 = .ok (.isub, 1) := by decide +kernel
theorem dX6_needsYet_19 : decode cX6_needsYet 19 = .ok (.ireturn, 1) := by decide +kernel
theorem dX6_turnedClouds_0 : decode cX6_turnedClouds 0 = .ok (.iconst 0, 1) := by decide +kernel
theorem dX6_turnedClouds_1 : decode cX6_turnedClouds 1 = .ok (.istore_n 1, 1) := by decide +kernel
theorem dX6_turnedClouds_2 : decode cX6_turnedClouds 2 = .ok (.iconst 0, 1) := by decide +kernel
theorem dX6_turnedClouds_3 : decode cX6_turnedClouds 3 = .ok (.istore_n 2, 1) := by decide +kernel
theorem dX6_turnedClouds_4 : decode cX6_turnedClouds 4 = .ok (.iload_n 2, 1) := by decide +kernel
theorem dX6_turnedClouds_5 : decode cX6_turnedClouds 5 = .ok (.aload_n 0, 1) := by decide +kernel
theorem dX6_turnedClouds_6 : decode cX6_turnedClouds 6 = .ok (.getfield 23, 3) := by decide +kernel
theorem dX6_turnedClouds_9 : decode cX6_turnedClouds 9 = .ok (.getfield 71, 3) := by decide +kernel
theorem dX6_turnedClouds_12 : decode cX6_turnedClouds 12 = .ok (.if_icmp .ge 20, 3) := by decide +kernel
theorem dX6_turnedClouds_15 : decode cX6_turnedClouds 15 = .ok (.aload_n 0, 1) := by decide +kernel
theorem dX6_turnedClouds_16 : decode cX6_turnedClouds 16 = .ok (.iload_n 2, 1) := by decide +kernel
theorem dX6_turnedClouds_17 : decode cX6_turnedClouds 17 = .ok (.invokevirtual 128, 3) := by decide +kernel
theorem dX6_turnedClouds_20 : decode cX6_turnedClouds 20 = .ok (.ifCond .eq 6, 3) := by decide +kernel
theorem dX6_turnedClouds_23 : decode cX6_turnedClouds 23 = .ok (.iinc 1 1, 3) := by decide +kernel
theorem dX6_turnedClouds_26 : decode cX6_turnedClouds 26 = .ok (.iinc 2 1, 3) := by decide +kernel
theorem dX6_turnedClouds_29 : decode cX6_turnedClouds 29 = .ok (.goto (-25), 3) := by decide +kernel
theorem dX6_turnedClouds_32 : decode cX6_turnedClouds 32 = .ok (.iload_n 1, 1) := by decide +kernel
theorem dX6_turnedClouds_33 : decode cX6_turnedClouds 33 = .ok (.ireturn, 1) := by decide +kernel
theorem dX6_reaches_0 : decode cX6_reaches 0 = .ok (.aload_n 0, 1) := by decide +kernel
theorem dX6_reaches_1 : decode cX6_reaches 1 = .ok (.iload_n 2, 1) := by decide +kernel
theorem dX6_reaches_2 : decode cX6_reaches 2 = .ok (.invokevirtual 131, 3) := by decide +kernel
theorem dX6_reaches_5 : decode cX6_reaches 5 = .ok (.ifCond .ne 27, 3) := by decide +kernel
theorem dX6_reaches_8 : decode cX6_reaches 8 = .ok (.aload_n 0, 1) := by decide +kernel
theorem dX6_reaches_9 : decode cX6_reaches 9 = .ok (.getfield 23, 3) := by decide +kernel
theorem dX6_reaches_12 : decode cX6_reaches 12 = .ok (.iload_n 2, 1) := by decide +kernel
theorem dX6_reaches_13 : decode cX6_reaches 13 = .ok (.iconst 0, 1) := by decide +kernel
theorem dX6_reaches_14 : decode cX6_reaches 14 = .ok (.invokevirtual 78, 3) := by decide +kernel
theorem dX6_reaches_17 : decode cX6_reaches 17 = .ok (.aload_n 0, 1) := by decide +kernel
theorem dX6_reaches_18 : decode cX6_reaches 18 = .ok (.iload_n 1, 1) := by decide +kernel
theorem dX6_reaches_19 : decode cX6_reaches 19 = .ok (.iload_n 3, 1) := by decide +kernel
theorem dX6_reaches_20 : decode cX6_reaches 20 = .ok (.iload 4, 2) := by decide +kernel
theorem dX6_reaches_22 : decode cX6_reaches 22 = .ok (.invokevirtual 134, 3) := by decide +kernel
theorem dX6_reaches_25 : decode cX6_reaches 25 = .ok (.if_icmp .gt 7, 3) := by decide +kernel
theorem dX6_reaches_28 : decode cX6_reaches 28 = .ok (.iconst 1, 1) := by decide +kernel
theorem dX6_reaches_29 : decode cX6_reaches 29 = .ok (.goto 4, 3) := by decide +kernel
theorem dX6_reaches_32 : decode cX6_reaches 32 = .ok (.iconst 0, 1) := by decide +kernel
theorem dX6_reaches_33 : decode cX6_reaches 33 = .ok (.ireturn, 1) := by decide +kernel
theorem dX6_hitsAt_0 : decode cX6_hitsAt 0 = .ok (.aload_n 0, 1) := by decide +kernel
theorem dX6_hitsAt_1 : decode cX6_hitsAt 1 = .ok (.iload_n 1, 1) := by decide +kernel
theorem dX6_hitsAt_2 : decode cX6_hitsAt 2 = .ok (.iload_n 2, 1) := by decide +kernel
theorem dX6_hitsAt_3 : decode cX6_hitsAt 3 = .ok (.iload_n 3, 1) := by decide +kernel
theorem dX6_hitsAt_4 : decode cX6_hitsAt 4 = .ok (.iload 4, 2) := by decide +kernel
theorem dX6_hitsAt_6 : decode cX6_hitsAt 6 = .ok (.invokevirtual 137, 3) := by decide +kernel
theorem dX6_hitsAt_9 : decode cX6_hitsAt 9 = .ok (.ifCond .eq 12, 3) := by decide +kernel
theorem dX6_hitsAt_12 : decode cX6_hitsAt 12 = .ok (.aload_n 0, 1) := by decide +kernel
theorem dX6_hitsAt_13 : decode cX6_hitsAt 13 = .ok (.iload_n 1, 1) := by decide +kernel
theorem dX6_hitsAt_14 : decode cX6_hitsAt 14 = .ok (.iload_n 3, 1) := by decide +kernel
theorem dX6_hitsAt_15 : decode cX6_hitsAt 15 = .ok (.invokevirtual 141, 3) := by decide +kernel
theorem dX6_hitsAt_18 : decode cX6_hitsAt 18 = .ok (.goto 4, 3) := by decide +kernel
theorem dX6_hitsAt_21 : decode cX6_hitsAt 21 = .ok (.iconst 0, 1) := by decide +kernel
theorem dX6_hitsAt_22 : decode cX6_hitsAt 22 = .ok (.ireturn, 1) := by decide +kernel
theorem dX6_throwStone_0 : decode cX6_throwStone 0 = .ok (.aload_n 0, 1) := by decide +kernel
theorem dX6_throwStone_1 : decode cX6_throwStone 1 = .ok (.iload_n 2, 1) := by decide +kernel
theorem dX6_throwStone_2 : decode cX6_throwStone 2 = .ok (.iload_n 3, 1) := by decide +kernel
theorem dX6_throwStone_3 : decode cX6_throwStone 3 = .ok (.iconst 0, 1) := by decide +kernel
theorem dX6_throwStone_4 : decode cX6_throwStone 4 = .ok (.aload_n 0, 1) := by decide +kernel
theorem dX6_throwStone_5 : decode cX6_throwStone 5 = .ok (.iload_n 2, 1) := by decide +kernel
theorem dX6_throwStone_6 : decode cX6_throwStone 6 = .ok (.iload_n 3, 1) := by decide +kernel
theorem dX6_throwStone_7 : decode cX6_throwStone 7 = .ok (.invokevirtual 93, 3) := by decide +kernel
theorem dX6_throwStone_10 : decode cX6_throwStone 10 = .ok (.iconst 1, 1) := by decide +kernel
theorem dX6_throwStone_11 : decode cX6_throwStone 11 = .ok (.isub, 1) := by decide +kernel
theorem dX6_throwStone_12 : decode cX6_throwStone 12 = .ok (.invokestatic 88, 3) := by decide +kernel
theorem dX6_throwStone_15 : decode cX6_throwStone 15 = .ok (.invokevirtual 144, 3) := by decide +kernel
theorem dX6_throwStone_18 : decode cX6_throwStone 18 = .ok (.aload_n 0, 1) := by decide +kernel
theorem dX6_throwStone_19 : decode cX6_throwStone 19 = .ok (.iload_n 2, 1) := by decide +kernel
theorem dX6_throwStone_20 : decode cX6_throwStone 20 = .ok (.invokevirtual 147, 3) := by decide +kernel
theorem dX6_throwStone_23 : decode cX6_throwStone 23 = .ok (.aload_n 0, 1) := by decide +kernel
theorem dX6_throwStone_24 : decode cX6_throwStone 24 = .ok (.iload_n 1, 1) := by decide +kernel
theorem dX6_throwStone_25 : decode cX6_throwStone 25 = .ok (.iload 4, 2) := by decide +kernel
theorem dX6_throwStone_27 : decode cX6_throwStone 27 = .ok (.iload_n 3, 1) := by decide +kernel
theorem dX6_throwStone_28 : decode cX6_throwStone 28 = .ok (.aload_n 0, 1) := by decide +kernel
theorem dX6_throwStone_29 : decode cX6_throwStone 29 = .ok (.getfield 42, 3) := by decide +kernel
theorem dX6_throwStone_32 : decode cX6_throwStone 32 = .ok (.invokevirtual 151, 3) := by decide +kernel
theorem dX6_throwStone_35 : decode cX6_throwStone 35 = .ok (.istore 5, 2) := by decide +kernel
theorem dX6_throwStone_37 : decode cX6_throwStone 37 = .ok (.aload_n 0, 1) := by decide +kernel
theorem dX6_throwStone_38 : decode cX6_throwStone 38 = .ok (.getfield 23, 3) := by decide +kernel
theorem dX6_throwStone_41 : decode cX6_throwStone 41 = .ok (.iload 4, 2) := by decide +kernel
theorem dX6_throwStone_43 : decode cX6_throwStone 43 = .ok (.iconst 2, 1) := by decide +kernel
theorem dX6_throwStone_44 : decode cX6_throwStone 44 = .ok (.bipush 40, 2) := by decide +kernel
theorem dX6_throwStone_46 : decode cX6_throwStone 46 = .ok (.aload_n 0, 1) := by decide +kernel
theorem dX6_throwStone_47 : decode cX6_throwStone 47 = .ok (.getfield 23, 3) := by decide +kernel
theorem dX6_throwStone_50 : decode cX6_throwStone 50 = .ok (.iload 4, 2) := by decide +kernel
theorem dX6_throwStone_52 : decode cX6_throwStone 52 = .ok (.iconst 2, 1) := by decide +kernel
theorem dX6_throwStone_53 : decode cX6_throwStone 53 = .ok (.invokevirtual 78, 3) := by decide +kernel
theorem dX6_throwStone_56 : decode cX6_throwStone 56 = .ok (.iload 5, 2) := by decide +kernel
theorem dX6_throwStone_58 : decode cX6_throwStone 58 = .ok (.iadd, 1) := by decide +kernel
theorem dX6_throwStone_59 : decode cX6_throwStone 59 = .ok (.invokestatic 154, 3) := by decide +kernel
theorem dX6_throwStone_62 : decode cX6_throwStone 62 = .ok (.invokevirtual 63, 3) := by decide +kernel
theorem dX6_throwStone_65 : decode cX6_throwStone 65 = .ok (.iload 5, 2) := by decide +kernel
theorem dX6_throwStone_67 : decode cX6_throwStone 67 = .ok (.ireturn, 1) := by decide +kernel
theorem dX6_passHour_0 : decode cX6_passHour 0 = .ok (.iconst 0, 1) := by decide +kernel
theorem dX6_passHour_1 : decode cX6_passHour 1 = .ok (.istore_n 1, 1) := by decide +kernel
theorem dX6_passHour_2 : decode cX6_passHour 2 = .ok (.iconst 0, 1) := by decide +kernel
theorem dX6_passHour_3 : decode cX6_passHour 3 = .ok (.istore_n 2, 1) := by decide +kernel
theorem dX6_passHour_4 : decode cX6_passHour 4 = .ok (.iload_n 2, 1) := by decide +kernel
theorem dX6_passHour_5 : decode cX6_passHour 5 = .ok (.aload_n 0, 1) := by decide +kernel
theorem dX6_passHour_6 : decode cX6_passHour 6 = .ok (.getfield 23, 3) := by decide +kernel
theorem dX6_passHour_9 : decode cX6_passHour 9 = .ok (.getfield 71, 3) := by decide +kernel
theorem dX6_passHour_12 : decode cX6_passHour 12 = .ok (.if_icmp .ge 52, 3) := by decide +kernel
theorem dX6_passHour_15 : decode cX6_passHour 15 = .ok (.aload_n 0, 1) := by decide +kernel
theorem dX6_passHour_16 : decode cX6_passHour 16 = .ok (.iload_n 2, 1) := by decide +kernel
theorem dX6_passHour_17 : decode cX6_passHour 17 = .ok (.invokevirtual 128, 3) := by decide +kernel
theorem dX6_passHour_20 : decode cX6_passHour 20 = .ok (.ifCond .ne 27, 3) := by decide +kernel
theorem dX6_passHour_23 : decode cX6_passHour 23 = .ok (.aload_n 0, 1) := by decide +kernel
theorem dX6_passHour_24 : decode cX6_passHour 24 = .ok (.getfield 23, 3) := by decide +kernel
theorem dX6_passHour_27 : decode cX6_passHour 27 = .ok (.iload_n 2, 1) := by decide +kernel
theorem dX6_passHour_28 : decode cX6_passHour 28 = .ok (.iconst 0, 1) := by decide +kernel
theorem dX6_passHour_29 : decode cX6_passHour 29 = .ok (.iconst 0, 1) := by decide +kernel
theorem dX6_passHour_30 : decode cX6_passHour 30 = .ok (.aload_n 0, 1) := by decide +kernel
theorem dX6_passHour_31 : decode cX6_passHour 31 = .ok (.getfield 23, 3) := by decide +kernel
theorem dX6_passHour_34 : decode cX6_passHour 34 = .ok (.iload_n 2, 1) := by decide +kernel
theorem dX6_passHour_35 : decode cX6_passHour 35 = .ok (.iconst 0, 1) := by decide +kernel
theorem dX6_passHour_36 : decode cX6_passHour 36 = .ok (.invokevirtual 78, 3) := by decide +kernel
theorem dX6_passHour_39 : decode cX6_passHour 39 = .ok (.iconst 1, 1) := by decide +kernel
theorem dX6_passHour_40 : decode cX6_passHour 40 = .ok (.isub, 1) := by decide +kernel
theorem dX6_passHour_41 : decode cX6_passHour 41 = .ok (.invokestatic 88, 3) := by decide +kernel
theorem dX6_passHour_44 : decode cX6_passHour 44 = .ok (.invokevirtual 63, 3) := by decide +kernel
theorem dX6_passHour_47 : decode cX6_passHour 47 = .ok (.aload_n 0, 1) := by decide +kernel
theorem dX6_passHour_48 : decode cX6_passHour 48 = .ok (.iload_n 2, 1) := by decide +kernel
theorem dX6_passHour_49 : decode cX6_passHour 49 = .ok (.invokevirtual 131, 3) := by decide +kernel
theorem dX6_passHour_52 : decode cX6_passHour 52 = .ok (.ifCond .eq 6, 3) := by decide +kernel
theorem dX6_passHour_55 : decode cX6_passHour 55 = .ok (.iinc 1 1, 3) := by decide +kernel
theorem dX6_passHour_58 : decode cX6_passHour 58 = .ok (.iinc 2 1, 3) := by decide +kernel
theorem dX6_passHour_61 : decode cX6_passHour 61 = .ok (.goto (-57), 3) := by decide +kernel
theorem dX6_passHour_64 : decode cX6_passHour 64 = .ok (.iload_n 1, 1) := by decide +kernel
theorem dX6_passHour_65 : decode cX6_passHour 65 = .ok (.ireturn, 1) := by decide +kernel
theorem dX7_init_0 : decode cX7_init 0 = .ok (.aload_n 0, 1) := by decide +kernel
theorem dX7_init_1 : decode cX7_init 1 = .ok (.invokespecial 1, 3) := by decide +kernel
theorem dX7_init_4 : decode cX7_init 4 = .ok (.aload_n 0, 1) := by decide +kernel
theorem dX7_init_5 : decode cX7_init 5 = .ok (.new 7, 3) := by decide +kernel
theorem dX7_init_8 : decode cX7_init 8 = .ok (.dup, 1) := by decide +kernel
theorem dX7_init_9 : decode cX7_init 9 = .ok (.invokespecial 9, 3) := by decide +kernel
theorem dX7_init_12 : decode cX7_init 12 = .ok (.putfield 10, 3) := by decide +kernel
theorem dX7_init_15 : decode cX7_init 15 = .ok (.aload_n 0, 1) := by decide +kernel
theorem dX7_init_16 : decode cX7_init 16 = .ok (.new 7, 3) := by decide +kernel
theorem dX7_init_19 : decode cX7_init 19 = .ok (.dup, 1) := by decide +kernel
theorem dX7_init_20 : decode cX7_init 20 = .ok (.invokespecial 9, 3) := by decide +kernel
theorem dX7_init_23 : decode cX7_init 23 = .ok (.putfield 16, 3) := by decide +kernel
theorem dX7_init_26 : decode cX7_init 26 = .ok (.aload_n 0, 1) := by decide +kernel
theorem dX7_init_27 : decode cX7_init 27 = .ok (.new 7, 3) := by decide +kernel
theorem dX7_init_30 : decode cX7_init 30 = .ok (.dup, 1) := by decide +kernel
theorem dX7_init_31 : decode cX7_init 31 = .ok (.invokespecial 9, 3) := by decide +kernel
theorem dX7_init_34 : decode cX7_init 34 = .ok (.putfield 19, 3) := by decide +kernel
theorem dX7_init_37 : decode cX7_init 37 = .ok (.aload_n 0, 1) := by decide +kernel
theorem dX7_init_38 : decode cX7_init 38 = .ok (.new 7, 3) := by decide +kernel
theorem dX7_init_41 : decode cX7_init 41 = .ok (.dup, 1) := by decide +kernel
theorem dX7_init_42 : decode cX7_init 42 = .ok (.invokespecial 9, 3) := by decide +kernel
theorem dX7_init_45 : decode cX7_init 45 = .ok (.putfield 22, 3) := by decide +kernel
theorem dX7_init_48 : decode cX7_init 48 = .ok (.aload_n 0, 1) := by decide +kernel
theorem dX7_init_49 : decode cX7_init 49 = .ok (.new 25, 3) := by decide +kernel
theorem dX7_init_52 : decode cX7_init 52 = .ok (.dup, 1) := by decide +kernel
theorem dX7_init_53 : decode cX7_init 53 = .ok (.aload_n 0, 1) := by decide +kernel
theorem dX7_init_54 : decode cX7_init 54 = .ok (.getfield 22, 3) := by decide +kernel
theorem dX7_init_57 : decode cX7_init 57 = .ok (.invokespecial 27, 3) := by decide +kernel
theorem dX7_init_60 : decode cX7_init 60 = .ok (.putfield 30, 3) := by decide +kernel
theorem dX7_init_63 : decode cX7_init 63 = .ok (.aload_n 0, 1) := by decide +kernel
theorem dX7_init_64 : decode cX7_init 64 = .ok (.new 34, 3) := by decide +kernel
theorem dX7_init_67 : decode cX7_init 67 = .ok (.dup, 1) := by decide +kernel
theorem dX7_init_68 : decode cX7_init 68 = .ok (.aload_n 0, 1) := by decide +kernel
theorem dX7_init_69 : decode cX7_init 69 = .ok (.getfield 10, 3) := by decide +kernel
theorem dX7_init_72 : decode cX7_init 72 = .ok (.invokespecial 36, 3) := by decide +kernel
theorem dX7_init_75 : decode cX7_init 75 = .ok (.putfield 37, 3) := by decide +kernel
theorem dX7_init_78 : decode cX7_init 78 = .ok (.aload_n 0, 1) := by decide +kernel
theorem dX7_init_79 : decode cX7_init 79 = .ok (.new 41, 3) := by decide +kernel
theorem dX7_init_82 : decode cX7_init 82 = .ok (.dup, 1) := by decide +kernel
theorem dX7_init_83 : decode cX7_init 83 = .ok (.aload_n 0, 1) := by decide +kernel
theorem dX7_init_84 : decode cX7_init 84 = .ok (.getfield 10, 3) := by decide +kernel
theorem dX7_init_87 : decode cX7_init 87 = .ok (.invokespecial 43, 3) := by decide +kernel
theorem dX7_init_90 : decode cX7_init 90 = .ok (.putfield 44, 3) := by decide +kernel
theorem dX7_init_93 : decode cX7_init 93 = .ok (.aload_n 0, 1) := by decide +kernel
theorem dX7_init_94 : decode cX7_init 94 = .ok (.new 48, 3) := by decide +kernel
theorem dX7_init_97 : decode cX7_init 97 = .ok (.dup, 1) := by decide +kernel
theorem dX7_init_98 : decode cX7_init 98 = .ok (.aload_n 0, 1) := by decide +kernel
