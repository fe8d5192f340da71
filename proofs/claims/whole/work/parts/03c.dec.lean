theorem dX8_throwing_73 : decode cX8_throwing 73 = .ok (.invokevirtual 229, 3) := by decide +kernel
theorem dX8_throwing_76 : decode cX8_throwing 76 = .ok (.ireturn, 1) := by decide +kernel
theorem dX8_throwing_77 : decode cX8_throwing 77 = .ok (.aload_n 0, 1) := by decide +kernel
theorem dX8_throwing_78 : decode cX8_throwing 78 = .ok (.invokevirtual 211, 3) := by decide +kernel
theorem dX8_throwing_81 : decode cX8_throwing 81 = .ok (.aload_n 0, 1) := by decide +kernel
theorem dX8_throwing_82 : decode cX8_throwing 82 = .ok (.getfield 7, 3) := by decide +kernel
theorem dX8_throwing_85 : decode cX8_throwing 85 = .ok (.bipush 18, 2) := by decide +kernel
theorem dX8_throwing_87 : decode cX8_throwing 87 = .ok (.bipush 10, 2) := by decide +kernel
theorem dX8_throwing_89 : decode cX8_throwing 89 = .ok (.iload_n 2, 1) := by decide +kernel
theorem dX8_throwing_90 : decode cX8_throwing 90 = .ok (.imul, 1) := by decide +kernel
theorem dX8_throwing_91 : decode cX8_throwing 91 = .ok (.iadd, 1) := by decide +kernel
theorem dX8_throwing_92 : decode cX8_throwing 92 = .ok (.iload_n 3, 1) := by decide +kernel
theorem dX8_throwing_93 : decode cX8_throwing 93 = .ok (.iadd, 1) := by decide +kernel
theorem dX8_throwing_94 : decode cX8_throwing 94 = .ok (.dup2, 1) := by decide +kernel
theorem dX8_throwing_95 : decode cX8_throwing 95 = .ok (.iaload, 1) := by decide +kernel
theorem dX8_throwing_96 : decode cX8_throwing 96 = .ok (.iconst 1, 1) := by decide +kernel
theorem dX8_throwing_97 : decode cX8_throwing 97 = .ok (.isub, 1) := by decide +kernel
theorem dX8_throwing_98 : decode cX8_throwing 98 = .ok (.iastore, 1) := by decide +kernel
theorem dX8_throwing_99 : decode cX8_throwing 99 = .ok (.aload_n 0, 1) := by decide +kernel
theorem dX8_throwing_100 : decode cX8_throwing 100 = .ok (.iload_n 2, 1) := by decide +kernel
theorem dX8_throwing_101 : decode cX8_throwing 101 = .ok (.invokevirtual 220, 3) := by decide +kernel
theorem dX8_throwing_104 : decode cX8_throwing 104 = .ok (.aload_n 0, 1) := by decide +kernel
theorem dX8_throwing_105 : decode cX8_throwing 105 = .ok (.iload_n 1, 1) := by decide +kernel
theorem dX8_throwing_106 : decode cX8_throwing 106 = .ok (.iload_n 3, 1) := by decide +kernel
theorem dX8_throwing_107 : decode cX8_throwing 107 = .ok (.iload 4, 2) := by decide +kernel
theorem dX8_throwing_109 : decode cX8_throwing 109 = .ok (.aload_n 0, 1) := by decide +kernel
theorem dX8_throwing_110 : decode cX8_throwing 110 = .ok (.getfield 7, 3) := by decide +kernel
theorem dX8_throwing_113 : decode cX8_throwing 113 = .ok (.iconst 4, 1) := by decide +kernel
theorem dX8_throwing_114 : decode cX8_throwing 114 = .ok (.iaload, 1) := by decide +kernel
theorem dX8_throwing_115 : decode cX8_throwing 115 = .ok (.invokevirtual 232, 3) := by decide +kernel
theorem dX8_throwing_118 : decode cX8_throwing 118 = .ok (.ifCond .ne 5, 3) := by decide +kernel
theorem dX8_throwing_121 : decode cX8_throwing 121 = .ok (.iconst 0, 1) := by decide +kernel
theorem dX8_throwing_122 : decode cX8_throwing 122 = .ok (.ireturn, 1) := by decide +kernel
theorem dX8_throwing_123 : decode cX8_throwing 123 = .ok (.aload_n 0, 1) := by decide +kernel
theorem dX8_throwing_124 : decode cX8_throwing 124 = .ok (.iload_n 1, 1) := by decide +kernel
theorem dX8_throwing_125 : decode cX8_throwing 125 = .ok (.iload_n 3, 1) := by decide +kernel
theorem dX8_throwing_126 : decode cX8_throwing 126 = .ok (.invokevirtual 236, 3) := by decide +kernel
theorem dX8_throwing_129 : decode cX8_throwing 129 = .ok (.istore 5, 2) := by decide +kernel
theorem dX8_throwing_131 : decode cX8_throwing 131 = .ok (.aload_n 0, 1) := by decide +kernel
theorem dX8_throwing_132 : decode cX8_throwing 132 = .ok (.getfield 7, 3) := by decide +kernel
theorem dX8_throwing_135 : decode cX8_throwing 135 = .ok (.bipush 88, 2) := by decide +kernel
theorem dX8_throwing_137 : decode cX8_throwing 137 = .ok (.iload 4, 2) := by decide +kernel
theorem dX8_throwing_139 : decode cX8_throwing 139 = .ok (.iadd, 1) := by decide +kernel
theorem dX8_throwing_140 : decode cX8_throwing 140 = .ok (.aload_n 0, 1) := by decide +kernel
theorem dX8_throwing_141 : decode cX8_throwing 141 = .ok (.getfield 7, 3) := by decide +kernel
theorem dX8_throwing_144 : decode cX8_throwing 144 = .ok (.bipush 88, 2) := by decide +kernel
theorem dX8_throwing_146 : decode cX8_throwing 146 = .ok (.iload 4, 2) := by decide +kernel
theorem dX8_throwing_148 : decode cX8_throwing 148 = .ok (.iadd, 1) := by decide +kernel
theorem dX8_throwing_149 : decode cX8_throwing 149 = .ok (.iaload, 1) := by decide +kernel
theorem dX8_throwing_150 : decode cX8_throwing 150 = .ok (.iload 5, 2) := by decide +kernel
theorem dX8_throwing_152 : decode cX8_throwing 152 = .ok (.iadd, 1) := by decide +kernel
theorem dX8_throwing_153 : decode cX8_throwing 153 = .ok (.bipush 40, 2) := by decide +kernel
theorem dX8_throwing_155 : decode cX8_throwing 155 = .ok (.if_icmp .ge 19, 3) := by decide +kernel
theorem dX8_throwing_158 : decode cX8_throwing 158 = .ok (.aload_n 0, 1) := by decide +kernel
theorem dX8_throwing_159 : decode cX8_throwing 159 = .ok (.getfield 7, 3) := by decide +kernel
theorem dX8_throwing_162 : decode cX8_throwing 162 = .ok (.bipush 88, 2) := by decide +kernel
theorem dX8_throwing_164 : decode cX8_throwing 164 = .ok (.iload 4, 2) := by decide +kernel
theorem dX8_throwing_166 : decode cX8_throwing 166 = .ok (.iadd, 1) := by decide +kernel
theorem dX8_throwing_167 : decode cX8_throwing 167 = .ok (.iaload, 1) := by decide +kernel
theorem dX8_throwing_168 : decode cX8_throwing 168 = .ok (.iload 5, 2) := by decide +kernel
theorem dX8_throwing_170 : decode cX8_throwing 170 = .ok (.iadd, 1) := by decide +kernel
theorem dX8_throwing_171 : decode cX8_throwing 171 = .ok (.goto 5, 3) := by decide +kernel
theorem dX8_throwing_174 : decode cX8_throwing 174 = .ok (.bipush 40, 2) := by decide +kernel
theorem dX8_throwing_176 : decode cX8_throwing 176 = .ok (.iastore, 1) := by decide +kernel
theorem dX8_throwing_177 : decode cX8_throwing 177 = .ok (.iload 5, 2) := by decide +kernel
theorem dX8_throwing_179 : decode cX8_throwing 179 = .ok (.ireturn, 1) := by decide +kernel
theorem dX8_hour_0 : decode cX8_hour 0 = .ok (.aload_n 0, 1) := by decide +kernel
theorem dX8_hour_1 : decode cX8_hour 1 = .ok (.invokevirtual 211, 3) := by decide +kernel
theorem dX8_hour_4 : decode cX8_hour 4 = .ok (.iconst 0, 1) := by decide +kernel
theorem dX8_hour_5 : decode cX8_hour 5 = .ok (.istore_n 1, 1) := by decide +kernel
theorem dX8_hour_6 : decode cX8_hour 6 = .ok (.iconst 0, 1) := by decide +kernel
theorem dX8_hour_7 : decode cX8_hour 7 = .ok (.istore_n 2, 1) := by decide +kernel
theorem dX8_hour_8 : decode cX8_hour 8 = .ok (.iload_n 2, 1) := by decide +kernel
theorem dX8_hour_9 : decode cX8_hour 9 = .ok (.aload_n 0, 1) := by decide +kernel
theorem dX8_hour_10 : decode cX8_hour 10 = .ok (.getfield 7, 3) := by decide +kernel
theorem dX8_hour_13 : decode cX8_hour 13 = .ok (.iconst 2, 1) := by decide +kernel
theorem dX8_hour_14 : decode cX8_hour 14 = .ok (.iaload, 1) := by decide +kernel
theorem dX8_hour_15 : decode cX8_hour 15 = .ok (.if_icmp .ge 66, 3) := by decide +kernel
theorem dX8_hour_18 : decode cX8_hour 18 = .ok (.aload_n 0, 1) := by decide +kernel
theorem dX8_hour_19 : decode cX8_hour 19 = .ok (.getfield 7, 3) := by decide +kernel
theorem dX8_hour_22 : decode cX8_hour 22 = .ok (.bipush 80, 2) := by decide +kernel
theorem dX8_hour_24 : decode cX8_hour 24 = .ok (.iload_n 2, 1) := by decide +kernel
theorem dX8_hour_25 : decode cX8_hour 25 = .ok (.iadd, 1) := by decide +kernel
theorem dX8_hour_26 : decode cX8_hour 26 = .ok (.dup2, 1) := by decide +kernel
theorem dX8_hour_27 : decode cX8_hour 27 = .ok (.iaload, 1) := by decide +kernel
theorem dX8_hour_28 : decode cX8_hour 28 = .ok (.aload_n 0, 1) := by decide +kernel
theorem dX8_hour_29 : decode cX8_hour 29 = .ok (.iload_n 2, 1) := by decide +kernel
theorem dX8_hour_30 : decode cX8_hour 30 = .ok (.invokevirtual 239, 3) := by decide +kernel
theorem dX8_hour_33 : decode cX8_hour 33 = .ok (.ifCond .ne 19, 3) := by decide +kernel
theorem dX8_hour_36 : decode cX8_hour 36 = .ok (.aload_n 0, 1) := by decide +kernel
theorem dX8_hour_37 : decode cX8_hour 37 = .ok (.getfield 7, 3) := by decide +kernel
theorem dX8_hour_40 : decode cX8_hour 40 = .ok (.bipush 80, 2) := by decide +kernel
theorem dX8_hour_42 : decode cX8_hour 42 = .ok (.iload_n 2, 1) := by decide +kernel
theorem dX8_hour_43 : decode cX8_hour 43 = .ok (.iadd, 1) := by decide +kernel
theorem dX8_hour_44 : decode cX8_hour 44 = .ok (.iaload, 1) := by decide +kernel
theorem dX8_hour_45 : decode cX8_hour 45 = .ok (.ifCond .le 7, 3) := by decide +kernel
theorem dX8_hour_48 : decode cX8_hour 48 = .ok (.iconst 1, 1) := by decide +kernel
theorem dX8_hour_49 : decode cX8_hour 49 = .ok (.goto 4, 3) := by decide +kernel
theorem dX8_hour_52 : decode cX8_hour 52 = .ok (.iconst 0, 1) := by decide +kernel
theorem dX8_hour_53 : decode cX8_hour 53 = .ok (.isub, 1) := by decide +kernel
theorem dX8_hour_54 : decode cX8_hour 54 = .ok (.iastore, 1) := by decide +kernel
theorem dX8_hour_55 : decode cX8_hour 55 = .ok (.iload_n 1, 1) := by decide +kernel
theorem dX8_hour_56 : decode cX8_hour 56 = .ok (.aload_n 0, 1) := by decide +kernel
theorem dX8_hour_57 : decode cX8_hour 57 = .ok (.getfield 7, 3) := by decide +kernel
theorem dX8_hour_60 : decode cX8_hour 60 = .ok (.bipush 80, 2) := by decide +kernel
theorem dX8_hour_62 : decode cX8_hour 62 = .ok (.iload_n 2, 1) := by decide +kernel
theorem dX8_hour_63 : decode cX8_hour 63 = .ok (.iadd, 1) := by decide +kernel
theorem dX8_hour_64 : decode cX8_hour 64 = .ok (.iaload, 1) := by decide +kernel
theorem dX8_hour_65 : decode cX8_hour 65 = .ok (.ifCond .ne 7, 3) := by decide +kernel
theorem dX8_hour_68 : decode cX8_hour 68 = .ok (.iconst 1, 1) := by decide +kernel
theorem dX8_hour_69 : decode cX8_hour 69 = .ok (.goto 4, 3) := by decide +kernel
theorem dX8_hour_72 : decode cX8_hour 72 = .ok (.iconst 0, 1) := by decide +kernel
theorem dX8_hour_73 : decode cX8_hour 73 = .ok (.iadd, 1) := by decide +kernel
theorem dX8_hour_74 : decode cX8_hour 74 = .ok (.istore_n 1, 1) := by decide +kernel
theorem dX8_hour_75 : decode cX8_hour 75 = .ok (.iinc 2 1, 3) := by decide +kernel
theorem dX8_hour_78 : decode cX8_hour 78 = .ok (.goto (-70), 3) := by decide +kernel
theorem dX8_hour_81 : decode cX8_hour 81 = .ok (.iload_n 1, 1) := by decide +kernel
theorem dX8_hour_82 : decode cX8_hour 82 = .ok (.ireturn, 1) := by decide +kernel
theorem dX8_wind_0 : decode cX8_wind 0 = .ok (.iload_n 1, 1) := by decide +kernel
theorem dX8_wind_1 : decode cX8_wind 1 = .ok (.i2l, 1) := by decide +kernel
theorem dX8_wind_2 : decode cX8_wind 2 = .ok (.lconst 0, 1) := by decide +kernel
theorem dX8_wind_3 : decode cX8_wind 3 = .ok (.ldc2_w 101, 3) := by decide +kernel
theorem dX8_wind_6 : decode cX8_wind 6 = .ok (.invokestatic 60, 3) := by decide +kernel
theorem dX8_wind_9 : decode cX8_wind 9 = .ok (.ifCond .ne 8, 3) := by decide +kernel
theorem dX8_wind_12 : decode cX8_wind 12 = .ok (.aload_n 0, 1) := by decide +kernel
theorem dX8_wind_13 : decode cX8_wind 13 = .ok (.invokevirtual 103, 3) := by decide +kernel
theorem dX8_wind_16 : decode cX8_wind 16 = .ok (.ireturn, 1) := by decide +kernel
theorem dX8_wind_17 : decode cX8_wind 17 = .ok (.aload_n 0, 1) := by decide +kernel
theorem dX8_wind_18 : decode cX8_wind 18 = .ok (.invokevirtual 211, 3) := by decide +kernel
theorem dX8_wind_21 : decode cX8_wind 21 = .ok (.aload_n 0, 1) := by decide +kernel
theorem dX8_wind_22 : decode cX8_wind 22 = .ok (.getfield 7, 3) := by decide +kernel
theorem dX8_wind_25 : decode cX8_wind 25 = .ok (.iconst 4, 1) := by decide +kernel
theorem dX8_wind_26 : decode cX8_wind 26 = .ok (.iaload, 1) := by decide +kernel
theorem dX8_wind_27 : decode cX8_wind 27 = .ok (.istore_n 2, 1) := by decide +kernel
theorem dX8_wind_28 : decode cX8_wind 28 = .ok (.aload_n 0, 1) := by decide +kernel
theorem dX8_wind_29 : decode cX8_wind 29 = .ok (.getfield 7, 3) := by decide +kernel
theorem dX8_wind_32 : decode cX8_wind 32 = .ok (.iconst 4, 1) := by decide +kernel
theorem dX8_wind_33 : decode cX8_wind 33 = .ok (.iload_n 1, 1) := by decide +kernel
theorem dX8_wind_34 : decode cX8_wind 34 = .ok (.iastore, 1) := by decide +kernel
theorem dX8_wind_35 : decode cX8_wind 35 = .ok (.iload_n 2, 1) := by decide +kernel
theorem dX8_wind_36 : decode cX8_wind 36 = .ok (.ireturn, 1) := by decide +kernel
theorem dX8_undo_0 : decode cX8_undo 0 = .ok (.aload_n 0, 1) := by decide +kernel
theorem dX8_undo_1 : decode cX8_undo 1 = .ok (.getfield 94, 3) := by decide +kernel
theorem dX8_undo_4 : decode cX8_undo 4 = .ok (.ifCond .ne 8, 3) := by decide +kernel
theorem dX8_undo_7 : decode cX8_undo 7 = .ok (.aload_n 0, 1) := by decide +kernel
theorem dX8_undo_8 : decode cX8_undo 8 = .ok (.invokevirtual 229, 3) := by decide +kernel
theorem dX8_undo_11 : decode cX8_undo 11 = .ok (.ireturn, 1) := by decide +kernel
theorem dX8_undo_12 : decode cX8_undo 12 = .ok (.aload_n 0, 1) := by decide +kernel
theorem dX8_undo_13 : decode cX8_undo 13 = .ok (.dup, 1) := by decide +kernel
theorem dX8_undo_14 : decode cX8_undo 14 = .ok (.getfield 94, 3) := by decide +kernel
theorem dX8_undo_17 : decode cX8_undo 17 = .ok (.iconst 1, 1) := by decide +kernel
theorem dX8_undo_18 : decode cX8_undo 18 = .ok (.isub, 1) := by decide +kernel
theorem dX8_undo_19 : decode cX8_undo 19 = .ok (.putfield 94, 3) := by decide +kernel
theorem dX8_undo_22 : decode cX8_undo 22 = .ok (.iconst 0, 1) := by decide +kernel
theorem dX8_undo_23 : decode cX8_undo 23 = .ok (.istore_n 1, 1) := by decide +kernel
theorem dX8_undo_24 : decode cX8_undo 24 = .ok (.iload_n 1, 1) := by decide +kernel
theorem dX8_undo_25 : decode cX8_undo 25 = .ok (.bipush 60, 2) := by decide +kernel
theorem dX8_undo_27 : decode cX8_undo 27 = .ok (.if_icmp .ge 32, 3) := by decide +kernel
theorem dX8_undo_30 : decode cX8_undo 30 = .ok (.aload_n 0, 1) := by decide +kernel
theorem dX8_undo_31 : decode cX8_undo 31 = .ok (.getfield 7, 3) := by decide +kernel
theorem dX8_undo_34 : decode cX8_undo 34 = .ok (.iload_n 1, 1) := by decide +kernel
theorem dX8_undo_35 : decode cX8_undo 35 = .ok (.invokestatic 98, 3) := by decide +kernel
theorem dX8_undo_38 : decode cX8_undo 38 = .ok (.aload_n 0, 1) := by decide +kernel
theorem dX8_undo_39 : decode cX8_undo 39 = .ok (.getfield 20, 3) := by decide +kernel
theorem dX8_undo_42 : decode cX8_undo 42 = .ok (.bipush 60, 2) := by decide +kernel
theorem dX8_undo_44 : decode cX8_undo 44 = .ok (.aload_n 0, 1) := by decide +kernel
theorem dX8_undo_45 : decode cX8_undo 45 = .ok (.getfield 94, 3) := by decide +kernel
theorem dX8_undo_48 : decode cX8_undo 48 = .ok (.imul, 1) := by decide +kernel
theorem dX8_undo_49 : decode cX8_undo 49 = .ok (.iload_n 1, 1) := by decide +kernel
theorem dX8_undo_50 : decode cX8_undo 50 = .ok (.iadd, 1) := by decide +kernel
theorem dX8_undo_51 : decode cX8_undo 51 = .ok (.iaload, 1) := by decide +kernel
theorem dX8_undo_52 : decode cX8_undo 52 = .ok (.iastore, 1) := by decide +kernel
theorem dX8_undo_53 : decode cX8_undo 53 = .ok (.iinc 1 1, 3) := by decide +kernel
theorem dX8_undo_56 : decode cX8_undo 56 = .ok (.goto (-32), 3) := by decide +kernel
theorem dX8_undo_59 : decode cX8_undo 59 = .ok (.aload_n 0, 1) := by decide +kernel
theorem dX8_undo_60 : decode cX8_undo 60 = .ok (.getfield 7, 3) := by decide +kernel
theorem dX8_undo_63 : decode cX8_undo 63 = .ok (.iconst 3, 1) := by decide +kernel
theorem dX8_undo_64 : decode cX8_undo 64 = .ok (.iaload, 1) := by decide +kernel
theorem dX8_undo_65 : decode cX8_undo 65 = .ok (.ireturn, 1) := by decide +kernel
theorem dX8_of_0 : decode cX8_of 0 = .ok (.aload_n 0, 1) := by decide +kernel
theorem dX8_of_1 : decode cX8_of 1 = .ok (.iload_n 1, 1) := by decide +kernel
theorem dX8_of_2 : decode cX8_of 2 = .ok (.invokevirtual 116, 3) := by decide +kernel
theorem dX8_of_5 : decode cX8_of 5 = .ok (.ifCond .eq 15, 3) := by decide +kernel
theorem dX8_of_8 : decode cX8_of 8 = .ok (.iload_n 2, 1) := by decide +kernel
theorem dX8_of_9 : decode cX8_of 9 = .ok (.i2l, 1) := by decide +kernel
theorem dX8_of_10 : decode cX8_of 10 = .ok (.lconst 0, 1) := by decide +kernel
theorem dX8_of_11 : decode cX8_of 11 = .ok (.ldc2_w 242, 3) := by decide +kernel
theorem dX8_of_14 : decode cX8_of 14 = .ok (.invokestatic 60, 3) := by decide +kernel
theorem dX8_of_17 : decode cX8_of 17 = .ok (.ifCond .ne 8, 3) := by decide +kernel
theorem dX8_of_20 : decode cX8_of 20 = .ok (.aload_n 0, 1) := by decide +kernel
theorem dX8_of_21 : decode cX8_of 21 = .ok (.invokevirtual 103, 3) := by decide +kernel
theorem dX8_of_24 : decode cX8_of 24 = .ok (.ireturn, 1) := by decide +kernel
theorem dX8_of_25 : decode cX8_of 25 = .ok (.iload_n 2, 1) := by decide +kernel
theorem dX8_of_26 : decode cX8_of 26 = .ok (.ifCond .ne 15, 3) := by decide +kernel
theorem dX8_of_29 : decode cX8_of 29 = .ok (.aload_n 0, 1) := by decide +kernel
theorem dX8_of_30 : decode cX8_of 30 = .ok (.getfield 7, 3) := by decide +kernel
theorem dX8_of_33 : decode cX8_of 33 = .ok (.bipush 8, 2) := by decide +kernel
theorem dX8_of_35 : decode cX8_of 35 = .ok (.iload_n 1, 1) := by decide +kernel
theorem dX8_of_36 : decode cX8_of 36 = .ok (.iadd, 1) := by decide +kernel
theorem dX8_of_37 : decode cX8_of 37 = .ok (.iaload, 1) := by decide +kernel
theorem dX8_of_38 : decode cX8_of 38 = .ok (.goto 54, 3) := by decide +kernel
theorem dX8_of_41 : decode cX8_of 41 = .ok (.iload_n 2, 1) := by decide +kernel
theorem dX8_of_42 : decode cX8_of 42 = .ok (.iconst 1, 1) := by decide +kernel
theorem dX8_of_43 : decode cX8_of 43 = .ok (.if_icmp .ne 15, 3) := by decide +kernel
theorem dX8_of_46 : decode cX8_of 46 = .ok (.aload_n 0, 1) := by decide +kernel
theorem dX8_of_47 : decode cX8_of 47 = .ok (.getfield 7, 3) := by decide +kernel
theorem dX8_of_50 : decode cX8_of 50 = .ok (.bipush 13, 2) := by decide +kernel
theorem dX8_of_52 : decode cX8_of 52 = .ok (.iload_n 1, 1) := by decide +kernel
theorem dX8_of_53 : decode cX8_of 53 = .ok (.iadd, 1) := by decide +kernel
theorem dX8_of_54 : decode cX8_of 54 = .ok (.iaload, 1) := by decide +kernel
theorem dX8_of_55 : decode cX8_of 55 = .ok (.goto 37, 3) := by decide +kernel
theorem dX8_of_58 : decode cX8_of 58 = .ok (.iload_n 2, 1) := by decide +kernel
theorem dX8_of_59 : decode cX8_of 59 = .ok (.iconst 2, 1) := by decide +kernel
theorem dX8_of_60 : decode cX8_of 60 = .ok (.if_icmp .ne 18, 3) := by decide +kernel
theorem dX8_of_63 : decode cX8_of 63 = .ok (.aload_n 0, 1) := by decide +kernel
theorem dX8_of_64 : decode cX8_of 64 = .ok (.getfield 7, 3) := by decide +kernel
theorem dX8_of_67 : decode cX8_of 67 = .ok (.bipush 8, 2) := by decide +kernel
theorem dX8_of_69 : decode cX8_of 69 = .ok (.iload_n 1, 1) := by decide +kernel
theorem dX8_of_70 : decode cX8_of 70 = .ok (.iadd, 1) := by decide +kernel
theorem dX8_of_71 : decode cX8_of 71 = .ok (.iaload, 1) := by decide +kernel
theorem dX8_of_72 : decode cX8_of 72 = .ok (.invokestatic 217, 3) := by decide +kernel
theorem dX8_of_75 : decode cX8_of 75 = .ok (.goto 17, 3) := by decide +kernel
theorem dX8_of_78 : decode cX8_of 78 = .ok (.aload_n 0, 1) := by decide +kernel
theorem dX8_of_79 : decode cX8_of 79 = .ok (.getfield 7, 3) := by decide +kernel
theorem dX8_of_82 : decode cX8_of 82 = .ok (.bipush 18, 2) := by decide +kernel
theorem dX8_of_84 : decode cX8_of 84 = .ok (.bipush 10, 2) := by decide +kernel
theorem dX8_of_86 : decode cX8_of 86 = .ok (.iload_n 1, 1) := by decide +kernel
theorem dX8_of_87 : decode cX8_of 87 = .ok (.imul, 1) := by decide +kernel
theorem dX8_of_88 : decode cX8_of 88 = .ok (.iadd, 1) := by decide +kernel
theorem dX8_of_89 : decode cX8_of 89 = .ok (.invokestatic 83, 3) := by decide +kernel
theorem dX8_of_92 : decode cX8_of 92 = .ok (.ireturn, 1) := by decide +kernel
theorem dX8_has_0 : decode cX8_has 0 = .ok (.aload_n 0, 1) := by decide +kernel
theorem dX8_has_1 : decode cX8_has 1 = .ok (.iload_n 1, 1) := by decide +kernel
theorem dX8_has_2 : decode cX8_has 2 = .ok (.invokevirtual 116, 3) := by decide +kernel
theorem dX8_has_5 : decode cX8_has 5 = .ok (.ifCond .eq 32, 3) := by decide +kernel
theorem dX8_has_8 : decode cX8_has 8 = .ok (.iload_n 2, 1) := by decide +kernel
theorem dX8_has_9 : decode cX8_has 9 = .ok (.i2l, 1) := by decide +kernel
theorem dX8_has_10 : decode cX8_has 10 = .ok (.lconst 1, 1) := by decide +kernel
theorem dX8_has_11 : decode cX8_has 11 = .ok (.ldc2_w 101, 3) := by decide +kernel
theorem dX8_has_14 : decode cX8_has 14 = .ok (.invokestatic 60, 3) := by decide +kernel
theorem dX8_has_17 : decode cX8_has 17 = .ok (.ifCond .eq 20, 3) := by decide +kernel
theorem dX8_has_20 : decode cX8_has 20 = .ok (.aload_n 0, 1) := by decide +kernel
theorem dX8_has_21 : decode cX8_has 21 = .ok (.getfield 7, 3) := by decide +kernel
theorem dX8_has_24 : decode cX8_has 24 = .ok (.bipush 18, 2) := by decide +kernel
theorem dX8_has_26 : decode cX8_has 26 = .ok (.bipush 10, 2) := by decide +kernel
theorem dX8_has_28 : decode cX8_has 28 = .ok (.iload_n 1, 1) := by decide +kernel
theorem dX8_has_29 : decode cX8_has 29 = .ok (.imul, 1) := by decide +kernel
theorem dX8_has_30 : decode cX8_has 30 = .ok (.iadd, 1) := by decide +kernel
theorem dX8_has_31 : decode cX8_has 31 = .ok (.iload_n 2, 1) := by decide +kernel
theorem dX8_has_32 : decode cX8_has 32 = .ok (.iadd, 1) := by decide +kernel
theorem dX8_has_33 : decode cX8_has 33 = .ok (.iaload, 1) := by decide +kernel
theorem dX8_has_34 : decode cX8_has 34 = .ok (.goto 7, 3) := by decide +kernel
theorem dX8_has_37 : decode cX8_has 37 = .ok (.aload_n 0, 1) := by decide +kernel
theorem dX8_has_38 : decode cX8_has 38 = .ok (.invokevirtual 103, 3) := by decide +kernel
theorem dX8_has_41 : decode cX8_has 41 = .ok (.ireturn, 1) := by decide +kernel
theorem dX8_about_0 : decode cX8_about 0 = .ok (.aload_n 0, 1) := by decide +kernel
theorem dX8_about_1 : decode cX8_about 1 = .ok (.iload_n 1, 1) := by decide +kernel
theorem dX8_about_2 : decode cX8_about 2 = .ok (.invokevirtual 223, 3) := by decide +kernel
theorem dX8_about_5 : decode cX8_about 5 = .ok (.ifCond .eq 36, 3) := by decide +kernel
theorem dX8_about_8 : decode cX8_about 8 = .ok (.iload_n 2, 1) := by decide +kernel
theorem dX8_about_9 : decode cX8_about 9 = .ok (.i2l, 1) := by decide +kernel
theorem dX8_about_10 : decode cX8_about 10 = .ok (.lconst 0, 1) := by decide +kernel
theorem dX8_about_11 : decode cX8_about 11 = .ok (.lconst 1, 1) := by decide +kernel
theorem dX8_about_12 : decode cX8_about 12 = .ok (.invokestatic 60, 3) := by decide +kernel
theorem dX8_about_15 : decode cX8_about 15 = .ok (.ifCond .eq 26, 3) := by decide +kernel
theorem dX8_about_18 : decode cX8_about 18 = .ok (.aload_n 0, 1) := by decide +kernel
theorem dX8_about_19 : decode cX8_about 19 = .ok (.getfield 7, 3) := by decide +kernel
theorem dX8_about_22 : decode cX8_about 22 = .ok (.iload_n 2, 1) := by decide +kernel
theorem dX8_about_23 : decode cX8_about 23 = .ok (.ifCond .ne 10, 3) := by decide +kernel
theorem dX8_about_26 : decode cX8_about 26 = .ok (.bipush 68, 2) := by decide +kernel
theorem dX8_about_28 : decode cX8_about 28 = .ok (.iload_n 1, 1) := by decide +kernel
theorem dX8_about_29 : decode cX8_about 29 = .ok (.iadd, 1) := by decide +kernel
theorem dX8_about_30 : decode cX8_about 30 = .ok (.goto 7, 3) := by decide +kernel
theorem dX8_about_33 : decode cX8_about 33 = .ok (.bipush 74, 2) := by decide +kernel
theorem dX8_about_35 : decode cX8_about 35 = .ok (.iload_n 1, 1) := by decide +kernel
theorem dX8_about_36 : decode cX8_about 36 = .ok (.iadd, 1) := by decide +kernel
theorem dX8_about_37 : decode cX8_about 37 = .ok (.iaload, 1) := by decide +kernel
theorem dX8_about_38 : decode cX8_about 38 = .ok (.goto 7, 3) := by decide +kernel
theorem dX8_about_41 : decode cX8_about 41 = .ok (.aload_n 0, 1) := by decide +kernel
theorem dX8_about_42 : decode cX8_about 42 = .ok (.invokevirtual 103, 3) := by decide +kernel
theorem dX8_about_45 : decode cX8_about 45 = .ok (.ireturn, 1) := by decide +kernel
theorem dX8_sky_0 : decode cX8_sky 0 = .ok (.aload_n 0, 1) := by decide +kernel
theorem dX8_sky_1 : decode cX8_sky 1 = .ok (.iload_n 1, 1) := by decide +kernel
theorem dX8_sky_2 : decode cX8_sky 2 = .ok (.invokevirtual 226, 3) := by decide +kernel
theorem dX8_sky_5 : decode cX8_sky 5 = .ok (.ifCond .eq 15, 3) := by decide +kernel
theorem dX8_sky_8 : decode cX8_sky 8 = .ok (.iload_n 2, 1) := by decide +kernel
theorem dX8_sky_9 : decode cX8_sky 9 = .ok (.i2l, 1) := by decide +kernel
theorem dX8_sky_10 : decode cX8_sky 10 = .ok (.lconst 0, 1) := by decide +kernel
theorem dX8_sky_11 : decode cX8_sky 11 = .ok (.ldc2_w 242, 3) := by decide +kernel
theorem dX8_sky_14 : decode cX8_sky 14 = .ok (.invokestatic 60, 3) := by decide +kernel
theorem dX8_sky_17 : decode cX8_sky 17 = .ok (.ifCond .ne 8, 3) := by decide +kernel
theorem dX8_sky_20 : decode cX8_sky 20 = .ok (.aload_n 0, 1) := by decide +kernel
theorem dX8_sky_21 : decode cX8_sky 21 = .ok (.invokevirtual 103, 3) := by decide +kernel
theorem dX8_sky_24 : decode cX8_sky 24 = .ok (.ireturn, 1) := by decide +kernel
theorem dX8_sky_25 : decode cX8_sky 25 = .ok (.iload_n 2, 1) := by decide +kernel
theorem dX8_sky_26 : decode cX8_sky 26 = .ok (.ifCond .ne 15, 3) := by decide +kernel
theorem dX8_sky_29 : decode cX8_sky 29 = .ok (.aload_n 0, 1) := by decide +kernel
theorem dX8_sky_30 : decode cX8_sky 30 = .ok (.getfield 7, 3) := by decide +kernel
theorem dX8_sky_33 : decode cX8_sky 33 = .ok (.bipush 80, 2) := by decide +kernel
theorem dX8_sky_35 : decode cX8_sky 35 = .ok (.iload_n 1, 1) := by decide +kernel
theorem dX8_sky_36 : decode cX8_sky 36 = .ok (.iadd, 1) := by decide +kernel
theorem dX8_sky_37 : decode cX8_sky 37 = .ok (.iaload, 1) := by decide +kernel
theorem dX8_sky_38 : decode cX8_sky 38 = .ok (.goto 50, 3) := by decide +kernel
theorem dX8_sky_41 : decode cX8_sky 41 = .ok (.iload_n 2, 1) := by decide +kernel
theorem dX8_sky_42 : decode cX8_sky 42 = .ok (.iconst 1, 1) := by decide +kernel
theorem dX8_sky_43 : decode cX8_sky 43 = .ok (.if_icmp .ne 15, 3) := by decide +kernel
theorem dX8_sky_46 : decode cX8_sky 46 = .ok (.aload_n 0, 1) := by decide +kernel
theorem dX8_sky_47 : decode cX8_sky 47 = .ok (.getfield 7, 3) := by decide +kernel
theorem dX8_sky_50 : decode cX8_sky 50 = .ok (.bipush 84, 2) := by decide +kernel
theorem dX8_sky_52 : decode cX8_sky 52 = .ok (.iload_n 1, 1) := by decide +kernel
theorem dX8_sky_53 : decode cX8_sky 53 = .ok (.iadd, 1) := by decide +kernel
theorem dX8_sky_54 : decode cX8_sky 54 = .ok (.iaload, 1) := by decide +kernel
theorem dX8_sky_55 : decode cX8_sky 55 = .ok (.goto 33, 3) := by decide +kernel
theorem dX8_sky_58 : decode cX8_sky 58 = .ok (.iload_n 2, 1) := by decide +kernel
theorem dX8_sky_59 : decode cX8_sky 59 = .ok (.iconst 2, 1) := by decide +kernel
theorem dX8_sky_60 : decode cX8_sky 60 = .ok (.if_icmp .ne 15, 3) := by decide +kernel
theorem dX8_sky_63 : decode cX8_sky 63 = .ok (.aload_n 0, 1) := by decide +kernel
theorem dX8_sky_64 : decode cX8_sky 64 = .ok (.getfield 7, 3) := by decide +kernel
theorem dX8_sky_67 : decode cX8_sky 67 = .ok (.bipush 88, 2) := by decide +kernel
theorem dX8_sky_69 : decode cX8_sky 69 = .ok (.iload_n 1, 1) := by decide +kernel
theorem dX8_sky_70 : decode cX8_sky 70 = .ok (.iadd, 1) := by decide +kernel
theorem dX8_sky_71 : decode cX8_sky 71 = .ok (.iaload, 1) := by decide +kernel
theorem dX8_sky_72 : decode cX8_sky 72 = .ok (.goto 16, 3) := by decide +kernel
theorem dX8_sky_75 : decode cX8_sky 75 = .ok (.aload_n 0, 1) := by decide +kernel
theorem dX8_sky_76 : decode cX8_sky 76 = .ok (.iload_n 1, 1) := by decide +kernel
theorem dX8_sky_77 : decode cX8_sky 77 = .ok (.invokevirtual 239, 3) := by decide +kernel
theorem dX8_sky_80 : decode cX8_sky 80 = .ok (.ifCond .eq 7, 3) := by decide +kernel
theorem dX8_sky_83 : decode cX8_sky 83 = .ok (.iconst 1, 1) := by decide +kernel
theorem dX8_sky_84 : decode cX8_sky 84 = .ok (.goto 4, 3) := by decide +kernel
theorem dX8_sky_87 : decode cX8_sky 87 = .ok (.iconst 0, 1) := by decide +kernel
theorem dX8_sky_88 : decode cX8_sky 88 = .ok (.ireturn, 1) := by decide +kernel
theorem dX8_melts_0 : decode cX8_melts 0 = .ok (.aload_n 0, 1) := by decide +kernel
theorem dX8_melts_1 : decode cX8_melts 1 = .ok (.iload_n 1, 1) := by decide +kernel
theorem dX8_melts_2 : decode cX8_melts 2 = .ok (.invokevirtual 116, 3) := by decide +kernel
theorem dX8_melts_5 : decode cX8_melts 5 = .ok (.ifCond .eq 40, 3) := by decide +kernel
theorem dX8_melts_8 : decode cX8_melts 8 = .ok (.iload_n 2, 1) := by decide +kernel
theorem dX8_melts_9 : decode cX8_melts 9 = .ok (.i2l, 1) := by decide +kernel
theorem dX8_melts_10 : decode cX8_melts 10 = .ok (.lconst 0, 1) := by decide +kernel
theorem dX8_melts_11 : decode cX8_melts 11 = .ok (.ldc2_w 244, 3) := by decide +kernel
theorem dX8_melts_14 : decode cX8_melts 14 = .ok (.invokestatic 60, 3) := by decide +kernel
theorem dX8_melts_17 : decode cX8_melts 17 = .ok (.ifCond .eq 28, 3) := by decide +kernel
theorem dX8_melts_20 : decode cX8_melts 20 = .ok (.aload_n 0, 1) := by decide +kernel
theorem dX8_melts_21 : decode cX8_melts 21 = .ok (.getfield 7, 3) := by decide +kernel
theorem dX8_melts_24 : decode cX8_melts 24 = .ok (.bipush 8, 2) := by decide +kernel
theorem dX8_melts_26 : decode cX8_melts 26 = .ok (.iload_n 1, 1) := by decide +kernel
theorem dX8_melts_27 : decode cX8_melts 27 = .ok (.iadd, 1) := by decide +kernel
theorem dX8_melts_28 : decode cX8_melts 28 = .ok (.iaload, 1) := by decide +kernel
theorem dX8_melts_29 : decode cX8_melts 29 = .ok (.iload_n 2, 1) := by decide +kernel
theorem dX8_melts_30 : decode cX8_melts 30 = .ok (.aload_n 0, 1) := by decide +kernel
theorem dX8_melts_31 : decode cX8_melts 31 = .ok (.getfield 7, 3) := by decide +kernel
theorem dX8_melts_34 : decode cX8_melts 34 = .ok (.bipush 13, 2) := by decide +kernel
theorem dX8_melts_36 : decode cX8_melts 36 = .ok (.iload_n 1, 1) := by decide +kernel
theorem dX8_melts_37 : decode cX8_melts 37 = .ok (.iadd, 1) := by decide +kernel
theorem dX8_melts_38 : decode cX8_melts 38 = .ok (.iaload, 1) := by decide +kernel
theorem dX8_melts_39 : decode cX8_melts 39 = .ok (.invokestatic 87, 3) := by decide +kernel
theorem dX8_melts_42 : decode cX8_melts 42 = .ok (.goto 7, 3) := by decide +kernel
theorem dX8_melts_45 : decode cX8_melts 45 = .ok (.aload_n 0, 1) := by decide +kernel
theorem dX8_melts_46 : decode cX8_melts 46 = .ok (.invokevirtual 103, 3) := by decide +kernel
theorem dX8_melts_49 : decode cX8_melts 49 = .ok (.ireturn, 1) := by decide +kernel
theorem dX8_takeJar_0 : decode cX8_takeJar 0 = .ok (.iconst 0, 1) := by decide +kernel
theorem dX8_takeJar_1 : decode cX8_takeJar 1 = .ok (.istore_n 2, 1) := by decide +kernel
theorem dX8_takeJar_2 : decode cX8_takeJar 2 = .ok (.iload_n 2, 1) := by decide +kernel
theorem dX8_takeJar_3 : decode cX8_takeJar 3 = .ok (.bipush 10, 2) := by decide +kernel
theorem dX8_takeJar_5 : decode cX8_takeJar 5 = .ok (.if_icmp .ge 29, 3) := by decide +kernel
theorem dX8_takeJar_8 : decode cX8_takeJar 8 = .ok (.aload_n 0, 1) := by decide +kernel
theorem dX8_takeJar_9 : decode cX8_takeJar 9 = .ok (.getfield 29, 3) := by decide +kernel
theorem dX8_takeJar_12 : decode cX8_takeJar 12 = .ok (.iload_n 2, 1) := by decide +kernel
theorem dX8_takeJar_13 : decode cX8_takeJar 13 = .ok (.aload_n 0, 1) := by decide +kernel
theorem dX8_takeJar_14 : decode cX8_takeJar 14 = .ok (.getfield 7, 3) := by decide +kernel
theorem dX8_takeJar_17 : decode cX8_takeJar 17 = .ok (.bipush 18, 2) := by decide +kernel
theorem dX8_takeJar_19 : decode cX8_takeJar 19 = .ok (.bipush 10, 2) := by decide +kernel
theorem dX8_takeJar_21 : decode cX8_takeJar 21 = .ok (.iload_n 1, 1) := by decide +kernel
theorem dX8_takeJar_22 : decode cX8_takeJar 22 = .ok (.imul, 1) := by decide +kernel
theorem dX8_takeJar_23 : decode cX8_takeJar 23 = .ok (.iadd, 1) := by decide +kernel
theorem dX8_takeJar_24 : decode cX8_takeJar 24 = .ok (.iload_n 2, 1) := by decide +kernel
theorem dX8_takeJar_25 : decode cX8_takeJar 25 = .ok (.iadd, 1) := by decide +kernel
theorem dX8_takeJar_26 : decode cX8_takeJar 26 = .ok (.iaload, 1) := by decide +kernel
theorem dX8_takeJar_27 : decode cX8_takeJar 27 = .ok (.iastore, 1) := by decide +kernel
theorem dX8_takeJar_28 : decode cX8_takeJar 28 = .ok (.iinc 2 1, 3) := by decide +kernel
theorem dX8_takeJar_31 : decode cX8_takeJar 31 = .ok (.goto (-29), 3) := by decide +kernel
theorem dX8_takeJar_34 : decode cX8_takeJar 34 = .ok (.return_, 1) := by decide +kernel
theorem dX8_greatestIn_0 : decode cX8_greatestIn 0 = .ok (.iconst 0, 1) := by decide +kernel
theorem dX8_greatestIn_1 : decode cX8_greatestIn 1 = .ok (.istore_n 1, 1) := by decide +kernel
theorem dX8_greatestIn_2 : decode cX8_greatestIn 2 = .ok (.iconst 1, 1) := by decide +kernel
theorem dX8_greatestIn_3 : decode cX8_greatestIn 3 = .ok (.istore_n 2, 1) := by decide +kernel
theorem dX8_greatestIn_4 : decode cX8_greatestIn 4 = .ok (.iload_n 2, 1) := by decide +kernel
theorem dX8_greatestIn_5 : decode cX8_greatestIn 5 = .ok (.bipush 10, 2) := by decide +kernel
theorem dX8_greatestIn_7 : decode cX8_greatestIn 7 = .ok (.if_icmp .ge 24, 3) := by decide +kernel
theorem dX8_greatestIn_10 : decode cX8_greatestIn 10 = .ok (.aload_n 0, 1) := by decide +kernel
theorem dX8_greatestIn_11 : decode cX8_greatestIn 11 = .ok (.getfield 29, 3) := by decide +kernel
theorem dX8_greatestIn_14 : decode cX8_greatestIn 14 = .ok (.iload_n 2, 1) := by decide +kernel
theorem dX8_greatestIn_15 : decode cX8_greatestIn 15 = .ok (.iaload, 1) := by decide +kernel
theorem dX8_greatestIn_16 : decode cX8_greatestIn 16 = .ok (.ifCond .le 7, 3) := by decide +kernel
theorem dX8_greatestIn_19 : decode cX8_greatestIn 19 = .ok (.iload_n 2, 1) := by decide +kernel
theorem dX8_greatestIn_20 : decode cX8_greatestIn 20 = .ok (.goto 4, 3) := by decide +kernel
theorem dX8_greatestIn_23 : decode cX8_greatestIn 23 = .ok (.iload_n 1, 1) := by decide +kernel
theorem dX8_greatestIn_24 : decode cX8_greatestIn 24 = .ok (.istore_n 1, 1) := by decide +kernel
theorem dX8_greatestIn_25 : decode cX8_greatestIn 25 = .ok (.iinc 2 1, 3) := by decide +kernel
theorem dX8_greatestIn_28 : decode cX8_greatestIn 28 = .ok (.goto (-24), 3) := by decide +kernel
theorem dX8_greatestIn_31 : decode cX8_greatestIn 31 = .ok (.iload_n 1, 1) := by decide +kernel
theorem dX8_greatestIn_32 : decode cX8_greatestIn 32 = .ok (.ireturn, 1) := by decide +kernel
theorem dX8_then_0 : decode cX8_then 0 = .ok (.aload_n 0, 1) := by decide +kernel
theorem dX8_then_1 : decode cX8_then 1 = .ok (.iload_n 1, 1) := by decide +kernel
theorem dX8_then_2 : decode cX8_then 2 = .ok (.invokevirtual 116, 3) := by decide +kernel
theorem dX8_then_5 : decode cX8_then 5 = .ok (.ifCond .eq 40, 3) := by decide +kernel
theorem dX8_then_8 : decode cX8_then 8 = .ok (.iload_n 2, 1) := by decide +kernel
theorem dX8_then_9 : decode cX8_then 9 = .ok (.i2l, 1) := by decide +kernel
theorem dX8_then_10 : decode cX8_then 10 = .ok (.lconst 0, 1) := by decide +kernel
theorem dX8_then_11 : decode cX8_then 11 = .ok (.ldc2_w 209, 3) := by decide +kernel
theorem dX8_then_14 : decode cX8_then 14 = .ok (.invokestatic 60, 3) := by decide +kernel
theorem dX8_then_17 : decode cX8_then 17 = .ok (.ifCond .eq 28, 3) := by decide +kernel
theorem dX8_then_20 : decode cX8_then 20 = .ok (.iload_n 3, 1) := by decide +kernel
theorem dX8_then_21 : decode cX8_then 21 = .ok (.i2l, 1) := by decide +kernel
theorem dX8_then_22 : decode cX8_then 22 = .ok (.lconst 0, 1) := by decide +kernel
theorem dX8_then_23 : decode cX8_then 23 = .ok (.ldc2_w 101, 3) := by decide +kernel
theorem dX8_then_26 : decode cX8_then 26 = .ok (.invokestatic 60, 3) := by decide +kernel
theorem dX8_then_29 : decode cX8_then 29 = .ok (.ifCond .eq 16, 3) := by decide +kernel
theorem dX8_then_32 : decode cX8_then 32 = .ok (.iload 4, 2) := by decide +kernel
theorem dX8_then_34 : decode cX8_then 34 = .ok (.i2l, 1) := by decide +kernel
theorem dX8_then_35 : decode cX8_then 35 = .ok (.lconst 0, 1) := by decide +kernel
theorem dX8_then_36 : decode cX8_then 36 = .ok (.ldc2_w 246, 3) := by decide +kernel
theorem dX8_then_39 : decode cX8_then 39 = .ok (.invokestatic 60, 3) := by decide +kernel
theorem dX8_then_42 : decode cX8_then 42 = .ok (.ifCond .ne 8, 3) := by decide +kernel
theorem dX8_then_45 : decode cX8_then 45 = .ok (.aload_n 0, 1) := by decide +kernel
theorem dX8_then_46 : decode cX8_then 46 = .ok (.invokevirtual 103, 3) := by decide +kernel
theorem dX8_then_49 : decode cX8_then 49 = .ok (.ireturn, 1) := by decide +kernel
theorem dX8_then_50 : decode cX8_then 50 = .ok (.aload_n 0, 1) := by decide +kernel
theorem dX8_then_51 : decode cX8_then 51 = .ok (.iload_n 1, 1) := by decide +kernel
theorem dX8_then_52 : decode cX8_then 52 = .ok (.invokevirtual 248, 3) := by decide +kernel
theorem dX8_then_55 : decode cX8_then 55 = .ok (.iconst 0, 1) := by decide +kernel
theorem dX8_then_56 : decode cX8_then 56 = .ok (.istore 5, 2) := by decide +kernel
theorem dX8_then_58 : decode cX8_then 58 = .ok (.iload 5, 2) := by decide +kernel
theorem dX8_then_60 : decode cX8_then 60 = .ok (.iload_n 2, 1) := by decide +kernel
theorem dX8_then_61 : decode cX8_then 61 = .ok (.if_icmp .ge 69, 3) := by decide +kernel
theorem dX8_then_64 : decode cX8_then 64 = .ok (.aload_n 0, 1) := by decide +kernel
theorem dX8_then_65 : decode cX8_then 65 = .ok (.getfield 29, 3) := by decide +kernel
theorem dX8_then_68 : decode cX8_then 68 = .ok (.iconst 0, 1) := by decide +kernel
theorem dX8_then_69 : decode cX8_then 69 = .ok (.iload_n 3, 1) := by decide +kernel
theorem dX8_then_70 : decode cX8_then 70 = .ok (.aload_n 0, 1) := by decide +kernel
theorem dX8_then_71 : decode cX8_then 71 = .ok (.getfield 7, 3) := by decide +kernel
theorem dX8_then_74 : decode cX8_then 74 = .ok (.bipush 8, 2) := by decide +kernel
theorem dX8_then_76 : decode cX8_then 76 = .ok (.iload_n 1, 1) := by decide +kernel
theorem dX8_then_77 : decode cX8_then 77 = .ok (.iadd, 1) := by decide +kernel
theorem dX8_then_78 : decode cX8_then 78 = .ok (.iaload, 1) := by decide +kernel
theorem dX8_then_79 : decode cX8_then 79 = .ok (.invokestatic 217, 3) := by decide +kernel
theorem dX8_then_82 : decode cX8_then 82 = .ok (.imul, 1) := by decide +kernel
theorem dX8_then_83 : decode cX8_then 83 = .ok (.invokestatic 90, 3) := by decide +kernel
theorem dX8_then_86 : decode cX8_then 86 = .ok (.aload_n 0, 1) := by decide +kernel
theorem dX8_then_87 : decode cX8_then 87 = .ok (.getfield 29, 3) := by decide +kernel
theorem dX8_then_90 : decode cX8_then 90 = .ok (.iconst 0, 1) := by decide +kernel
theorem dX8_then_91 : decode cX8_then 91 = .ok (.aload_n 0, 1) := by decide +kernel
theorem dX8_then_92 : decode cX8_then 92 = .ok (.getfield 7, 3) := by decide +kernel
theorem dX8_then_95 : decode cX8_then 95 = .ok (.bipush 8, 2) := by decide +kernel
theorem dX8_then_97 : decode cX8_then 97 = .ok (.iload_n 1, 1) := by decide +kernel
theorem dX8_then_98 : decode cX8_then 98 = .ok (.iadd, 1) := by decide +kernel
theorem dX8_then_99 : decode cX8_then 99 = .ok (.iaload, 1) := by decide +kernel
theorem dX8_then_100 : decode cX8_then 100 = .ok (.aload_n 0, 1) := by decide +kernel
theorem dX8_then_101 : decode cX8_then 101 = .ok (.getfield 7, 3) := by decide +kernel
theorem dX8_then_104 : decode cX8_then 104 = .ok (.iconst 3, 1) := by decide +kernel
theorem dX8_then_105 : decode cX8_then 105 = .ok (.iaload, 1) := by decide +kernel
theorem dX8_then_106 : decode cX8_then 106 = .ok (.iload 5, 2) := by decide +kernel
theorem dX8_then_108 : decode cX8_then 108 = .ok (.iadd, 1) := by decide +kernel
theorem dX8_then_109 : decode cX8_then 109 = .ok (.aload_n 0, 1) := by decide +kernel
theorem dX8_then_110 : decode cX8_then 110 = .ok (.getfield 7, 3) := by decide +kernel
theorem dX8_then_113 : decode cX8_then 113 = .ok (.bipush 13, 2) := by decide +kernel
theorem dX8_then_115 : decode cX8_then 115 = .ok (.iload_n 1, 1) := by decide +kernel
theorem dX8_then_116 : decode cX8_then 116 = .ok (.iadd, 1) := by decide +kernel
theorem dX8_then_117 : decode cX8_then 117 = .ok (.iaload, 1) := by decide +kernel
theorem dX8_then_118 : decode cX8_then 118 = .ok (.invokestatic 87, 3) := by decide +kernel
theorem dX8_then_121 : decode cX8_then 121 = .ok (.invokestatic 90, 3) := by decide +kernel
theorem dX8_then_124 : decode cX8_then 124 = .ok (.iinc 5 1, 3) := by decide +kernel
theorem dX8_then_127 : decode cX8_then 127 = .ok (.goto (-69), 3) := by decide +kernel
theorem dX8_then_130 : decode cX8_then 130 = .ok (.iconst 0, 1) := by decide +kernel
theorem dX8_then_131 : decode cX8_then 131 = .ok (.istore 5, 2) := by decide +kernel
theorem dX8_then_133 : decode cX8_then 133 = .ok (.iconst 1, 1) := by decide +kernel
theorem dX8_then_134 : decode cX8_then 134 = .ok (.istore 6, 2) := by decide +kernel
theorem dX8_then_136 : decode cX8_then 136 = .ok (.iload 6, 2) := by decide +kernel
theorem dX8_then_138 : decode cX8_then 138 = .ok (.bipush 10, 2) := by decide +kernel
theorem dX8_then_140 : decode cX8_then 140 = .ok (.if_icmp .ge 40, 3) := by decide +kernel
theorem dX8_then_143 : decode cX8_then 143 = .ok (.iload 5, 2) := by decide +kernel
theorem dX8_then_145 : decode cX8_then 145 = .ok (.iload 4, 2) := by decide +kernel
theorem dX8_then_147 : decode cX8_then 147 = .ok (.ifCond .eq 13, 3) := by decide +kernel
theorem dX8_then_150 : decode cX8_then 150 = .ok (.iload 6, 2) := by decide +kernel
theorem dX8_then_152 : decode cX8_then 152 = .ok (.invokestatic 68, 3) := by decide +kernel
theorem dX8_then_155 : decode cX8_then 155 = .ok (.iload 4, 2) := by decide +kernel
theorem dX8_then_157 : decode cX8_then 157 = .ok (.if_icmp .ne 13, 3) := by decide +kernel
theorem dX8_then_160 : decode cX8_then 160 = .ok (.aload_n 0, 1) := by decide +kernel
theorem dX8_then_161 : decode cX8_then 161 = .ok (.getfield 29, 3) := by decide +kernel
theorem dX8_then_164 : decode cX8_then 164 = .ok (.iload 6, 2) := by decide +kernel
theorem dX8_then_166 : decode cX8_then 166 = .ok (.iaload, 1) := by decide +kernel
theorem dX8_then_167 : decode cX8_then 167 = .ok (.goto 4, 3) := by decide +kernel
theorem dX8_then_170 : decode cX8_then 170 = .ok (.iconst 0, 1) := by decide +kernel
theorem dX8_then_171 : decode cX8_then 171 = .ok (.iadd, 1) := by decide +kernel
theorem dX8_then_172 : decode cX8_then 172 = .ok (.istore 5, 2) := by decide +kernel
theorem dX8_then_174 : decode cX8_then 174 = .ok (.iinc 6 1, 3) := by decide +kernel
theorem dX8_then_177 : decode cX8_then 177 = .ok (.goto (-41), 3) := by decide +kernel
theorem dX8_then_180 : decode cX8_then 180 = .ok (.iload 4, 2) := by decide +kernel
theorem dX8_then_182 : decode cX8_then 182 = .ok (.iconst 4, 1) := by decide +kernel
theorem dX8_then_183 : decode cX8_then 183 = .ok (.if_icmp .ne 10, 3) := by decide +kernel
theorem dX8_then_186 : decode cX8_then 186 = .ok (.aload_n 0, 1) := by decide +kernel
theorem dX8_then_187 : decode cX8_then 187 = .ok (.invokevirtual 251, 3) := by decide +kernel
theorem dX8_then_190 : decode cX8_then 190 = .ok (.goto 5, 3) := by decide +kernel
theorem dX8_then_193 : decode cX8_then 193 = .ok (.iload 5, 2) := by decide +kernel
theorem dX8_then_195 : decode cX8_then 195 = .ok (.ireturn, 1) := by decide +kernel
theorem dX8_lasts_0 : decode cX8_lasts 0 = .ok (.aload_n 0, 1) := by decide +kernel
theorem dX8_lasts_1 : decode cX8_lasts 1 = .ok (.iload_n 1, 1) := by decide +kernel
theorem dX8_lasts_2 : decode cX8_lasts 2 = .ok (.invokevirtual 116, 3) := by decide +kernel
theorem dX8_lasts_5 : decode cX8_lasts 5 = .ok (.ifCond .eq 15, 3) := by decide +kernel
theorem dX8_lasts_8 : decode cX8_lasts 8 = .ok (.iload_n 2, 1) := by decide +kernel
theorem dX8_lasts_9 : decode cX8_lasts 9 = .ok (.i2l, 1) := by decide +kernel
theorem dX8_lasts_10 : decode cX8_lasts 10 = .ok (.lconst 1, 1) := by decide +kernel
theorem dX8_lasts_11 : decode cX8_lasts 11 = .ok (.ldc2_w 101, 3) := by decide +kernel
theorem dX8_lasts_14 : decode cX8_lasts 14 = .ok (.invokestatic 60, 3) := by decide +kernel
theorem dX8_lasts_17 : decode cX8_lasts 17 = .ok (.ifCond .ne 8, 3) := by decide +kernel
theorem dX8_lasts_20 : decode cX8_lasts 20 = .ok (.aload_n 0, 1) := by decide +kernel
theorem dX8_lasts_21 : decode cX8_lasts 21 = .ok (.invokevirtual 103, 3) := by decide +kernel
theorem dX8_lasts_24 : decode cX8_lasts 24 = .ok (.ireturn, 1) := by decide +kernel
theorem dX8_lasts_25 : decode cX8_lasts 25 = .ok (.aload_n 0, 1) := by decide +kernel
theorem dX8_lasts_26 : decode cX8_lasts 26 = .ok (.iload_n 1, 1) := by decide +kernel
theorem dX8_lasts_27 : decode cX8_lasts 27 = .ok (.invokevirtual 248, 3) := by decide +kernel
theorem dX8_lasts_30 : decode cX8_lasts 30 = .ok (.iconst 0, 1) := by decide +kernel
theorem dX8_lasts_31 : decode cX8_lasts 31 = .ok (.istore_n 3, 1) := by decide +kernel
theorem dX8_lasts_32 : decode cX8_lasts 32 = .ok (.iload_n 3, 1) := by decide +kernel
theorem dX8_lasts_33 : decode cX8_lasts 33 = .ok (.bipush 100, 2) := by decide +kernel
theorem dX8_lasts_35 : decode cX8_lasts 35 = .ok (.if_icmp .ge 56, 3) := by decide +kernel
theorem dX8_lasts_38 : decode cX8_lasts 38 = .ok (.aload_n 0, 1) := by decide +kernel
theorem dX8_lasts_39 : decode cX8_lasts 39 = .ok (.invokevirtual 251, 3) := by decide +kernel
theorem dX8_lasts_42 : decode cX8_lasts 42 = .ok (.iload_n 2, 1) := by decide +kernel
theorem dX8_lasts_43 : decode cX8_lasts 43 = .ok (.if_icmp .ge 5, 3) := by decide +kernel
theorem dX8_lasts_46 : decode cX8_lasts 46 = .ok (.iload_n 3, 1) := by decide +kernel
theorem dX8_lasts_47 : decode cX8_lasts 47 = .ok (.ireturn, 1) := by decide +kernel
theorem dX8_lasts_48 : decode cX8_lasts 48 = .ok (.aload_n 0, 1) := by decide +kernel
theorem dX8_lasts_49 : decode cX8_lasts 49 = .ok (.getfield 29, 3) := by decide +kernel
theorem dX8_lasts_52 : decode cX8_lasts 52 = .ok (.iconst 0, 1) := by decide +kernel
theorem dX8_lasts_53 : decode cX8_lasts 53 = .ok (.aload_n 0, 1) := by decide +kernel
theorem dX8_lasts_54 : decode cX8_lasts 54 = .ok (.getfield 7, 3) := by decide +kernel
theorem dX8_lasts_57 : decode cX8_lasts 57 = .ok (.bipush 8, 2) := by decide +kernel
theorem dX8_lasts_59 : decode cX8_lasts 59 = .ok (.iload_n 1, 1) := by decide +kernel
theorem dX8_lasts_60 : decode cX8_lasts 60 = .ok (.iadd, 1) := by decide +kernel
theorem dX8_lasts_61 : decode cX8_lasts 61 = .ok (.iaload, 1) := by decide +kernel
theorem dX8_lasts_62 : decode cX8_lasts 62 = .ok (.aload_n 0, 1) := by decide +kernel
theorem dX8_lasts_63 : decode cX8_lasts 63 = .ok (.getfield 7, 3) := by decide +kernel
theorem dX8_lasts_66 : decode cX8_lasts 66 = .ok (.iconst 3, 1) := by decide +kernel
theorem dX8_lasts_67 : decode cX8_lasts 67 = .ok (.iaload, 1) := by decide +kernel
theorem dX8_lasts_68 : decode cX8_lasts 68 = .ok (.iload_n 3, 1) := by decide +kernel
theorem dX8_lasts_69 : decode cX8_lasts 69 = .ok (.iadd, 1) := by decide +kernel
theorem dX8_lasts_70 : decode cX8_lasts 70 = .ok (.aload_n 0, 1) := by decide +kernel
theorem dX8_lasts_71 : decode cX8_lasts 71 = .ok (.getfield 7, 3) := by decide +kernel
theorem dX8_lasts_74 : decode cX8_lasts 74 = .ok (.bipush 13, 2) := by decide +kernel
theorem dX8_lasts_76 : decode cX8_lasts 76 = .ok (.iload_n 1, 1) := by decide +kernel
theorem dX8_lasts_77 : decode cX8_lasts 77 = .ok (.iadd, 1) := by decide +kernel
theorem dX8_lasts_78 : decode cX8_lasts 78 = .ok (.iaload, 1) := by decide +kernel
theorem dX8_lasts_79 : decode cX8_lasts 79 = .ok (.invokestatic 87, 3) := by decide +kernel
theorem dX8_lasts_82 : decode cX8_lasts 82 = .ok (.invokestatic 90, 3) := by decide +kernel
theorem dX8_lasts_85 : decode cX8_lasts 85 = .ok (.iinc 3 1, 3) := by decide +kernel
theorem dX8_lasts_88 : decode cX8_lasts 88 = .ok (.goto (-56), 3) := by decide +kernel
theorem dX8_lasts_91 : decode cX8_lasts 91 = .ok (.iconst (-1), 1) := by decide +kernel
theorem dX8_lasts_92 : decode cX8_lasts 92 = .ok (.ireturn, 1) := by decide +kernel
theorem dX8_least_0 : decode cX8_least 0 = .ok (.aload_n 0, 1) := by decide +kernel
theorem dX8_least_1 : decode cX8_least 1 = .ok (.iload_n 1, 1) := by decide +kernel
theorem dX8_least_2 : decode cX8_least 2 = .ok (.invokevirtual 116, 3) := by decide +kernel
theorem dX8_least_5 : decode cX8_least 5 = .ok (.ifCond .eq 27, 3) := by decide +kernel
theorem dX8_least_8 : decode cX8_least 8 = .ok (.iload_n 2, 1) := by decide +kernel
theorem dX8_least_9 : decode cX8_least 9 = .ok (.i2l, 1) := by decide +kernel
theorem dX8_least_10 : decode cX8_least 10 = .ok (.lconst 1, 1) := by decide +kernel
theorem dX8_least_11 : decode cX8_least 11 = .ok (.ldc2_w 101, 3) := by decide +kernel
theorem dX8_least_14 : decode cX8_least 14 = .ok (.invokestatic 60, 3) := by decide +kernel
theorem dX8_least_17 : decode cX8_least 17 = .ok (.ifCond .eq 15, 3) := by decide +kernel
theorem dX8_least_20 : decode cX8_least 20 = .ok (.iload_n 3, 1) := by decide +kernel
theorem dX8_least_21 : decode cX8_least 21 = .ok (.i2l, 1) := by decide +kernel
theorem dX8_least_22 : decode cX8_least 22 = .ok (.lconst 0, 1) := by decide +kernel
theorem dX8_least_23 : decode cX8_least 23 = .ok (.ldc2_w 209, 3) := by decide +kernel
theorem dX8_least_26 : decode cX8_least 26 = .ok (.invokestatic 60, 3) := by decide +kernel
theorem dX8_least_29 : decode cX8_least 29 = .ok (.ifCond .ne 8, 3) := by decide +kernel
theorem dX8_least_32 : decode cX8_least 32 = .ok (.aload_n 0, 1) := by decide +kernel
theorem dX8_least_33 : decode cX8_least 33 = .ok (.invokevirtual 103, 3) := by decide +kernel
theorem dX8_least_36 : decode cX8_least 36 = .ok (.ireturn, 1) := by decide +kernel
theorem dX8_least_37 : decode cX8_least 37 = .ok (.iconst 0, 1) := by decide +kernel
theorem dX8_least_38 : decode cX8_least 38 = .ok (.istore 4, 2) := by decide +kernel
theorem dX8_least_40 : decode cX8_least 40 = .ok (.iload 4, 2) := by decide +kernel
theorem dX8_least_42 : decode cX8_least 42 = .ok (.bipush 10, 2) := by decide +kernel
theorem dX8_least_44 : decode cX8_least 44 = .ok (.if_icmp .ge 71, 3) := by decide +kernel
theorem dX8_least_47 : decode cX8_least 47 = .ok (.aload_n 0, 1) := by decide +kernel
theorem dX8_least_48 : decode cX8_least 48 = .ok (.iload_n 1, 1) := by decide +kernel
theorem dX8_least_49 : decode cX8_least 49 = .ok (.invokevirtual 248, 3) := by decide +kernel
theorem dX8_least_52 : decode cX8_least 52 = .ok (.iconst 0, 1) := by decide +kernel
theorem dX8_least_53 : decode cX8_least 53 = .ok (.istore 5, 2) := by decide +kernel
theorem dX8_least_55 : decode cX8_least 55 = .ok (.iload 5, 2) := by decide +kernel
theorem dX8_least_57 : decode cX8_least 57 = .ok (.iload_n 3, 1) := by decide +kernel
theorem dX8_least_58 : decode cX8_least 58 = .ok (.if_icmp .ge 40, 3) := by decide +kernel
theorem dX8_least_61 : decode cX8_least 61 = .ok (.aload_n 0, 1) := by decide +kernel
theorem dX8_least_62 : decode cX8_least 62 = .ok (.getfield 29, 3) := by decide +kernel
theorem dX8_least_65 : decode cX8_least 65 = .ok (.iconst 0, 1) := by decide +kernel
theorem dX8_least_66 : decode cX8_least 66 = .ok (.aload_n 0, 1) := by decide +kernel
theorem dX8_least_67 : decode cX8_least 67 = .ok (.getfield 7, 3) := by decide +kernel
theorem dX8_least_70 : decode cX8_least 70 = .ok (.bipush 8, 2) := by decide +kernel
theorem dX8_least_72 : decode cX8_least 72 = .ok (.iload_n 1, 1) := by decide +kernel
theorem dX8_least_73 : decode cX8_least 73 = .ok (.iadd, 1) := by decide +kernel
theorem dX8_least_74 : decode cX8_least 74 = .ok (.iaload, 1) := by decide +kernel
theorem dX8_least_75 : decode cX8_least 75 = .ok (.aload_n 0, 1) := by decide +kernel
theorem dX8_least_76 : decode cX8_least 76 = .ok (.getfield 7, 3) := by decide +kernel
theorem dX8_least_79 : decode cX8_least 79 = .ok (.iconst 3, 1) := by decide +kernel
theorem dX8_least_80 : decode cX8_least 80 = .ok (.iaload, 1) := by decide +kernel
theorem dX8_least_81 : decode cX8_least 81 = .ok (.iload 5, 2) := by decide +kernel
theorem dX8_least_83 : decode cX8_least 83 = .ok (.iadd, 1) := by decide +kernel
theorem dX8_least_84 : decode cX8_least 84 = .ok (.iload 4, 2) := by decide +kernel
theorem dX8_least_86 : decode cX8_least 86 = .ok (.invokestatic 87, 3) := by decide +kernel
theorem dX8_least_89 : decode cX8_least 89 = .ok (.invokestatic 90, 3) := by decide +kernel
theorem dX8_least_92 : decode cX8_least 92 = .ok (.iinc 5 1, 3) := by decide +kernel
theorem dX8_least_95 : decode cX8_least 95 = .ok (.goto (-40), 3) := by decide +kernel
theorem dX8_least_98 : decode cX8_least 98 = .ok (.aload_n 0, 1) := by decide +kernel
theorem dX8_least_99 : decode cX8_least 99 = .ok (.invokevirtual 251, 3) := by decide +kernel
theorem dX8_least_102 : decode cX8_least 102 = .ok (.iload_n 2, 1) := by decide +kernel
theorem dX8_least_103 : decode cX8_least 103 = .ok (.if_icmp .lt 6, 3) := by decide +kernel
theorem dX8_least_106 : decode cX8_least 106 = .ok (.iload 4, 2) := by decide +kernel
theorem dX8_least_108 : decode cX8_least 108 = .ok (.ireturn, 1) := by decide +kernel
theorem dX8_least_109 : decode cX8_least 109 = .ok (.iinc 4 1, 3) := by decide +kernel
theorem dX8_least_112 : decode cX8_least 112 = .ok (.goto (-72), 3) := by decide +kernel
theorem dX8_least_115 : decode cX8_least 115 = .ok (.iconst (-1), 1) := by decide +kernel
theorem dX8_least_116 : decode cX8_least 116 = .ok (.ireturn, 1) := by decide +kernel
theorem dX8_throwsOf_0 : decode cX8_throwsOf 0 = .ok (.aload_n 0, 1) := by decide +kernel
theorem dX8_throwsOf_1 : decode cX8_throwsOf 1 = .ok (.iload_n 1, 1) := by decide +kernel
theorem dX8_throwsOf_2 : decode cX8_throwsOf 2 = .ok (.invokevirtual 223, 3) := by decide +kernel
theorem dX8_throwsOf_5 : decode cX8_throwsOf 5 = .ok (.ifCond .eq 25, 3) := by decide +kernel
theorem dX8_throwsOf_8 : decode cX8_throwsOf 8 = .ok (.iload_n 2, 1) := by decide +kernel
theorem dX8_throwsOf_9 : decode cX8_throwsOf 9 = .ok (.i2l, 1) := by decide +kernel
theorem dX8_throwsOf_10 : decode cX8_throwsOf 10 = .ok (.lconst 1, 1) := by decide +kernel
theorem dX8_throwsOf_11 : decode cX8_throwsOf 11 = .ok (.ldc2_w 101, 3) := by decide +kernel
theorem dX8_throwsOf_14 : decode cX8_throwsOf 14 = .ok (.invokestatic 60, 3) := by decide +kernel
theorem dX8_throwsOf_17 : decode cX8_throwsOf 17 = .ok (.ifCond .eq 13, 3) := by decide +kernel
theorem dX8_throwsOf_20 : decode cX8_throwsOf 20 = .ok (.iload_n 3, 1) := by decide +kernel
theorem dX8_throwsOf_21 : decode cX8_throwsOf 21 = .ok (.i2l, 1) := by decide +kernel
theorem dX8_throwsOf_22 : decode cX8_throwsOf 22 = .ok (.lconst 0, 1) := by decide +kernel
theorem dX8_throwsOf_23 : decode cX8_throwsOf 23 = .ok (.lconst 1, 1) := by decide +kernel
theorem dX8_throwsOf_24 : decode cX8_throwsOf 24 = .ok (.invokestatic 60, 3) := by decide +kernel
theorem dX8_throwsOf_27 : decode cX8_throwsOf 27 = .ok (.ifCond .ne 8, 3) := by decide +kernel
theorem dX8_throwsOf_30 : decode cX8_throwsOf 30 = .ok (.aload_n 0, 1) := by decide +kernel
theorem dX8_throwsOf_31 : decode cX8_throwsOf 31 = .ok (.invokevirtual 103, 3) := by decide +kernel
theorem dX8_throwsOf_34 : decode cX8_throwsOf 34 = .ok (.ireturn, 1) := by decide +kernel
theorem dX8_throwsOf_35 : decode cX8_throwsOf 35 = .ok (.iload_n 3, 1) := by decide +kernel
theorem dX8_throwsOf_36 : decode cX8_throwsOf 36 = .ok (.ifCond .ne 18, 3) := by decide +kernel
theorem dX8_throwsOf_39 : decode cX8_throwsOf 39 = .ok (.aload_n 0, 1) := by decide +kernel
theorem dX8_throwsOf_40 : decode cX8_throwsOf 40 = .ok (.iload_n 1, 1) := by decide +kernel
theorem dX8_throwsOf_41 : decode cX8_throwsOf 41 = .ok (.iload_n 2, 1) := by decide +kernel
theorem dX8_throwsOf_42 : decode cX8_throwsOf 42 = .ok (.aload_n 0, 1) := by decide +kernel
theorem dX8_throwsOf_43 : decode cX8_throwsOf 43 = .ok (.getfield 7, 3) := by decide +kernel
theorem dX8_throwsOf_46 : decode cX8_throwsOf 46 = .ok (.iconst 4, 1) := by decide +kernel
theorem dX8_throwsOf_47 : decode cX8_throwsOf 47 = .ok (.iaload, 1) := by decide +kernel
theorem dX8_throwsOf_48 : decode cX8_throwsOf 48 = .ok (.invokevirtual 79, 3) := by decide +kernel
theorem dX8_throwsOf_51 : decode cX8_throwsOf 51 = .ok (.goto 9, 3) := by decide +kernel
theorem dX8_throwsOf_54 : decode cX8_throwsOf 54 = .ok (.aload_n 0, 1) := by decide +kernel
theorem dX8_throwsOf_55 : decode cX8_throwsOf 55 = .ok (.iload_n 1, 1) := by decide +kernel
theorem dX8_throwsOf_56 : decode cX8_throwsOf 56 = .ok (.iload_n 2, 1) := by decide +kernel
theorem dX8_throwsOf_57 : decode cX8_throwsOf 57 = .ok (.invokevirtual 236, 3) := by decide +kernel
theorem dX8_throwsOf_60 : decode cX8_throwsOf 60 = .ok (.ireturn, 1) := by decide +kernel
theorem dX8_reach_0 : decode cX8_reach 0 = .ok (.aload_n 0, 1) := by decide +kernel
theorem dX8_reach_1 : decode cX8_reach 1 = .ok (.iload_n 1, 1) := by decide +kernel
theorem dX8_reach_2 : decode cX8_reach 2 = .ok (.invokevirtual 223, 3) := by decide +kernel
theorem dX8_reach_5 : decode cX8_reach 5 = .ok (.ifCond .eq 11, 3) := by decide +kernel
theorem dX8_reach_8 : decode cX8_reach 8 = .ok (.aload_n 0, 1) := by decide +kernel
theorem dX8_reach_9 : decode cX8_reach 9 = .ok (.iload_n 2, 1) := by decide +kernel
theorem dX8_reach_10 : decode cX8_reach 10 = .ok (.invokevirtual 226, 3) := by decide +kernel
theorem dX8_reach_13 : decode cX8_reach 13 = .ok (.ifCond .ne 8, 3) := by decide +kernel
theorem dX8_reach_16 : decode cX8_reach 16 = .ok (.aload_n 0, 1) := by decide +kernel
theorem dX8_reach_17 : decode cX8_reach 17 = .ok (.invokevirtual 103, 3) := by decide +kernel
theorem dX8_reach_20 : decode cX8_reach 20 = .ok (.ireturn, 1) := by decide +kernel
theorem dX8_reach_21 : decode cX8_reach 21 = .ok (.iconst 0, 1) := by decide +kernel
theorem dX8_reach_22 : decode cX8_reach 22 = .ok (.istore_n 3, 1) := by decide +kernel
theorem dX8_reach_23 : decode cX8_reach 23 = .ok (.iconst 1, 1) := by decide +kernel
theorem dX8_reach_24 : decode cX8_reach 24 = .ok (.istore 4, 2) := by decide +kernel
theorem dX8_reach_26 : decode cX8_reach 26 = .ok (.iload 4, 2) := by decide +kernel
theorem dX8_reach_28 : decode cX8_reach 28 = .ok (.bipush 10, 2) := by decide +kernel
theorem dX8_reach_30 : decode cX8_reach 30 = .ok (.if_icmp .ge 37, 3) := by decide +kernel
theorem dX8_reach_33 : decode cX8_reach 33 = .ok (.iload_n 3, 1) := by decide +kernel
theorem dX8_reach_34 : decode cX8_reach 34 = .ok (.aload_n 0, 1) := by decide +kernel
theorem dX8_reach_35 : decode cX8_reach 35 = .ok (.iload_n 1, 1) := by decide +kernel
theorem dX8_reach_36 : decode cX8_reach 36 = .ok (.iload 4, 2) := by decide +kernel
theorem dX8_reach_38 : decode cX8_reach 38 = .ok (.iload_n 2, 1) := by decide +kernel
theorem dX8_reach_39 : decode cX8_reach 39 = .ok (.aload_n 0, 1) := by decide +kernel
theorem dX8_reach_40 : decode cX8_reach 40 = .ok (.getfield 7, 3) := by decide +kernel
theorem dX8_reach_43 : decode cX8_reach 43 = .ok (.iconst 4, 1) := by decide +kernel
theorem dX8_reach_44 : decode cX8_reach 44 = .ok (.iaload, 1) := by decide +kernel
theorem dX8_reach_45 : decode cX8_reach 45 = .ok (.invokevirtual 232, 3) := by decide +kernel
theorem dX8_reach_48 : decode cX8_reach 48 = .ok (.ifCond .eq 10, 3) := by decide +kernel
theorem dX8_reach_51 : decode cX8_reach 51 = .ok (.iconst 1, 1) := by decide +kernel
theorem dX8_reach_52 : decode cX8_reach 52 = .ok (.iload 4, 2) := by decide +kernel
theorem dX8_reach_54 : decode cX8_reach 54 = .ok (.ishl, 1) := by decide +kernel
theorem dX8_reach_55 : decode cX8_reach 55 = .ok (.goto 4, 3) := by decide +kernel
theorem dX8_reach_58 : decode cX8_reach 58 = .ok (.iconst 0, 1) := by decide +kernel
theorem dX8_reach_59 : decode cX8_reach 59 = .ok (.ior, 1) := by decide +kernel
theorem dX8_reach_60 : decode cX8_reach 60 = .ok (.istore_n 3, 1) := by decide +kernel
theorem dX8_reach_61 : decode cX8_reach 61 = .ok (.iinc 4 1, 3) := by decide +kernel
theorem dX8_reach_64 : decode cX8_reach 64 = .ok (.goto (-38), 3) := by decide +kernel
theorem dX8_reach_67 : decode cX8_reach 67 = .ok (.iload_n 3, 1) := by decide +kernel
theorem dX8_reach_68 : decode cX8_reach 68 = .ok (.ireturn, 1) := by decide +kernel
theorem dX8_throwOne_0 : decode cX8_throwOne 0 = .ok (.iload_n 3, 1) := by decide +kernel
theorem dX8_throwOne_1 : decode cX8_throwOne 1 = .ok (.iconst 1, 1) := by decide +kernel
theorem dX8_throwOne_2 : decode cX8_throwOne 2 = .ok (.isub, 1) := by decide +kernel
theorem dX8_throwOne_3 : decode cX8_throwOne 3 = .ok (.istore 4, 2) := by decide +kernel
theorem dX8_throwOne_5 : decode cX8_throwOne 5 = .ok (.iload 4, 2) := by decide +kernel
theorem dX8_throwOne_7 : decode cX8_throwOne 7 = .ok (.ifCond .lt 73, 3) := by decide +kernel
theorem dX8_throwOne_10 : decode cX8_throwOne 10 = .ok (.iload 4, 2) := by decide +kernel
theorem dX8_throwOne_12 : decode cX8_throwOne 12 = .ok (.iload_n 2, 1) := by decide +kernel
theorem dX8_throwOne_13 : decode cX8_throwOne 13 = .ok (.iadd, 1) := by decide +kernel
theorem dX8_throwOne_14 : decode cX8_throwOne 14 = .ok (.iload_n 3, 1) := by decide +kernel
theorem dX8_throwOne_15 : decode cX8_throwOne 15 = .ok (.if_icmp .ge 10, 3) := by decide +kernel
theorem dX8_throwOne_18 : decode cX8_throwOne 18 = .ok (.iload 4, 2) := by decide +kernel
theorem dX8_throwOne_20 : decode cX8_throwOne 20 = .ok (.iload_n 2, 1) := by decide +kernel
theorem dX8_throwOne_21 : decode cX8_throwOne 21 = .ok (.iadd, 1) := by decide +kernel
theorem dX8_throwOne_22 : decode cX8_throwOne 22 = .ok (.goto 4, 3) := by decide +kernel
theorem dX8_throwOne_25 : decode cX8_throwOne 25 = .ok (.iload_n 3, 1) := by decide +kernel
theorem dX8_throwOne_26 : decode cX8_throwOne 26 = .ok (.istore 5, 2) := by decide +kernel
theorem dX8_throwOne_28 : decode cX8_throwOne 28 = .ok (.aload_n 0, 1) := by decide +kernel
theorem dX8_throwOne_29 : decode cX8_throwOne 29 = .ok (.getfield 32, 3) := by decide +kernel
theorem dX8_throwOne_32 : decode cX8_throwOne 32 = .ok (.iload 4, 2) := by decide +kernel
theorem dX8_throwOne_34 : decode cX8_throwOne 34 = .ok (.iaload, 1) := by decide +kernel
theorem dX8_throwOne_35 : decode cX8_throwOne 35 = .ok (.sipush 1000, 3) := by decide +kernel
theorem dX8_throwOne_38 : decode cX8_throwOne 38 = .ok (.iadd, 1) := by decide +kernel
theorem dX8_throwOne_39 : decode cX8_throwOne 39 = .ok (.iload_n 1, 1) := by decide +kernel
theorem dX8_throwOne_40 : decode cX8_throwOne 40 = .ok (.iadd, 1) := by decide +kernel
theorem dX8_throwOne_41 : decode cX8_throwOne 41 = .ok (.istore 6, 2) := by decide +kernel
theorem dX8_throwOne_43 : decode cX8_throwOne 43 = .ok (.aload_n 0, 1) := by decide +kernel
theorem dX8_throwOne_44 : decode cX8_throwOne 44 = .ok (.getfield 32, 3) := by decide +kernel
theorem dX8_throwOne_47 : decode cX8_throwOne 47 = .ok (.iload 5, 2) := by decide +kernel
theorem dX8_throwOne_49 : decode cX8_throwOne 49 = .ok (.iload 6, 2) := by decide +kernel
theorem dX8_throwOne_51 : decode cX8_throwOne 51 = .ok (.aload_n 0, 1) := by decide +kernel
theorem dX8_throwOne_52 : decode cX8_throwOne 52 = .ok (.getfield 32, 3) := by decide +kernel
theorem dX8_throwOne_55 : decode cX8_throwOne 55 = .ok (.iload 5, 2) := by decide +kernel
theorem dX8_throwOne_57 : decode cX8_throwOne 57 = .ok (.iaload, 1) := by decide +kernel
theorem dX8_throwOne_58 : decode cX8_throwOne 58 = .ok (.if_icmp .ge 8, 3) := by decide +kernel
theorem dX8_throwOne_61 : decode cX8_throwOne 61 = .ok (.iload 6, 2) := by decide +kernel
theorem dX8_throwOne_63 : decode cX8_throwOne 63 = .ok (.goto 10, 3) := by decide +kernel
theorem dX8_throwOne_66 : decode cX8_throwOne 66 = .ok (.aload_n 0, 1) := by decide +kernel
theorem dX8_throwOne_67 : decode cX8_throwOne 67 = .ok (.getfield 32, 3) := by decide +kernel
theorem dX8_throwOne_70 : decode cX8_throwOne 70 = .ok (.iload 5, 2) := by decide +kernel
theorem dX8_throwOne_72 : decode cX8_throwOne 72 = .ok (.iaload, 1) := by decide +kernel
theorem dX8_throwOne_73 : decode cX8_throwOne 73 = .ok (.iastore, 1) := by decide +kernel
theorem dX8_throwOne_74 : decode cX8_throwOne 74 = .ok (.iinc 4 (-1), 3) := by decide +kernel
theorem dX8_throwOne_77 : decode cX8_throwOne 77 = .ok (.goto (-72), 3) := by decide +kernel
theorem dX8_throwOne_80 : decode cX8_throwOne 80 = .ok (.return_, 1) := by decide +kernel
theorem dX8_turn_0 : decode cX8_turn 0 = .ok (.aload_n 0, 1) := by decide +kernel
theorem dX8_turn_1 : decode cX8_turn 1 = .ok (.iload_n 1, 1) := by decide +kernel
theorem dX8_turn_2 : decode cX8_turn 2 = .ok (.invokevirtual 226, 3) := by decide +kernel
theorem dX8_turn_5 : decode cX8_turn 5 = .ok (.ifCond .eq 30, 3) := by decide +kernel
theorem dX8_turn_8 : decode cX8_turn 8 = .ok (.aload_n 0, 1) := by decide +kernel
theorem dX8_turn_9 : decode cX8_turn 9 = .ok (.iload_n 2, 1) := by decide +kernel
theorem dX8_turn_10 : decode cX8_turn 10 = .ok (.invokevirtual 223, 3) := by decide +kernel
theorem dX8_turn_13 : decode cX8_turn 13 = .ok (.ifCond .eq 22, 3) := by decide +kernel
theorem dX8_turn_16 : decode cX8_turn 16 = .ok (.aload_n 0, 1) := by decide +kernel
theorem dX8_turn_17 : decode cX8_turn 17 = .ok (.iload_n 3, 1) := by decide +kernel
theorem dX8_turn_18 : decode cX8_turn 18 = .ok (.invokevirtual 116, 3) := by decide +kernel
theorem dX8_turn_21 : decode cX8_turn 21 = .ok (.ifCond .eq 14, 3) := by decide +kernel
theorem dX8_turn_24 : decode cX8_turn 24 = .ok (.iload 4, 2) := by decide +kernel
theorem dX8_turn_26 : decode cX8_turn 26 = .ok (.i2l, 1) := by decide +kernel
theorem dX8_turn_27 : decode cX8_turn 27 = .ok (.lconst 0, 1) := by decide +kernel
theorem dX8_turn_28 : decode cX8_turn 28 = .ok (.lconst 1, 1) := by decide +kernel
theorem dX8_turn_29 : decode cX8_turn 29 = .ok (.invokestatic 60, 3) := by decide +kernel
theorem dX8_turn_32 : decode cX8_turn 32 = .ok (.ifCond .ne 8, 3) := by decide +kernel
theorem dX8_turn_35 : decode cX8_turn 35 = .ok (.aload_n 0, 1) := by decide +kernel
theorem dX8_turn_36 : decode cX8_turn 36 = .ok (.invokevirtual 103, 3) := by decide +kernel
theorem dX8_turn_39 : decode cX8_turn 39 = .ok (.ireturn, 1) := by decide +kernel
theorem dX8_turn_40 : decode cX8_turn 40 = .ok (.aload_n 0, 1) := by decide +kernel
theorem dX8_turn_41 : decode cX8_turn 41 = .ok (.getfield 7, 3) := by decide +kernel
theorem dX8_turn_44 : decode cX8_turn 44 = .ok (.bipush 84, 2) := by decide +kernel
theorem dX8_turn_46 : decode cX8_turn 46 = .ok (.iload_n 1, 1) := by decide +kernel
theorem dX8_turn_47 : decode cX8_turn 47 = .ok (.iadd, 1) := by decide +kernel
theorem dX8_turn_48 : decode cX8_turn 48 = .ok (.iaload, 1) := by decide +kernel
theorem dX8_turn_49 : decode cX8_turn 49 = .ok (.aload_n 0, 1) := by decide +kernel
theorem dX8_turn_50 : decode cX8_turn 50 = .ok (.getfield 7, 3) := by decide +kernel
theorem dX8_turn_53 : decode cX8_turn 53 = .ok (.bipush 88, 2) := by decide +kernel
theorem dX8_turn_55 : decode cX8_turn 55 = .ok (.iload_n 1, 1) := by decide +kernel
theorem dX8_turn_56 : decode cX8_turn 56 = .ok (.iadd, 1) := by decide +kernel
theorem dX8_turn_57 : decode cX8_turn 57 = .ok (.iaload, 1) := by decide +kernel
theorem dX8_turn_58 : decode cX8_turn 58 = .ok (.isub, 1) := by decide +kernel
theorem dX8_turn_59 : decode cX8_turn 59 = .ok (.invokestatic 64, 3) := by decide +kernel
theorem dX8_turn_62 : decode cX8_turn 62 = .ok (.istore 5, 2) := by decide +kernel
theorem dX8_turn_64 : decode cX8_turn 64 = .ok (.iconst 0, 1) := by decide +kernel
theorem dX8_turn_65 : decode cX8_turn 65 = .ok (.istore 6, 2) := by decide +kernel
theorem dX8_turn_67 : decode cX8_turn 67 = .ok (.iload 6, 2) := by decide +kernel
theorem dX8_turn_69 : decode cX8_turn 69 = .ok (.bipush 41, 2) := by decide +kernel
theorem dX8_turn_71 : decode cX8_turn 71 = .ok (.if_icmp .ge 27, 3) := by decide +kernel
theorem dX8_turn_74 : decode cX8_turn 74 = .ok (.aload_n 0, 1) := by decide +kernel
theorem dX8_turn_75 : decode cX8_turn 75 = .ok (.getfield 32, 3) := by decide +kernel
theorem dX8_turn_78 : decode cX8_turn 78 = .ok (.iload 6, 2) := by decide +kernel
theorem dX8_turn_80 : decode cX8_turn 80 = .ok (.iload 6, 2) := by decide +kernel
theorem dX8_turn_82 : decode cX8_turn 82 = .ok (.ifCond .ne 7, 3) := by decide +kernel
theorem dX8_turn_85 : decode cX8_turn 85 = .ok (.iconst 0, 1) := by decide +kernel
theorem dX8_turn_86 : decode cX8_turn 86 = .ok (.goto 5, 3) := by decide +kernel
theorem dX8_turn_89 : decode cX8_turn 89 = .ok (.ldc 160, 2) := by decide +kernel
theorem dX8_turn_91 : decode cX8_turn 91 = .ok (.iastore, 1) := by decide +kernel
theorem dX8_turn_92 : decode cX8_turn 92 = .ok (.iinc 6 1, 3) := by decide +kernel
theorem dX8_turn_95 : decode cX8_turn 95 = .ok (.goto (-28), 3) := by decide +kernel
theorem dX8_turn_98 : decode cX8_turn 98 = .ok (.iconst 1, 1) := by decide +kernel
theorem dX8_turn_99 : decode cX8_turn 99 = .ok (.istore 6, 2) := by decide +kernel
theorem dX8_turn_101 : decode cX8_turn 101 = .ok (.iload 6, 2) := by decide +kernel
theorem dX8_turn_103 : decode cX8_turn 103 = .ok (.bipush 10, 2) := by decide +kernel
theorem dX8_turn_105 : decode cX8_turn 105 = .ok (.if_icmp .ge 77, 3) := by decide +kernel
theorem dX8_turn_108 : decode cX8_turn 108 = .ok (.iconst 0, 1) := by decide +kernel
theorem dX8_turn_109 : decode cX8_turn 109 = .ok (.istore 7, 2) := by decide +kernel
theorem dX8_turn_111 : decode cX8_turn 111 = .ok (.iload 7, 2) := by decide +kernel
theorem dX8_turn_113 : decode cX8_turn 113 = .ok (.aload_n 0, 1) := by decide +kernel
theorem dX8_turn_114 : decode cX8_turn 114 = .ok (.getfield 7, 3) := by decide +kernel
theorem dX8_turn_117 : decode cX8_turn 117 = .ok (.bipush 18, 2) := by decide +kernel
theorem dX8_turn_119 : decode cX8_turn 119 = .ok (.bipush 10, 2) := by decide +kernel
theorem dX8_turn_121 : decode cX8_turn 121 = .ok (.iload_n 3, 1) := by decide +kernel
theorem dX8_turn_122 : decode cX8_turn 122 = .ok (.imul, 1) := by decide +kernel
theorem dX8_turn_123 : decode cX8_turn 123 = .ok (.iadd, 1) := by decide +kernel
theorem dX8_turn_124 : decode cX8_turn 124 = .ok (.iload 6, 2) := by decide +kernel
theorem dX8_turn_126 : decode cX8_turn 126 = .ok (.iadd, 1) := by decide +kernel
theorem dX8_turn_127 : decode cX8_turn 127 = .ok (.iaload, 1) := by decide +kernel
theorem dX8_turn_128 : decode cX8_turn 128 = .ok (.if_icmp .ge 48, 3) := by decide +kernel
theorem dX8_turn_131 : decode cX8_turn 131 = .ok (.iload 7, 2) := by decide +kernel
theorem dX8_turn_133 : decode cX8_turn 133 = .ok (.bipush 40, 2) := by decide +kernel
theorem dX8_turn_135 : decode cX8_turn 135 = .ok (.if_icmp .ge 41, 3) := by decide +kernel
theorem dX8_turn_138 : decode cX8_turn 138 = .ok (.aload_n 0, 1) := by decide +kernel
theorem dX8_turn_139 : decode cX8_turn 139 = .ok (.iload_n 2, 1) := by decide +kernel
theorem dX8_turn_140 : decode cX8_turn 140 = .ok (.iload 6, 2) := by decide +kernel
theorem dX8_turn_142 : decode cX8_turn 142 = .ok (.iload_n 1, 1) := by decide +kernel
theorem dX8_turn_143 : decode cX8_turn 143 = .ok (.aload_n 0, 1) := by decide +kernel
theorem dX8_turn_144 : decode cX8_turn 144 = .ok (.getfield 7, 3) := by decide +kernel
theorem dX8_turn_147 : decode cX8_turn 147 = .ok (.iconst 4, 1) := by decide +kernel
theorem dX8_turn_148 : decode cX8_turn 148 = .ok (.iaload, 1) := by decide +kernel
theorem dX8_turn_149 : decode cX8_turn 149 = .ok (.invokevirtual 232, 3) := by decide +kernel
theorem dX8_turn_152 : decode cX8_turn 152 = .ok (.ifCond .eq 24, 3) := by decide +kernel
theorem dX8_turn_155 : decode cX8_turn 155 = .ok (.aload_n 0, 1) := by decide +kernel
theorem dX8_turn_156 : decode cX8_turn 156 = .ok (.iload 6, 2) := by decide +kernel
theorem dX8_turn_158 : decode cX8_turn 158 = .ok (.aload_n 0, 1) := by decide +kernel
theorem dX8_turn_159 : decode cX8_turn 159 = .ok (.iload_n 2, 1) := by decide +kernel
theorem dX8_turn_160 : decode cX8_turn 160 = .ok (.iload 6, 2) := by decide +kernel
theorem dX8_turn_162 : decode cX8_turn 162 = .ok (.invokevirtual 236, 3) := by decide +kernel
theorem dX8_turn_165 : decode cX8_turn 165 = .ok (.iload 5, 2) := by decide +kernel
theorem dX8_turn_167 : decode cX8_turn 167 = .ok (.invokevirtual 254, 3) := by decide +kernel
theorem dX8_turn_170 : decode cX8_turn 170 = .ok (.iinc 7 1, 3) := by decide +kernel
theorem dX8_turn_173 : decode cX8_turn 173 = .ok (.goto (-62), 3) := by decide +kernel
theorem dX8_turn_176 : decode cX8_turn 176 = .ok (.iinc 6 1, 3) := by decide +kernel
theorem dX8_turn_179 : decode cX8_turn 179 = .ok (.goto (-78), 3) := by decide +kernel
theorem dX8_turn_182 : decode cX8_turn 182 = .ok (.aload_n 0, 1) := by decide +kernel
theorem dX8_turn_183 : decode cX8_turn 183 = .ok (.getfield 32, 3) := by decide +kernel
theorem dX8_turn_186 : decode cX8_turn 186 = .ok (.iload 5, 2) := by decide +kernel
theorem dX8_turn_188 : decode cX8_turn 188 = .ok (.iaload, 1) := by decide +kernel
theorem dX8_turn_189 : decode cX8_turn 189 = .ok (.ldc 160, 2) := by decide +kernel
theorem dX8_turn_191 : decode cX8_turn 191 = .ok (.if_icmp .lt 5, 3) := by decide +kernel
theorem dX8_turn_194 : decode cX8_turn 194 = .ok (.iconst (-1), 1) := by decide +kernel
theorem dX8_turn_195 : decode cX8_turn 195 = .ok (.ireturn, 1) := by decide +kernel
theorem dX8_turn_196 : decode cX8_turn 196 = .ok (.iload 4, 2) := by decide +kernel
theorem dX8_turn_198 : decode cX8_turn 198 = .ok (.ifCond .ne 17, 3) := by decide +kernel
theorem dX8_turn_201 : decode cX8_turn 201 = .ok (.aload_n 0, 1) := by decide +kernel
theorem dX8_turn_202 : decode cX8_turn 202 = .ok (.getfield 32, 3) := by decide +kernel
theorem dX8_turn_205 : decode cX8_turn 205 = .ok (.iload 5, 2) := by decide +kernel
theorem dX8_turn_207 : decode cX8_turn 207 = .ok (.iaload, 1) := by decide +kernel
theorem dX8_turn_208 : decode cX8_turn 208 = .ok (.sipush 1000, 3) := by decide +kernel
theorem dX8_turn_211 : decode cX8_turn 211 = .ok (.idiv, 1) := by decide +kernel
theorem dX8_turn_212 : decode cX8_turn 212 = .ok (.goto 14, 3) := by decide +kernel
theorem dX8_turn_215 : decode cX8_turn 215 = .ok (.aload_n 0, 1) := by decide +kernel
theorem dX8_turn_216 : decode cX8_turn 216 = .ok (.getfield 32, 3) := by decide +kernel
theorem dX8_turn_219 : decode cX8_turn 219 = .ok (.iload 5, 2) := by decide +kernel
theorem dX8_turn_221 : decode cX8_turn 221 = .ok (.iaload, 1) := by decide +kernel
theorem dX8_turn_222 : decode cX8_turn 222 = .ok (.sipush 1000, 3) := by decide +kernel
theorem dX8_turn_225 : decode cX8_turn 225 = .ok (.irem, 1) := by decide +kernel
theorem dX8_turn_226 : decode cX8_turn 226 = .ok (.ireturn, 1) := by decide +kernel
theorem dX8_ways_0 : decode cX8_ways 0 = .ok (.iconst 1, 1) := by decide +kernel
theorem dX8_ways_1 : decode cX8_ways 1 = .ok (.istore_n 1, 1) := by decide +kernel
theorem dX8_ways_2 : decode cX8_ways 2 = .ok (.iconst 0, 1) := by decide +kernel
theorem dX8_ways_3 : decode cX8_ways 3 = .ok (.istore_n 2, 1) := by decide +kernel
theorem dX8_ways_4 : decode cX8_ways 4 = .ok (.iload_n 2, 1) := by decide +kernel
theorem dX8_ways_5 : decode cX8_ways 5 = .ok (.aload_n 0, 1) := by decide +kernel
theorem dX8_ways_6 : decode cX8_ways 6 = .ok (.getfield 7, 3) := by decide +kernel
theorem dX8_ways_9 : decode cX8_ways 9 = .ok (.iconst 1, 1) := by decide +kernel
theorem dX8_ways_10 : decode cX8_ways 10 = .ok (.iaload, 1) := by decide +kernel
theorem dX8_ways_11 : decode cX8_ways 11 = .ok (.if_icmp .ge 18, 3) := by decide +kernel
theorem dX8_ways_14 : decode cX8_ways 14 = .ok (.iload_n 1, 1) := by decide +kernel
theorem dX8_ways_15 : decode cX8_ways 15 = .ok (.aload_n 0, 1) := by decide +kernel
theorem dX8_ways_16 : decode cX8_ways 16 = .ok (.getfield 7, 3) := by decide +kernel
theorem dX8_ways_19 : decode cX8_ways 19 = .ok (.iconst 2, 1) := by decide +kernel
theorem dX8_ways_20 : decode cX8_ways 20 = .ok (.iaload, 1) := by decide +kernel
theorem dX8_ways_21 : decode cX8_ways 21 = .ok (.imul, 1) := by decide +kernel
theorem dX8_ways_22 : decode cX8_ways 22 = .ok (.istore_n 1, 1) := by decide +kernel
theorem dX8_ways_23 : decode cX8_ways 23 = .ok (.iinc 2 1, 3) := by decide +kernel
theorem dX8_ways_26 : decode cX8_ways 26 = .ok (.goto (-22), 3) := by decide +kernel
theorem dX8_ways_29 : decode cX8_ways 29 = .ok (.iload_n 1, 1) := by decide +kernel
theorem dX8_ways_30 : decode cX8_ways 30 = .ok (.ireturn, 1) := by decide +kernel
theorem dX8_cloudOf_0 : decode cX8_cloudOf 0 = .ok (.iload_n 1, 1) := by decide +kernel
theorem dX8_cloudOf_1 : decode cX8_cloudOf 1 = .ok (.istore_n 3, 1) := by decide +kernel
theorem dX8_cloudOf_2 : decode cX8_cloudOf 2 = .ok (.aload_n 0, 1) := by decide +kernel
theorem dX8_cloudOf_3 : decode cX8_cloudOf 3 = .ok (.getfield 7, 3) := by decide +kernel
theorem dX8_cloudOf_6 : decode cX8_cloudOf 6 = .ok (.iconst 1, 1) := by decide +kernel
theorem dX8_cloudOf_7 : decode cX8_cloudOf 7 = .ok (.iaload, 1) := by decide +kernel
theorem dX8_cloudOf_8 : decode cX8_cloudOf 8 = .ok (.iconst 1, 1) := by decide +kernel
theorem dX8_cloudOf_9 : decode cX8_cloudOf 9 = .ok (.isub, 1) := by decide +kernel
theorem dX8_cloudOf_10 : decode cX8_cloudOf 10 = .ok (.istore 4, 2) := by decide +kernel
theorem dX8_cloudOf_12 : decode cX8_cloudOf 12 = .ok (.iload 4, 2) := by decide +kernel
theorem dX8_cloudOf_14 : decode cX8_cloudOf 14 = .ok (.iload_n 2, 1) := by decide +kernel
theorem dX8_cloudOf_15 : decode cX8_cloudOf 15 = .ok (.if_icmp .le 18, 3) := by decide +kernel
theorem dX8_cloudOf_18 : decode cX8_cloudOf 18 = .ok (.iload_n 3, 1) := by decide +kernel
theorem dX8_cloudOf_19 : decode cX8_cloudOf 19 = .ok (.aload_n 0, 1) := by decide +kernel
theorem dX8_cloudOf_20 : decode cX8_cloudOf 20 = .ok (.getfield 7, 3) := by decide +kernel
theorem dX8_cloudOf_23 : decode cX8_cloudOf 23 = .ok (.iconst 2, 1) := by decide +kernel
theorem dX8_cloudOf_24 : decode cX8_cloudOf 24 = .ok (.iaload, 1) := by decide +kernel
theorem dX8_cloudOf_25 : decode cX8_cloudOf 25 = .ok (.idiv, 1) := by decide +kernel
theorem dX8_cloudOf_26 : decode cX8_cloudOf 26 = .ok (.istore_n 3, 1) := by decide +kernel
theorem dX8_cloudOf_27 : decode cX8_cloudOf 27 = .ok (.iinc 4 (-1), 3) := by decide +kernel
theorem dX8_cloudOf_30 : decode cX8_cloudOf 30 = .ok (.goto (-18), 3) := by decide +kernel
theorem dX8_cloudOf_33 : decode cX8_cloudOf 33 = .ok (.iload_n 3, 1) := by decide +kernel
theorem dX8_cloudOf_34 : decode cX8_cloudOf 34 = .ok (.aload_n 0, 1) := by decide +kernel
theorem dX8_cloudOf_35 : decode cX8_cloudOf 35 = .ok (.getfield 7, 3) := by decide +kernel
theorem dX8_cloudOf_38 : decode cX8_cloudOf 38 = .ok (.iconst 2, 1) := by decide +kernel
theorem dX8_cloudOf_39 : decode cX8_cloudOf 39 = .ok (.iaload, 1) := by decide +kernel
theorem dX8_cloudOf_40 : decode cX8_cloudOf 40 = .ok (.irem, 1) := by decide +kernel
theorem dX8_cloudOf_41 : decode cX8_cloudOf 41 = .ok (.ireturn, 1) := by decide +kernel
theorem dX8_anHour_0 : decode cX8_anHour 0 = .ok (.iconst 0, 1) := by decide +kernel
theorem dX8_anHour_1 : decode cX8_anHour 1 = .ok (.istore_n 3, 1) := by decide +kernel
theorem dX8_anHour_2 : decode cX8_anHour 2 = .ok (.iload_n 3, 1) := by decide +kernel
theorem dX8_anHour_3 : decode cX8_anHour 3 = .ok (.aload_n 0, 1) := by decide +kernel
theorem dX8_anHour_4 : decode cX8_anHour 4 = .ok (.getfield 7, 3) := by decide +kernel
theorem dX8_anHour_7 : decode cX8_anHour 7 = .ok (.iconst 1, 1) := by decide +kernel
theorem dX8_anHour_8 : decode cX8_anHour 8 = .ok (.iaload, 1) := by decide +kernel
theorem dX8_anHour_9 : decode cX8_anHour 9 = .ok (.if_icmp .ge 81, 3) := by decide +kernel
theorem dX8_anHour_12 : decode cX8_anHour 12 = .ok (.aload_n 0, 1) := by decide +kernel
theorem dX8_anHour_13 : decode cX8_anHour 13 = .ok (.iload_n 1, 1) := by decide +kernel
theorem dX8_anHour_14 : decode cX8_anHour 14 = .ok (.iload_n 3, 1) := by decide +kernel
theorem dX8_anHour_15 : decode cX8_anHour 15 = .ok (.invokevirtual 258, 3) := by decide +kernel
theorem dX8_anHour_18 : decode cX8_anHour 18 = .ok (.istore 4, 2) := by decide +kernel
theorem dX8_anHour_20 : decode cX8_anHour 20 = .ok (.aload_n 0, 1) := by decide +kernel
theorem dX8_anHour_21 : decode cX8_anHour 21 = .ok (.getfield 35, 3) := by decide +kernel
theorem dX8_anHour_24 : decode cX8_anHour 24 = .ok (.iload 4, 2) := by decide +kernel
theorem dX8_anHour_26 : decode cX8_anHour 26 = .ok (.iaload, 1) := by decide +kernel
theorem dX8_anHour_27 : decode cX8_anHour 27 = .ok (.ifCond .le 29, 3) := by decide +kernel
theorem dX8_anHour_30 : decode cX8_anHour 30 = .ok (.aload_n 0, 1) := by decide +kernel
theorem dX8_anHour_31 : decode cX8_anHour 31 = .ok (.getfield 35, 3) := by decide +kernel
theorem dX8_anHour_34 : decode cX8_anHour 34 = .ok (.iload 4, 2) := by decide +kernel
theorem dX8_anHour_36 : decode cX8_anHour 36 = .ok (.iaload, 1) := by decide +kernel
theorem dX8_anHour_37 : decode cX8_anHour 37 = .ok (.aload_n 0, 1) := by decide +kernel
theorem dX8_anHour_38 : decode cX8_anHour 38 = .ok (.iload_n 3, 1) := by decide +kernel
theorem dX8_anHour_39 : decode cX8_anHour 39 = .ok (.iload_n 2, 1) := by decide +kernel
theorem dX8_anHour_40 : decode cX8_anHour 40 = .ok (.aload_n 0, 1) := by decide +kernel
theorem dX8_anHour_41 : decode cX8_anHour 41 = .ok (.getfield 7, 3) := by decide +kernel
theorem dX8_anHour_44 : decode cX8_anHour 44 = .ok (.iconst 4, 1) := by decide +kernel
theorem dX8_anHour_45 : decode cX8_anHour 45 = .ok (.iaload, 1) := by decide +kernel
theorem dX8_anHour_46 : decode cX8_anHour 46 = .ok (.invokevirtual 79, 3) := by decide +kernel
theorem dX8_anHour_49 : decode cX8_anHour 49 = .ok (.if_icmp .gt 7, 3) := by decide +kernel
theorem dX8_anHour_52 : decode cX8_anHour 52 = .ok (.iconst 1, 1) := by decide +kernel
theorem dX8_anHour_53 : decode cX8_anHour 53 = .ok (.goto 4, 3) := by decide +kernel
theorem dX8_anHour_56 : decode cX8_anHour 56 = .ok (.iconst 0, 1) := by decide +kernel
theorem dX8_anHour_57 : decode cX8_anHour 57 = .ok (.istore 5, 2) := by decide +kernel
theorem dX8_anHour_59 : decode cX8_anHour 59 = .ok (.aload_n 0, 1) := by decide +kernel
theorem dX8_anHour_60 : decode cX8_anHour 60 = .ok (.getfield 38, 3) := by decide +kernel
theorem dX8_anHour_63 : decode cX8_anHour 63 = .ok (.iload 4, 2) := by decide +kernel
theorem dX8_anHour_65 : decode cX8_anHour 65 = .ok (.dup2, 1) := by decide +kernel
theorem dX8_anHour_66 : decode cX8_anHour 66 = .ok (.iaload, 1) := by decide +kernel
theorem dX8_anHour_67 : decode cX8_anHour 67 = .ok (.iload 5, 2) := by decide +kernel
theorem dX8_anHour_69 : decode cX8_anHour 69 = .ok (.ifCond .eq 12, 3) := by decide +kernel
theorem dX8_anHour_72 : decode cX8_anHour 72 = .ok (.aload_n 0, 1) := by decide +kernel
theorem dX8_anHour_73 : decode cX8_anHour 73 = .ok (.iload_n 3, 1) := by decide +kernel
theorem dX8_anHour_74 : decode cX8_anHour 74 = .ok (.iload_n 2, 1) := by decide +kernel
theorem dX8_anHour_75 : decode cX8_anHour 75 = .ok (.invokevirtual 236, 3) := by decide +kernel
theorem dX8_anHour_78 : decode cX8_anHour 78 = .ok (.goto 4, 3) := by decide +kernel
theorem dX8_anHour_81 : decode cX8_anHour 81 = .ok (.iconst 0, 1) := by decide +kernel
theorem dX8_anHour_82 : decode cX8_anHour 82 = .ok (.iadd, 1) := by decide +kernel
theorem dX8_anHour_83 : decode cX8_anHour 83 = .ok (.iastore, 1) := by decide +kernel
theorem dX8_anHour_84 : decode cX8_anHour 84 = .ok (.iinc 3 1, 3) := by decide +kernel
theorem dX8_anHour_87 : decode cX8_anHour 87 = .ok (.goto (-85), 3) := by decide +kernel
theorem dX8_anHour_90 : decode cX8_anHour 90 = .ok (.iconst 0, 1) := by decide +kernel
theorem dX8_anHour_91 : decode cX8_anHour 91 = .ok (.istore_n 3, 1) := by decide +kernel
theorem dX8_anHour_92 : decode cX8_anHour 92 = .ok (.iload_n 3, 1) := by decide +kernel
theorem dX8_anHour_93 : decode cX8_anHour 93 = .ok (.aload_n 0, 1) := by decide +kernel
theorem dX8_anHour_94 : decode cX8_anHour 94 = .ok (.getfield 7, 3) := by decide +kernel
theorem dX8_anHour_97 : decode cX8_anHour 97 = .ok (.iconst 2, 1) := by decide +kernel
theorem dX8_anHour_98 : decode cX8_anHour 98 = .ok (.iaload, 1) := by decide +kernel
theorem dX8_anHour_99 : decode cX8_anHour 99 = .ok (.if_icmp .ge 50, 3) := by decide +kernel
theorem dX8_anHour_102 : decode cX8_anHour 102 = .ok (.aload_n 0, 1) := by decide +kernel
theorem dX8_anHour_103 : decode cX8_anHour 103 = .ok (.getfield 35, 3) := by decide +kernel
theorem dX8_anHour_106 : decode cX8_anHour 106 = .ok (.iload_n 3, 1) := by decide +kernel
theorem dX8_anHour_107 : decode cX8_anHour 107 = .ok (.dup2, 1) := by decide +kernel
theorem dX8_anHour_108 : decode cX8_anHour 108 = .ok (.iaload, 1) := by decide +kernel
theorem dX8_anHour_109 : decode cX8_anHour 109 = .ok (.aload_n 0, 1) := by decide +kernel
theorem dX8_anHour_110 : decode cX8_anHour 110 = .ok (.getfield 38, 3) := by decide +kernel
theorem dX8_anHour_113 : decode cX8_anHour 113 = .ok (.iload_n 3, 1) := by decide +kernel
theorem dX8_anHour_114 : decode cX8_anHour 114 = .ok (.iaload, 1) := by decide +kernel
theorem dX8_anHour_115 : decode cX8_anHour 115 = .ok (.aload_n 0, 1) := by decide +kernel
theorem dX8_anHour_116 : decode cX8_anHour 116 = .ok (.getfield 7, 3) := by decide +kernel
theorem dX8_anHour_119 : decode cX8_anHour 119 = .ok (.bipush 84, 2) := by decide +kernel
theorem dX8_anHour_121 : decode cX8_anHour 121 = .ok (.iload_n 3, 1) := by decide +kernel
theorem dX8_anHour_122 : decode cX8_anHour 122 = .ok (.iadd, 1) := by decide +kernel
theorem dX8_anHour_123 : decode cX8_anHour 123 = .ok (.iaload, 1) := by decide +kernel
theorem dX8_anHour_124 : decode cX8_anHour 124 = .ok (.if_icmp .ge 16, 3) := by decide +kernel
theorem dX8_anHour_127 : decode cX8_anHour 127 = .ok (.aload_n 0, 1) := by decide +kernel
theorem dX8_anHour_128 : decode cX8_anHour 128 = .ok (.getfield 35, 3) := by decide +kernel
theorem dX8_anHour_131 : decode cX8_anHour 131 = .ok (.iload_n 3, 1) := by decide +kernel
theorem dX8_anHour_132 : decode cX8_anHour 132 = .ok (.iaload, 1) := by decide +kernel
theorem dX8_anHour_133 : decode cX8_anHour 133 = .ok (.ifCond .le 7, 3) := by decide +kernel
theorem dX8_anHour_136 : decode cX8_anHour 136 = .ok (.iconst 1, 1) := by decide +kernel
theorem dX8_anHour_137 : decode cX8_anHour 137 = .ok (.goto 4, 3) := by decide +kernel
theorem dX8_anHour_140 : decode cX8_anHour 140 = .ok (.iconst 0, 1) := by decide +kernel
theorem dX8_anHour_141 : decode cX8_anHour 141 = .ok (.isub, 1) := by decide +kernel
theorem dX8_anHour_142 : decode cX8_anHour 142 = .ok (.iastore, 1) := by decide +kernel
theorem dX8_anHour_143 : decode cX8_anHour 143 = .ok (.iinc 3 1, 3) := by decide +kernel
theorem dX8_anHour_146 : decode cX8_anHour 146 = .ok (.goto (-54), 3) := by decide +kernel
theorem dX8_anHour_149 : decode cX8_anHour 149 = .ok (.return_, 1) := by decide +kernel
theorem dX8_turnedBy_0 : decode cX8_turnedBy 0 = .ok (.iconst 0, 1) := by decide +kernel
theorem dX8_turnedBy_1 : decode cX8_turnedBy 1 = .ok (.istore_n 3, 1) := by decide +kernel
theorem dX8_turnedBy_2 : decode cX8_turnedBy 2 = .ok (.iload_n 3, 1) := by decide +kernel
theorem dX8_turnedBy_3 : decode cX8_turnedBy 3 = .ok (.aload_n 0, 1) := by decide +kernel
theorem dX8_turnedBy_4 : decode cX8_turnedBy 4 = .ok (.getfield 7, 3) := by decide +kernel
theorem dX8_turnedBy_7 : decode cX8_turnedBy 7 = .ok (.iconst 2, 1) := by decide +kernel
theorem dX8_turnedBy_8 : decode cX8_turnedBy 8 = .ok (.iaload, 1) := by decide +kernel
theorem dX8_turnedBy_9 : decode cX8_turnedBy 9 = .ok (.if_icmp .ge 39, 3) := by decide +kernel
theorem dX8_turnedBy_12 : decode cX8_turnedBy 12 = .ok (.aload_n 0, 1) := by decide +kernel
theorem dX8_turnedBy_13 : decode cX8_turnedBy 13 = .ok (.getfield 35, 3) := by decide +kernel
theorem dX8_turnedBy_16 : decode cX8_turnedBy 16 = .ok (.iload_n 3, 1) := by decide +kernel
theorem dX8_turnedBy_17 : decode cX8_turnedBy 17 = .ok (.aload_n 0, 1) := by decide +kernel
theorem dX8_turnedBy_18 : decode cX8_turnedBy 18 = .ok (.getfield 7, 3) := by decide +kernel
theorem dX8_turnedBy_21 : decode cX8_turnedBy 21 = .ok (.bipush 80, 2) := by decide +kernel
theorem dX8_turnedBy_23 : decode cX8_turnedBy 23 = .ok (.iload_n 3, 1) := by decide +kernel
theorem dX8_turnedBy_24 : decode cX8_turnedBy 24 = .ok (.iadd, 1) := by decide +kernel
theorem dX8_turnedBy_25 : decode cX8_turnedBy 25 = .ok (.iaload, 1) := by decide +kernel
theorem dX8_turnedBy_26 : decode cX8_turnedBy 26 = .ok (.iastore, 1) := by decide +kernel
theorem dX8_turnedBy_27 : decode cX8_turnedBy 27 = .ok (.aload_n 0, 1) := by decide +kernel
theorem dX8_turnedBy_28 : decode cX8_turnedBy 28 = .ok (.getfield 38, 3) := by decide +kernel
theorem dX8_turnedBy_31 : decode cX8_turnedBy 31 = .ok (.iload_n 3, 1) := by decide +kernel
theorem dX8_turnedBy_32 : decode cX8_turnedBy 32 = .ok (.aload_n 0, 1) := by decide +kernel
theorem dX8_turnedBy_33 : decode cX8_turnedBy 33 = .ok (.getfield 7, 3) := by decide +kernel
theorem dX8_turnedBy_36 : decode cX8_turnedBy 36 = .ok (.bipush 88, 2) := by decide +kernel
theorem dX8_turnedBy_38 : decode cX8_turnedBy 38 = .ok (.iload_n 3, 1) := by decide +kernel
theorem dX8_turnedBy_39 : decode cX8_turnedBy 39 = .ok (.iadd, 1) := by decide +kernel
theorem dX8_turnedBy_40 : decode cX8_turnedBy 40 = .ok (.iaload, 1) := by decide +kernel
theorem dX8_turnedBy_41 : decode cX8_turnedBy 41 = .ok (.iastore, 1) := by decide +kernel
theorem dX8_turnedBy_42 : decode cX8_turnedBy 42 = .ok (.iinc 3 1, 3) := by decide +kernel
theorem dX8_turnedBy_45 : decode cX8_turnedBy 45 = .ok (.goto (-43), 3) := by decide +kernel
theorem dX8_turnedBy_48 : decode cX8_turnedBy 48 = .ok (.iconst 0, 1) := by decide +kernel
theorem dX8_turnedBy_49 : decode cX8_turnedBy 49 = .ok (.istore_n 3, 1) := by decide +kernel
theorem dX8_turnedBy_50 : decode cX8_turnedBy 50 = .ok (.iload_n 3, 1) := by decide +kernel
theorem dX8_turnedBy_51 : decode cX8_turnedBy 51 = .ok (.bipush 30, 2) := by decide +kernel
theorem dX8_turnedBy_53 : decode cX8_turnedBy 53 = .ok (.if_icmp .ge 15, 3) := by decide +kernel
theorem dX8_turnedBy_56 : decode cX8_turnedBy 56 = .ok (.aload_n 0, 1) := by decide +kernel
theorem dX8_turnedBy_57 : decode cX8_turnedBy 57 = .ok (.iload_n 1, 1) := by decide +kernel
theorem dX8_turnedBy_58 : decode cX8_turnedBy 58 = .ok (.iload_n 2, 1) := by decide +kernel
theorem dX8_turnedBy_59 : decode cX8_turnedBy 59 = .ok (.invokevirtual 261, 3) := by decide +kernel
theorem dX8_turnedBy_62 : decode cX8_turnedBy 62 = .ok (.iinc 3 1, 3) := by decide +kernel
theorem dX8_turnedBy_65 : decode cX8_turnedBy 65 = .ok (.goto (-15), 3) := by decide +kernel
theorem dX8_turnedBy_68 : decode cX8_turnedBy 68 = .ok (.iconst 0, 1) := by decide +kernel
theorem dX8_turnedBy_69 : decode cX8_turnedBy 69 = .ok (.istore_n 3, 1) := by decide +kernel
theorem dX8_turnedBy_70 : decode cX8_turnedBy 70 = .ok (.iconst 0, 1) := by decide +kernel
theorem dX8_turnedBy_71 : decode cX8_turnedBy 71 = .ok (.istore 4, 2) := by decide +kernel
theorem dX8_turnedBy_73 : decode cX8_turnedBy 73 = .ok (.iload 4, 2) := by decide +kernel
theorem dX8_turnedBy_75 : decode cX8_turnedBy 75 = .ok (.aload_n 0, 1) := by decide +kernel
theorem dX8_turnedBy_76 : decode cX8_turnedBy 76 = .ok (.getfield 7, 3) := by decide +kernel
theorem dX8_turnedBy_79 : decode cX8_turnedBy 79 = .ok (.iconst 2, 1) := by decide +kernel
theorem dX8_turnedBy_80 : decode cX8_turnedBy 80 = .ok (.iaload, 1) := by decide +kernel
theorem dX8_turnedBy_81 : decode cX8_turnedBy 81 = .ok (.if_icmp .ge 37, 3) := by decide +kernel
theorem dX8_turnedBy_84 : decode cX8_turnedBy 84 = .ok (.iload_n 3, 1) := by decide +kernel
theorem dX8_turnedBy_85 : decode cX8_turnedBy 85 = .ok (.aload_n 0, 1) := by decide +kernel
theorem dX8_turnedBy_86 : decode cX8_turnedBy 86 = .ok (.getfield 38, 3) := by decide +kernel
theorem dX8_turnedBy_89 : decode cX8_turnedBy 89 = .ok (.iload 4, 2) := by decide +kernel
theorem dX8_turnedBy_91 : decode cX8_turnedBy 91 = .ok (.iaload, 1) := by decide +kernel
theorem dX8_turnedBy_92 : decode cX8_turnedBy 92 = .ok (.aload_n 0, 1) := by decide +kernel
theorem dX8_turnedBy_93 : decode cX8_turnedBy 93 = .ok (.getfield 7, 3) := by decide +kernel
theorem dX8_turnedBy_96 : decode cX8_turnedBy 96 = .ok (.bipush 84, 2) := by decide +kernel
theorem dX8_turnedBy_98 : decode cX8_turnedBy 98 = .ok (.iload 4, 2) := by decide +kernel
theorem dX8_turnedBy_100 : decode cX8_turnedBy 100 = .ok (.iadd, 1) := by decide +kernel
theorem dX8_turnedBy_101 : decode cX8_turnedBy 101 = .ok (.iaload, 1) := by decide +kernel
theorem dX8_turnedBy_102 : decode cX8_turnedBy 102 = .ok (.if_icmp .lt 7, 3) := by decide +kernel
theorem dX8_turnedBy_105 : decode cX8_turnedBy 105 = .ok (.iconst 1, 1) := by decide +kernel
theorem dX8_turnedBy_106 : decode cX8_turnedBy 106 = .ok (.goto 4, 3) := by decide +kernel
theorem dX8_turnedBy_109 : decode cX8_turnedBy 109 = .ok (.iconst 0, 1) := by decide +kernel
theorem dX8_turnedBy_110 : decode cX8_turnedBy 110 = .ok (.iadd, 1) := by decide +kernel
theorem dX8_turnedBy_111 : decode cX8_turnedBy 111 = .ok (.istore_n 3, 1) := by decide +kernel
theorem dX8_turnedBy_112 : decode cX8_turnedBy 112 = .ok (.iinc 4 1, 3) := by decide +kernel
theorem dX8_turnedBy_115 : decode cX8_turnedBy 115 = .ok (.goto (-42), 3) := by decide +kernel
theorem dX8_turnedBy_118 : decode cX8_turnedBy 118 = .ok (.iload_n 3, 1) := by decide +kernel
theorem dX8_turnedBy_119 : decode cX8_turnedBy 119 = .ok (.ireturn, 1) := by decide +kernel
theorem dX8_meet_0 : decode cX8_meet 0 = .ok (.iload_n 1, 1) := by decide +kernel
theorem dX8_meet_1 : decode cX8_meet 1 = .ok (.i2l, 1) := by decide +kernel
theorem dX8_meet_2 : decode cX8_meet 2 = .ok (.lconst 1, 1) := by decide +kernel
theorem dX8_meet_3 : decode cX8_meet 3 = .ok (.ldc2_w 101, 3) := by decide +kernel
theorem dX8_meet_6 : decode cX8_meet 6 = .ok (.invokestatic 60, 3) := by decide +kernel
theorem dX8_meet_9 : decode cX8_meet 9 = .ok (.ifCond .ne 11, 3) := by decide +kernel
theorem dX8_meet_12 : decode cX8_meet 12 = .ok (.aload_n 0, 1) := by decide +kernel
theorem dX8_meet_13 : decode cX8_meet 13 = .ok (.invokevirtual 103, 3) := by decide +kernel
theorem dX8_meet_16 : decode cX8_meet 16 = .ok (.bipush 8, 2) := by decide +kernel
theorem dX8_meet_18 : decode cX8_meet 18 = .ok (.isub, 1) := by decide +kernel
theorem dX8_meet_19 : decode cX8_meet 19 = .ok (.ireturn, 1) := by decide +kernel
theorem dX8_meet_20 : decode cX8_meet 20 = .ok (.aload_n 0, 1) := by decide +kernel
theorem dX8_meet_21 : decode cX8_meet 21 = .ok (.getfield 7, 3) := by decide +kernel
theorem dX8_meet_24 : decode cX8_meet 24 = .ok (.iconst 2, 1) := by decide +kernel
theorem dX8_meet_25 : decode cX8_meet 25 = .ok (.iaload, 1) := by decide +kernel
theorem dX8_meet_26 : decode cX8_meet 26 = .ok (.ifCond .ne 5, 3) := by decide +kernel
theorem dX8_meet_29 : decode cX8_meet 29 = .ok (.iconst (-1), 1) := by decide +kernel
theorem dX8_meet_30 : decode cX8_meet 30 = .ok (.ireturn, 1) := by decide +kernel
theorem dX8_meet_31 : decode cX8_meet 31 = .ok (.iload_n 2, 1) := by decide +kernel
theorem dX8_meet_32 : decode cX8_meet 32 = .ok (.iconst (-1), 1) := by decide +kernel
theorem dX8_meet_33 : decode cX8_meet 33 = .ok (.if_icmp .eq 19, 3) := by decide +kernel
theorem dX8_meet_36 : decode cX8_meet 36 = .ok (.aload_n 0, 1) := by decide +kernel
theorem dX8_meet_37 : decode cX8_meet 37 = .ok (.iload_n 2, 1) := by decide +kernel
theorem dX8_meet_38 : decode cX8_meet 38 = .ok (.invokevirtual 223, 3) := by decide +kernel
theorem dX8_meet_41 : decode cX8_meet 41 = .ok (.ifCond .ne 11, 3) := by decide +kernel
theorem dX8_meet_44 : decode cX8_meet 44 = .ok (.aload_n 0, 1) := by decide +kernel
theorem dX8_meet_45 : decode cX8_meet 45 = .ok (.invokevirtual 103, 3) := by decide +kernel
theorem dX8_meet_48 : decode cX8_meet 48 = .ok (.bipush 8, 2) := by decide +kernel
theorem dX8_meet_50 : decode cX8_meet 50 = .ok (.isub, 1) := by decide +kernel
theorem dX8_meet_51 : decode cX8_meet 51 = .ok (.ireturn, 1) := by decide +kernel
theorem dX8_meet_52 : decode cX8_meet 52 = .ok (.iconst 0, 1) := by decide +kernel
theorem dX8_meet_53 : decode cX8_meet 53 = .ok (.istore_n 3, 1) := by decide +kernel
theorem dX8_meet_54 : decode cX8_meet 54 = .ok (.iconst (-1), 1) := by decide +kernel
theorem dX8_meet_55 : decode cX8_meet 55 = .ok (.istore 4, 2) := by decide +kernel
theorem dX8_meet_57 : decode cX8_meet 57 = .ok (.iconst 0, 1) := by decide +kernel
theorem dX8_meet_58 : decode cX8_meet 58 = .ok (.istore 5, 2) := by decide +kernel
theorem dX8_meet_60 : decode cX8_meet 60 = .ok (.iload 5, 2) := by decide +kernel
theorem dX8_meet_62 : decode cX8_meet 62 = .ok (.aload_n 0, 1) := by decide +kernel
theorem dX8_meet_63 : decode cX8_meet 63 = .ok (.invokevirtual 265, 3) := by decide +kernel
theorem dX8_meet_66 : decode cX8_meet 66 = .ok (.if_icmp .ge 48, 3) := by decide +kernel
theorem dX8_meet_69 : decode cX8_meet 69 = .ok (.aload_n 0, 1) := by decide +kernel
theorem dX8_meet_70 : decode cX8_meet 70 = .ok (.iload 5, 2) := by decide +kernel
theorem dX8_meet_72 : decode cX8_meet 72 = .ok (.iload_n 1, 1) := by decide +kernel
theorem dX8_meet_73 : decode cX8_meet 73 = .ok (.invokevirtual 268, 3) := by decide +kernel
theorem dX8_meet_76 : decode cX8_meet 76 = .ok (.istore 6, 2) := by decide +kernel
theorem dX8_meet_78 : decode cX8_meet 78 = .ok (.iload 6, 2) := by decide +kernel
theorem dX8_meet_80 : decode cX8_meet 80 = .ok (.iload 4, 2) := by decide +kernel
theorem dX8_meet_82 : decode cX8_meet 82 = .ok (.if_icmp .le 8, 3) := by decide +kernel
theorem dX8_meet_85 : decode cX8_meet 85 = .ok (.iload 5, 2) := by decide +kernel
theorem dX8_meet_87 : decode cX8_meet 87 = .ok (.goto 4, 3) := by decide +kernel
theorem dX8_meet_90 : decode cX8_meet 90 = .ok (.iload_n 3, 1) := by decide +kernel
theorem dX8_meet_91 : decode cX8_meet 91 = .ok (.istore_n 3, 1) := by decide +kernel
theorem dX8_meet_92 : decode cX8_meet 92 = .ok (.iload 6, 2) := by decide +kernel
theorem dX8_meet_94 : decode cX8_meet 94 = .ok (.iload 4, 2) := by decide +kernel
theorem dX8_meet_96 : decode cX8_meet 96 = .ok (.if_icmp .le 8, 3) := by decide +kernel
theorem dX8_meet_99 : decode cX8_meet 99 = .ok (.iload 6, 2) := by decide +kernel
theorem dX8_meet_101 : decode cX8_meet 101 = .ok (.goto 5, 3) := by decide +kernel
theorem dX8_meet_104 : decode cX8_meet 104 = .ok (.iload 4, 2) := by decide +kernel
theorem dX8_meet_106 : decode cX8_meet 106 = .ok (.istore 4, 2) := by decide +kernel
theorem dX8_meet_108 : decode cX8_meet 108 = .ok (.iinc 5 1, 3) := by decide +kernel
theorem dX8_meet_111 : decode cX8_meet 111 = .ok (.goto (-51), 3) := by decide +kernel
theorem dX8_meet_114 : decode cX8_meet 114 = .ok (.iload_n 2, 1) := by decide +kernel
theorem dX8_meet_115 : decode cX8_meet 115 = .ok (.iconst (-1), 1) := by decide +kernel
theorem dX8_meet_116 : decode cX8_meet 116 = .ok (.if_icmp .ne 8, 3) := by decide +kernel
theorem dX8_meet_119 : decode cX8_meet 119 = .ok (.iload 4, 2) := by decide +kernel
theorem dX8_meet_121 : decode cX8_meet 121 = .ok (.goto 9, 3) := by decide +kernel
theorem dX8_meet_124 : decode cX8_meet 124 = .ok (.aload_n 0, 1) := by decide +kernel
theorem dX8_meet_125 : decode cX8_meet 125 = .ok (.iload_n 3, 1) := by decide +kernel
theorem dX8_meet_126 : decode cX8_meet 126 = .ok (.iload_n 2, 1) := by decide +kernel
theorem dX8_meet_127 : decode cX8_meet 127 = .ok (.invokevirtual 258, 3) := by decide +kernel
theorem dX8_meet_130 : decode cX8_meet 130 = .ok (.ireturn, 1) := by decide +kernel
theorem dX8_manyFrom_0 : decode cX8_manyFrom 0 = .ok (.iconst 0, 1) := by decide +kernel
theorem dX8_manyFrom_1 : decode cX8_manyFrom 1 = .ok (.istore_n 2, 1) := by decide +kernel
theorem dX8_manyFrom_2 : decode cX8_manyFrom 2 = .ok (.iload_n 1, 1) := by decide +kernel
theorem dX8_manyFrom_3 : decode cX8_manyFrom 3 = .ok (.istore_n 3, 1) := by decide +kernel
theorem dX8_manyFrom_4 : decode cX8_manyFrom 4 = .ok (.iload_n 3, 1) := by decide +kernel
theorem dX8_manyFrom_5 : decode cX8_manyFrom 5 = .ok (.bipush 10, 2) := by decide +kernel
theorem dX8_manyFrom_7 : decode cX8_manyFrom 7 = .ok (.if_icmp .ge 18, 3) := by decide +kernel
theorem dX8_manyFrom_10 : decode cX8_manyFrom 10 = .ok (.iload_n 2, 1) := by decide +kernel
theorem dX8_manyFrom_11 : decode cX8_manyFrom 11 = .ok (.aload_n 0, 1) := by decide +kernel
theorem dX8_manyFrom_12 : decode cX8_manyFrom 12 = .ok (.getfield 29, 3) := by decide +kernel
theorem dX8_manyFrom_15 : decode cX8_manyFrom 15 = .ok (.iload_n 3, 1) := by decide +kernel
theorem dX8_manyFrom_16 : decode cX8_manyFrom 16 = .ok (.iaload, 1) := by decide +kernel
theorem dX8_manyFrom_17 : decode cX8_manyFrom 17 = .ok (.iadd, 1) := by decide +kernel
theorem dX8_manyFrom_18 : decode cX8_manyFrom 18 = .ok (.istore_n 2, 1) := by decide +kernel
theorem dX8_manyFrom_19 : decode cX8_manyFrom 19 = .ok (.iinc 3 1, 3) := by decide +kernel
theorem dX8_manyFrom_22 : decode cX8_manyFrom 22 = .ok (.goto (-18), 3) := by decide +kernel
theorem dX8_manyFrom_25 : decode cX8_manyFrom 25 = .ok (.iload_n 2, 1) := by decide +kernel
theorem dX8_manyFrom_26 : decode cX8_manyFrom 26 = .ok (.ireturn, 1) := by decide +kernel
theorem dX8_doors_0 : decode cX8_doors 0 = .ok (.iload_n 1, 1) := by decide +kernel
theorem dX8_doors_1 : decode cX8_doors 1 = .ok (.i2l, 1) := by decide +kernel
theorem dX8_doors_2 : decode cX8_doors 2 = .ok (.lconst 1, 1) := by decide +kernel
theorem dX8_doors_3 : decode cX8_doors 3 = .ok (.ldc2_w 101, 3) := by decide +kernel
theorem dX8_doors_6 : decode cX8_doors 6 = .ok (.invokestatic 60, 3) := by decide +kernel
theorem dX8_doors_9 : decode cX8_doors 9 = .ok (.ifCond .eq 13, 3) := by decide +kernel
theorem dX8_doors_12 : decode cX8_doors 12 = .ok (.iload_n 2, 1) := by decide +kernel
theorem dX8_doors_13 : decode cX8_doors 13 = .ok (.i2l, 1) := by decide +kernel
theorem dX8_doors_14 : decode cX8_doors 14 = .ok (.lconst 0, 1) := by decide +kernel
theorem dX8_doors_15 : decode cX8_doors 15 = .ok (.lconst 1, 1) := by decide +kernel
theorem dX8_doors_16 : decode cX8_doors 16 = .ok (.invokestatic 60, 3) := by decide +kernel
theorem dX8_doors_19 : decode cX8_doors 19 = .ok (.ifCond .ne 8, 3) := by decide +kernel
theorem dX8_doors_22 : decode cX8_doors 22 = .ok (.aload_n 0, 1) := by decide +kernel
theorem dX8_doors_23 : decode cX8_doors 23 = .ok (.invokevirtual 103, 3) := by decide +kernel
theorem dX8_doors_26 : decode cX8_doors 26 = .ok (.ireturn, 1) := by decide +kernel
theorem dX8_doors_27 : decode cX8_doors 27 = .ok (.iconst (-1), 1) := by decide +kernel
theorem dX8_doors_28 : decode cX8_doors 28 = .ok (.istore_n 3, 1) := by decide +kernel
theorem dX8_doors_29 : decode cX8_doors 29 = .ok (.ldc 160, 2) := by decide +kernel
theorem dX8_doors_31 : decode cX8_doors 31 = .ok (.istore 4, 2) := by decide +kernel
theorem dX8_doors_33 : decode cX8_doors 33 = .ok (.iconst 0, 1) := by decide +kernel
theorem dX8_doors_34 : decode cX8_doors 34 = .ok (.istore 5, 2) := by decide +kernel
theorem dX8_doors_36 : decode cX8_doors 36 = .ok (.iload 5, 2) := by decide +kernel
theorem dX8_doors_38 : decode cX8_doors 38 = .ok (.aload_n 0, 1) := by decide +kernel
theorem dX8_doors_39 : decode cX8_doors 39 = .ok (.getfield 7, 3) := by decide +kernel
theorem dX8_doors_42 : decode cX8_doors 42 = .ok (.iconst 0, 1) := by decide +kernel
theorem dX8_doors_43 : decode cX8_doors 43 = .ok (.iaload, 1) := by decide +kernel
theorem dX8_doors_44 : decode cX8_doors 44 = .ok (.if_icmp .ge 98, 3) := by decide +kernel
theorem dX8_doors_47 : decode cX8_doors 47 = .ok (.aload_n 0, 1) := by decide +kernel
theorem dX8_doors_48 : decode cX8_doors 48 = .ok (.iload 5, 2) := by decide +kernel
theorem dX8_doors_50 : decode cX8_doors 50 = .ok (.invokevirtual 248, 3) := by decide +kernel
theorem dX8_doors_53 : decode cX8_doors 53 = .ok (.aload_n 0, 1) := by decide +kernel
theorem dX8_doors_54 : decode cX8_doors 54 = .ok (.iload_n 1, 1) := by decide +kernel
theorem dX8_doors_55 : decode cX8_doors 55 = .ok (.invokevirtual 271, 3) := by decide +kernel
theorem dX8_doors_58 : decode cX8_doors 58 = .ok (.istore 6, 2) := by decide +kernel
theorem dX8_doors_60 : decode cX8_doors 60 = .ok (.aload_n 0, 1) := by decide +kernel
theorem dX8_doors_61 : decode cX8_doors 61 = .ok (.getfield 29, 3) := by decide +kernel
theorem dX8_doors_64 : decode cX8_doors 64 = .ok (.iconst 0, 1) := by decide +kernel
theorem dX8_doors_65 : decode cX8_doors 65 = .ok (.aload_n 0, 1) := by decide +kernel
theorem dX8_doors_66 : decode cX8_doors 66 = .ok (.getfield 7, 3) := by decide +kernel
theorem dX8_doors_69 : decode cX8_doors 69 = .ok (.bipush 8, 2) := by decide +kernel
theorem dX8_doors_71 : decode cX8_doors 71 = .ok (.iload 5, 2) := by decide +kernel
theorem dX8_doors_73 : decode cX8_doors 73 = .ok (.iadd, 1) := by decide +kernel
theorem dX8_doors_74 : decode cX8_doors 74 = .ok (.iaload, 1) := by decide +kernel
theorem dX8_doors_75 : decode cX8_doors 75 = .ok (.invokestatic 217, 3) := by decide +kernel
theorem dX8_doors_78 : decode cX8_doors 78 = .ok (.invokestatic 90, 3) := by decide +kernel
theorem dX8_doors_81 : decode cX8_doors 81 = .ok (.iload 6, 2) := by decide +kernel
theorem dX8_doors_83 : decode cX8_doors 83 = .ok (.aload_n 0, 1) := by decide +kernel
theorem dX8_doors_84 : decode cX8_doors 84 = .ok (.iload_n 1, 1) := by decide +kernel
theorem dX8_doors_85 : decode cX8_doors 85 = .ok (.invokevirtual 271, 3) := by decide +kernel
theorem dX8_doors_88 : decode cX8_doors 88 = .ok (.isub, 1) := by decide +kernel
theorem dX8_doors_89 : decode cX8_doors 89 = .ok (.istore 7, 2) := by decide +kernel
theorem dX8_doors_91 : decode cX8_doors 91 = .ok (.iload 6, 2) := by decide +kernel
theorem dX8_doors_93 : decode cX8_doors 93 = .ok (.ifCond .le 14, 3) := by decide +kernel
theorem dX8_doors_96 : decode cX8_doors 96 = .ok (.iload 7, 2) := by decide +kernel
theorem dX8_doors_98 : decode cX8_doors 98 = .ok (.iload 4, 2) := by decide +kernel
theorem dX8_doors_100 : decode cX8_doors 100 = .ok (.if_icmp .ge 7, 3) := by decide +kernel
theorem dX8_doors_103 : decode cX8_doors 103 = .ok (.iconst 1, 1) := by decide +kernel
theorem dX8_doors_104 : decode cX8_doors 104 = .ok (.goto 4, 3) := by decide +kernel
theorem dX8_doors_107 : decode cX8_doors 107 = .ok (.iconst 0, 1) := by decide +kernel
theorem dX8_doors_108 : decode cX8_doors 108 = .ok (.istore 8, 2) := by decide +kernel
theorem dX8_doors_110 : decode cX8_doors 110 = .ok (.iload 8, 2) := by decide +kernel
theorem dX8_doors_112 : decode cX8_doors 112 = .ok (.ifCond .eq 8, 3) := by decide +kernel
theorem dX8_doors_115 : decode cX8_doors 115 = .ok (.iload 5, 2) := by decide +kernel
theorem dX8_doors_117 : decode cX8_doors 117 = .ok (.goto 4, 3) := by decide +kernel
theorem dX8_doors_120 : decode cX8_doors 120 = .ok (.iload_n 3, 1) := by decide +kernel
theorem dX8_doors_121 : decode cX8_doors 121 = .ok (.istore_n 3, 1) := by decide +kernel
theorem dX8_doors_122 : decode cX8_doors 122 = .ok (.iload 8, 2) := by decide +kernel
theorem dX8_doors_124 : decode cX8_doors 124 = .ok (.ifCond .eq 8, 3) := by decide +kernel
theorem dX8_doors_127 : decode cX8_doors 127 = .ok (.iload 7, 2) := by decide +kernel
theorem dX8_doors_129 : decode cX8_doors 129 = .ok (.goto 5, 3) := by decide +kernel
theorem dX8_doors_132 : decode cX8_doors 132 = .ok (.iload 4, 2) := by decide +kernel
theorem dX8_doors_134 : decode cX8_doors 134 = .ok (.istore 4, 2) := by decide +kernel
theorem dX8_doors_136 : decode cX8_doors 136 = .ok (.iinc 5 1, 3) := by decide +kernel
theorem dX8_doors_139 : decode cX8_doors 139 = .ok (.goto (-103), 3) := by decide +kernel
theorem dX8_doors_142 : decode cX8_doors 142 = .ok (.iload_n 3, 1) := by decide +kernel
theorem dX8_doors_143 : decode cX8_doors 143 = .ok (.ifCond .lt 7, 3) := by decide +kernel
theorem dX8_doors_146 : decode cX8_doors 146 = .ok (.iload_n 2, 1) := by decide +kernel
theorem dX8_doors_147 : decode cX8_doors 147 = .ok (.ifCond .ne 7, 3) := by decide +kernel
theorem dX8_doors_150 : decode cX8_doors 150 = .ok (.iload_n 3, 1) := by decide +kernel
theorem dX8_doors_151 : decode cX8_doors 151 = .ok (.goto 5, 3) := by decide +kernel
theorem dX8_doors_154 : decode cX8_doors 154 = .ok (.iload 4, 2) := by decide +kernel
theorem dX8_doors_156 : decode cX8_doors 156 = .ok (.ireturn, 1) := by decide +kernel
theorem dX8_rings_0 : decode cX8_rings 0 = .ok (.aload_n 0, 1) := by decide +kernel
theorem dX8_rings_1 : decode cX8_rings 1 = .ok (.iload_n 1, 1) := by decide +kernel
theorem dX8_rings_2 : decode cX8_rings 2 = .ok (.invokevirtual 116, 3) := by decide +kernel
theorem dX8_rings_5 : decode cX8_rings 5 = .ok (.ifCond .eq 39, 3) := by decide +kernel
theorem dX8_rings_8 : decode cX8_rings 8 = .ok (.iload_n 2, 1) := by decide +kernel
theorem dX8_rings_9 : decode cX8_rings 9 = .ok (.i2l, 1) := by decide +kernel
theorem dX8_rings_10 : decode cX8_rings 10 = .ok (.lconst 0, 1) := by decide +kernel
theorem dX8_rings_11 : decode cX8_rings 11 = .ok (.ldc2_w 120, 3) := by decide +kernel
theorem dX8_rings_14 : decode cX8_rings 14 = .ok (.invokestatic 60, 3) := by decide +kernel
theorem dX8_rings_17 : decode cX8_rings 17 = .ok (.ifCond .eq 27, 3) := by decide +kernel
theorem dX8_rings_20 : decode cX8_rings 20 = .ok (.iload_n 3, 1) := by decide +kernel
theorem dX8_rings_21 : decode cX8_rings 21 = .ok (.i2l, 1) := by decide +kernel
theorem dX8_rings_22 : decode cX8_rings 22 = .ok (.lconst 1, 1) := by decide +kernel
theorem dX8_rings_23 : decode cX8_rings 23 = .ok (.ldc2_w 101, 3) := by decide +kernel
theorem dX8_rings_26 : decode cX8_rings 26 = .ok (.invokestatic 60, 3) := by decide +kernel
theorem dX8_rings_29 : decode cX8_rings 29 = .ok (.ifCond .eq 15, 3) := by decide +kernel
theorem dX8_rings_32 : decode cX8_rings 32 = .ok (.iload 4, 2) := by decide +kernel
theorem dX8_rings_34 : decode cX8_rings 34 = .ok (.i2l, 1) := by decide +kernel
theorem dX8_rings_35 : decode cX8_rings 35 = .ok (.lconst 0, 1) := by decide +kernel
theorem dX8_rings_36 : decode cX8_rings 36 = .ok (.iload_n 3, 1) := by decide +kernel
theorem dX8_rings_37 : decode cX8_rings 37 = .ok (.i2l, 1) := by decide +kernel
theorem dX8_rings_38 : decode cX8_rings 38 = .ok (.invokestatic 60, 3) := by decide +kernel
theorem dX8_rings_41 : decode cX8_rings 41 = .ok (.ifCond .ne 8, 3) := by decide +kernel
theorem dX8_rings_44 : decode cX8_rings 44 = .ok (.aload_n 0, 1) := by decide +kernel
theorem dX8_rings_45 : decode cX8_rings 45 = .ok (.invokevirtual 103, 3) := by decide +kernel
theorem dX8_rings_48 : decode cX8_rings 48 = .ok (.ireturn, 1) := by decide +kernel
theorem dX8_rings_49 : decode cX8_rings 49 = .ok (.aload_n 0, 1) := by decide +kernel
theorem dX8_rings_50 : decode cX8_rings 50 = .ok (.getfield 7, 3) := by decide +kernel
theorem dX8_rings_53 : decode cX8_rings 53 = .ok (.iconst 5, 1) := by decide +kernel
theorem dX8_rings_54 : decode cX8_rings 54 = .ok (.iaload, 1) := by decide +kernel
theorem dX8_rings_55 : decode cX8_rings 55 = .ok (.iconst 4, 1) := by decide +kernel
theorem dX8_rings_56 : decode cX8_rings 56 = .ok (.if_icmp .ne 8, 3) := by decide +kernel
theorem dX8_rings_59 : decode cX8_rings 59 = .ok (.aload_n 0, 1) := by decide +kernel
theorem dX8_rings_60 : decode cX8_rings 60 = .ok (.invokevirtual 113, 3) := by decide +kernel
theorem dX8_rings_63 : decode cX8_rings 63 = .ok (.ireturn, 1) := by decide +kernel
theorem dX8_rings_64 : decode cX8_rings 64 = .ok (.bipush 92, 2) := by decide +kernel
theorem dX8_rings_66 : decode cX8_rings 66 = .ok (.iconst 4, 1) := by decide +kernel
theorem dX8_rings_67 : decode cX8_rings 67 = .ok (.aload_n 0, 1) := by decide +kernel
theorem dX8_rings_68 : decode cX8_rings 68 = .ok (.getfield 7, 3) := by decide +kernel
theorem dX8_rings_71 : decode cX8_rings 71 = .ok (.iconst 5, 1) := by decide +kernel
theorem dX8_rings_72 : decode cX8_rings 72 = .ok (.iaload, 1) := by decide +kernel
theorem dX8_rings_73 : decode cX8_rings 73 = .ok (.imul, 1) := by decide +kernel
theorem dX8_rings_74 : decode cX8_rings 74 = .ok (.iadd, 1) := by decide +kernel
theorem dX8_rings_75 : decode cX8_rings 75 = .ok (.istore 5, 2) := by decide +kernel
theorem dX8_rings_77 : decode cX8_rings 77 = .ok (.aload_n 0, 1) := by decide +kernel
theorem dX8_rings_78 : decode cX8_rings 78 = .ok (.getfield 7, 3) := by decide +kernel
theorem dX8_rings_81 : decode cX8_rings 81 = .ok (.iload 5, 2) := by decide +kernel
theorem dX8_rings_83 : decode cX8_rings 83 = .ok (.iload_n 1, 1) := by decide +kernel
theorem dX8_rings_84 : decode cX8_rings 84 = .ok (.iastore, 1) := by decide +kernel
theorem dX8_rings_85 : decode cX8_rings 85 = .ok (.aload_n 0, 1) := by decide +kernel
theorem dX8_rings_86 : decode cX8_rings 86 = .ok (.getfield 7, 3) := by decide +kernel
theorem dX8_rings_89 : decode cX8_rings 89 = .ok (.iload 5, 2) := by decide +kernel
theorem dX8_rings_91 : decode cX8_rings 91 = .ok (.iconst 1, 1) := by decide +kernel
theorem dX8_rings_92 : decode cX8_rings 92 = .ok (.iadd, 1) := by decide +kernel
theorem dX8_rings_93 : decode cX8_rings 93 = .ok (.iload_n 2, 1) := by decide +kernel
theorem dX8_rings_94 : decode cX8_rings 94 = .ok (.iastore, 1) := by decide +kernel
theorem dX8_rings_95 : decode cX8_rings 95 = .ok (.aload_n 0, 1) := by decide +kernel
theorem dX8_rings_96 : decode cX8_rings 96 = .ok (.getfield 7, 3) := by decide +kernel
theorem dX8_rings_99 : decode cX8_rings 99 = .ok (.iload 5, 2) := by decide +kernel
theorem dX8_rings_101 : decode cX8_rings 101 = .ok (.iconst 2, 1) := by decide +kernel
theorem dX8_rings_102 : decode cX8_rings 102 = .ok (.iadd, 1) := by decide +kernel
theorem dX8_rings_103 : decode cX8_rings 103 = .ok (.iload_n 3, 1) := by decide +kernel
theorem dX8_rings_104 : decode cX8_rings 104 = .ok (.iastore, 1) := by decide +kernel
theorem dX8_rings_105 : decode cX8_rings 105 = .ok (.aload_n 0, 1) := by decide +kernel
theorem dX8_rings_106 : decode cX8_rings 106 = .ok (.getfield 7, 3) := by decide +kernel
theorem dX8_rings_109 : decode cX8_rings 109 = .ok (.iload 5, 2) := by decide +kernel
theorem dX8_rings_111 : decode cX8_rings 111 = .ok (.iconst 3, 1) := by decide +kernel
theorem dX8_rings_112 : decode cX8_rings 112 = .ok (.iadd, 1) := by decide +kernel
theorem dX8_rings_113 : decode cX8_rings 113 = .ok (.iload 4, 2) := by decide +kernel
theorem dX8_rings_115 : decode cX8_rings 115 = .ok (.iastore, 1) := by decide +kernel
theorem dX8_rings_116 : decode cX8_rings 116 = .ok (.aload_n 0, 1) := by decide +kernel
theorem dX8_rings_117 : decode cX8_rings 117 = .ok (.getfield 7, 3) := by decide +kernel
theorem dX8_rings_120 : decode cX8_rings 120 = .ok (.iconst 5, 1) := by decide +kernel
theorem dX8_rings_121 : decode cX8_rings 121 = .ok (.dup2, 1) := by decide +kernel
theorem dX8_rings_122 : decode cX8_rings 122 = .ok (.iaload, 1) := by decide +kernel
theorem dX8_rings_123 : decode cX8_rings 123 = .ok (.iconst 1, 1) := by decide +kernel
theorem dX8_rings_124 : decode cX8_rings 124 = .ok (.iadd, 1) := by decide +kernel
theorem dX8_rings_125 : decode cX8_rings 125 = .ok (.iastore, 1) := by decide +kernel
theorem dX8_rings_126 : decode cX8_rings 126 = .ok (.aload_n 0, 1) := by decide +kernel
theorem dX8_rings_127 : decode cX8_rings 127 = .ok (.getfield 7, 3) := by decide +kernel
theorem dX8_rings_130 : decode cX8_rings 130 = .ok (.iconst 5, 1) := by decide +kernel
theorem dX8_rings_131 : decode cX8_rings 131 = .ok (.iaload, 1) := by decide +kernel
theorem dX8_rings_132 : decode cX8_rings 132 = .ok (.ireturn, 1) := by decide +kernel
theorem dX8_cooledBy_0 : decode cX8_cooledBy 0 = .ok (.aload_n 0, 1) := by decide +kernel
theorem dX8_cooledBy_1 : decode cX8_cooledBy 1 = .ok (.getfield 7, 3) := by decide +kernel
theorem dX8_cooledBy_4 : decode cX8_cooledBy 4 = .ok (.bipush 92, 2) := by decide +kernel
theorem dX8_cooledBy_6 : decode cX8_cooledBy 6 = .ok (.iconst 4, 1) := by decide +kernel
theorem dX8_cooledBy_7 : decode cX8_cooledBy 7 = .ok (.iload_n 1, 1) := by decide +kernel
theorem dX8_cooledBy_8 : decode cX8_cooledBy 8 = .ok (.imul, 1) := by decide +kernel
theorem dX8_cooledBy_9 : decode cX8_cooledBy 9 = .ok (.iadd, 1) := by decide +kernel
theorem dX8_cooledBy_10 : decode cX8_cooledBy 10 = .ok (.iaload, 1) := by decide +kernel
theorem dX8_cooledBy_11 : decode cX8_cooledBy 11 = .ok (.istore_n 2, 1) := by decide +kernel
theorem dX8_cooledBy_12 : decode cX8_cooledBy 12 = .ok (.iconst 0, 1) := by decide +kernel
theorem dX8_cooledBy_13 : decode cX8_cooledBy 13 = .ok (.istore_n 3, 1) := by decide +kernel
theorem dX8_cooledBy_14 : decode cX8_cooledBy 14 = .ok (.iconst 0, 1) := by decide +kernel
theorem dX8_cooledBy_15 : decode cX8_cooledBy 15 = .ok (.istore 4, 2) := by decide +kernel
theorem dX8_cooledBy_17 : decode cX8_cooledBy 17 = .ok (.iload 4, 2) := by decide +kernel
theorem dX8_cooledBy_19 : decode cX8_cooledBy 19 = .ok (.bipush 10, 2) := by decide +kernel
theorem dX8_cooledBy_21 : decode cX8_cooledBy 21 = .ok (.if_icmp .ge 111, 3) := by decide +kernel
theorem dX8_cooledBy_24 : decode cX8_cooledBy 24 = .ok (.aload_n 0, 1) := by decide +kernel
theorem dX8_cooledBy_25 : decode cX8_cooledBy 25 = .ok (.getfield 7, 3) := by decide +kernel
theorem dX8_cooledBy_28 : decode cX8_cooledBy 28 = .ok (.bipush 8, 2) := by decide +kernel
theorem dX8_cooledBy_30 : decode cX8_cooledBy 30 = .ok (.iload_n 2, 1) := by decide +kernel
theorem dX8_cooledBy_31 : decode cX8_cooledBy 31 = .ok (.iadd, 1) := by decide +kernel
theorem dX8_cooledBy_32 : decode cX8_cooledBy 32 = .ok (.iaload, 1) := by decide +kernel
theorem dX8_cooledBy_33 : decode cX8_cooledBy 33 = .ok (.aload_n 0, 1) := by decide +kernel
theorem dX8_cooledBy_34 : decode cX8_cooledBy 34 = .ok (.getfield 7, 3) := by decide +kernel
theorem dX8_cooledBy_37 : decode cX8_cooledBy 37 = .ok (.bipush 92, 2) := by decide +kernel
theorem dX8_cooledBy_39 : decode cX8_cooledBy 39 = .ok (.iconst 4, 1) := by decide +kernel
theorem dX8_cooledBy_40 : decode cX8_cooledBy 40 = .ok (.iload_n 1, 1) := by decide +kernel
theorem dX8_cooledBy_41 : decode cX8_cooledBy 41 = .ok (.imul, 1) := by decide +kernel
theorem dX8_cooledBy_42 : decode cX8_cooledBy 42 = .ok (.iadd, 1) := by decide +kernel
theorem dX8_cooledBy_43 : decode cX8_cooledBy 43 = .ok (.iconst 1, 1) := by decide +kernel
theorem dX8_cooledBy_44 : decode cX8_cooledBy 44 = .ok (.iadd, 1) := by decide +kernel
theorem dX8_cooledBy_45 : decode cX8_cooledBy 45 = .ok (.iaload, 1) := by decide +kernel
theorem dX8_cooledBy_46 : decode cX8_cooledBy 46 = .ok (.aload_n 0, 1) := by decide +kernel
theorem dX8_cooledBy_47 : decode cX8_cooledBy 47 = .ok (.getfield 7, 3) := by decide +kernel
theorem dX8_cooledBy_50 : decode cX8_cooledBy 50 = .ok (.bipush 13, 2) := by decide +kernel
theorem dX8_cooledBy_52 : decode cX8_cooledBy 52 = .ok (.iload_n 2, 1) := by decide +kernel
theorem dX8_cooledBy_53 : decode cX8_cooledBy 53 = .ok (.iadd, 1) := by decide +kernel
theorem dX8_cooledBy_54 : decode cX8_cooledBy 54 = .ok (.iaload, 1) := by decide +kernel
theorem dX8_cooledBy_55 : decode cX8_cooledBy 55 = .ok (.invokestatic 87, 3) := by decide +kernel
theorem dX8_cooledBy_58 : decode cX8_cooledBy 58 = .ok (.istore 5, 2) := by decide +kernel
theorem dX8_cooledBy_60 : decode cX8_cooledBy 60 = .ok (.aload_n 0, 1) := by decide +kernel
theorem dX8_cooledBy_61 : decode cX8_cooledBy 61 = .ok (.getfield 7, 3) := by decide +kernel
theorem dX8_cooledBy_64 : decode cX8_cooledBy 64 = .ok (.bipush 92, 2) := by decide +kernel
theorem dX8_cooledBy_66 : decode cX8_cooledBy 66 = .ok (.iconst 4, 1) := by decide +kernel
theorem dX8_cooledBy_67 : decode cX8_cooledBy 67 = .ok (.iload_n 1, 1) := by decide +kernel
theorem dX8_cooledBy_68 : decode cX8_cooledBy 68 = .ok (.imul, 1) := by decide +kernel
theorem dX8_cooledBy_69 : decode cX8_cooledBy 69 = .ok (.iadd, 1) := by decide +kernel
theorem dX8_cooledBy_70 : decode cX8_cooledBy 70 = .ok (.iconst 2, 1) := by decide +kernel
theorem dX8_cooledBy_71 : decode cX8_cooledBy 71 = .ok (.iadd, 1) := by decide +kernel
theorem dX8_cooledBy_72 : decode cX8_cooledBy 72 = .ok (.iaload, 1) := by decide +kernel
theorem dX8_cooledBy_73 : decode cX8_cooledBy 73 = .ok (.iload 4, 2) := by decide +kernel
theorem dX8_cooledBy_75 : decode cX8_cooledBy 75 = .ok (.aload_n 0, 1) := by decide +kernel
theorem dX8_cooledBy_76 : decode cX8_cooledBy 76 = .ok (.getfield 7, 3) := by decide +kernel
theorem dX8_cooledBy_79 : decode cX8_cooledBy 79 = .ok (.bipush 8, 2) := by decide +kernel
theorem dX8_cooledBy_81 : decode cX8_cooledBy 81 = .ok (.iload_n 2, 1) := by decide +kernel
theorem dX8_cooledBy_82 : decode cX8_cooledBy 82 = .ok (.iadd, 1) := by decide +kernel
theorem dX8_cooledBy_83 : decode cX8_cooledBy 83 = .ok (.iaload, 1) := by decide +kernel
theorem dX8_cooledBy_84 : decode cX8_cooledBy 84 = .ok (.invokestatic 217, 3) := by decide +kernel
theorem dX8_cooledBy_87 : decode cX8_cooledBy 87 = .ok (.imul, 1) := by decide +kernel
theorem dX8_cooledBy_88 : decode cX8_cooledBy 88 = .ok (.isub, 1) := by decide +kernel
theorem dX8_cooledBy_89 : decode cX8_cooledBy 89 = .ok (.iload 5, 2) := by decide +kernel
theorem dX8_cooledBy_91 : decode cX8_cooledBy 91 = .ok (.isub, 1) := by decide +kernel
theorem dX8_cooledBy_92 : decode cX8_cooledBy 92 = .ok (.invokestatic 64, 3) := by decide +kernel
theorem dX8_cooledBy_95 : decode cX8_cooledBy 95 = .ok (.istore 6, 2) := by decide +kernel
theorem dX8_cooledBy_97 : decode cX8_cooledBy 97 = .ok (.iload_n 3, 1) := by decide +kernel
theorem dX8_cooledBy_98 : decode cX8_cooledBy 98 = .ok (.iload 6, 2) := by decide +kernel
theorem dX8_cooledBy_100 : decode cX8_cooledBy 100 = .ok (.aload_n 0, 1) := by decide +kernel
theorem dX8_cooledBy_101 : decode cX8_cooledBy 101 = .ok (.getfield 7, 3) := by decide +kernel
theorem dX8_cooledBy_104 : decode cX8_cooledBy 104 = .ok (.bipush 92, 2) := by decide +kernel
theorem dX8_cooledBy_106 : decode cX8_cooledBy 106 = .ok (.iconst 4, 1) := by decide +kernel
theorem dX8_cooledBy_107 : decode cX8_cooledBy 107 = .ok (.iload_n 1, 1) := by decide +kernel
theorem dX8_cooledBy_108 : decode cX8_cooledBy 108 = .ok (.imul, 1) := by decide +kernel
theorem dX8_cooledBy_109 : decode cX8_cooledBy 109 = .ok (.iadd, 1) := by decide +kernel
theorem dX8_cooledBy_110 : decode cX8_cooledBy 110 = .ok (.iconst 3, 1) := by decide +kernel
theorem dX8_cooledBy_111 : decode cX8_cooledBy 111 = .ok (.iadd, 1) := by decide +kernel
theorem dX8_cooledBy_112 : decode cX8_cooledBy 112 = .ok (.iaload, 1) := by decide +kernel
theorem dX8_cooledBy_113 : decode cX8_cooledBy 113 = .ok (.if_icmp .ne 10, 3) := by decide +kernel
theorem dX8_cooledBy_116 : decode cX8_cooledBy 116 = .ok (.iconst 1, 1) := by decide +kernel
theorem dX8_cooledBy_117 : decode cX8_cooledBy 117 = .ok (.iload 4, 2) := by decide +kernel
theorem dX8_cooledBy_119 : decode cX8_cooledBy 119 = .ok (.ishl, 1) := by decide +kernel
theorem dX8_cooledBy_120 : decode cX8_cooledBy 120 = .ok (.goto 4, 3) := by decide +kernel
theorem dX8_cooledBy_123 : decode cX8_cooledBy 123 = .ok (.iconst 0, 1) := by decide +kernel
theorem dX8_cooledBy_124 : decode cX8_cooledBy 124 = .ok (.ior, 1) := by decide +kernel
theorem dX8_cooledBy_125 : decode cX8_cooledBy 125 = .ok (.istore_n 3, 1) := by decide +kernel
theorem dX8_cooledBy_126 : decode cX8_cooledBy 126 = .ok (.iinc 4 1, 3) := by decide +kernel
theorem dX8_cooledBy_129 : decode cX8_cooledBy 129 = .ok (.goto (-112), 3) := by decide +kernel
theorem dX8_cooledBy_132 : decode cX8_cooledBy 132 = .ok (.iload_n 3, 1) := by decide +kernel
theorem dX8_cooledBy_133 : decode cX8_cooledBy 133 = .ok (.ireturn, 1) := by decide +kernel
theorem dX8_cooled_0 : decode cX8_cooled 0 = .ok (.iload_n 1, 1) := by decide +kernel
theorem dX8_cooled_1 : decode cX8_cooled 1 = .ok (.i2l, 1) := by decide +kernel
theorem dX8_cooled_2 : decode cX8_cooled 2 = .ok (.lconst 0, 1) := by decide +kernel
theorem dX8_cooled_3 : decode cX8_cooled 3 = .ok (.aload_n 0, 1) := by decide +kernel
theorem dX8_cooled_4 : decode cX8_cooled 4 = .ok (.getfield 7, 3) := by decide +kernel
theorem dX8_cooled_7 : decode cX8_cooled 7 = .ok (.iconst 5, 1) := by decide +kernel
theorem dX8_cooled_8 : decode cX8_cooled 8 = .ok (.iaload, 1) := by decide +kernel
theorem dX8_cooled_9 : decode cX8_cooled 9 = .ok (.iconst 1, 1) := by decide +kernel
theorem dX8_cooled_10 : decode cX8_cooled 10 = .ok (.isub, 1) := by decide +kernel
theorem dX8_cooled_11 : decode cX8_cooled 11 = .ok (.i2l, 1) := by decide +kernel
theorem dX8_cooled_12 : decode cX8_cooled 12 = .ok (.invokestatic 60, 3) := by decide +kernel
theorem dX8_cooled_15 : decode cX8_cooled 15 = .ok (.ifCond .eq 11, 3) := by decide +kernel
theorem dX8_cooled_18 : decode cX8_cooled 18 = .ok (.aload_n 0, 1) := by decide +kernel
theorem dX8_cooled_19 : decode cX8_cooled 19 = .ok (.iload_n 1, 1) := by decide +kernel
theorem dX8_cooled_20 : decode cX8_cooled 20 = .ok (.invokevirtual 274, 3) := by decide +kernel
theorem dX8_cooled_23 : decode cX8_cooled 23 = .ok (.goto 7, 3) := by decide +kernel
theorem dX8_cooled_26 : decode cX8_cooled 26 = .ok (.aload_n 0, 1) := by decide +kernel
theorem dX8_cooled_27 : decode cX8_cooled 27 = .ok (.invokevirtual 103, 3) := by decide +kernel
theorem dX8_cooled_30 : decode cX8_cooled 30 = .ok (.ireturn, 1) := by decide +kernel
theorem dX8_even_0 : decode cX8_even 0 = .ok (.aload_n 0, 1) := by decide +kernel
theorem dX8_even_1 : decode cX8_even 1 = .ok (.iload_n 1, 1) := by decide +kernel
theorem dX8_even_2 : decode cX8_even 2 = .ok (.invokevirtual 116, 3) := by decide +kernel
theorem dX8_even_5 : decode cX8_even 5 = .ok (.ifCond .ne 8, 3) := by decide +kernel
theorem dX8_even_8 : decode cX8_even 8 = .ok (.aload_n 0, 1) := by decide +kernel
theorem dX8_even_9 : decode cX8_even 9 = .ok (.invokevirtual 103, 3) := by decide +kernel
theorem dX8_even_12 : decode cX8_even 12 = .ok (.ireturn, 1) := by decide +kernel
theorem dX8_even_13 : decode cX8_even 13 = .ok (.sipush 1023, 3) := by decide +kernel
theorem dX8_even_16 : decode cX8_even 16 = .ok (.istore_n 2, 1) := by decide +kernel
theorem dX8_even_17 : decode cX8_even 17 = .ok (.iconst 0, 1) := by decide +kernel
theorem dX8_even_18 : decode cX8_even 18 = .ok (.istore_n 3, 1) := by decide +kernel
theorem dX8_even_19 : decode cX8_even 19 = .ok (.iload_n 3, 1) := by decide +kernel
theorem dX8_even_20 : decode cX8_even 20 = .ok (.aload_n 0, 1) := by decide +kernel
theorem dX8_even_21 : decode cX8_even 21 = .ok (.getfield 7, 3) := by decide +kernel
theorem dX8_even_24 : decode cX8_even 24 = .ok (.iconst 5, 1) := by decide +kernel
theorem dX8_even_25 : decode cX8_even 25 = .ok (.iaload, 1) := by decide +kernel
theorem dX8_even_26 : decode cX8_even 26 = .ok (.if_icmp .ge 36, 3) := by decide +kernel
theorem dX8_even_29 : decode cX8_even 29 = .ok (.iload_n 2, 1) := by decide +kernel
theorem dX8_even_30 : decode cX8_even 30 = .ok (.aload_n 0, 1) := by decide +kernel
theorem dX8_even_31 : decode cX8_even 31 = .ok (.getfield 7, 3) := by decide +kernel
theorem dX8_even_34 : decode cX8_even 34 = .ok (.bipush 92, 2) := by decide +kernel
theorem dX8_even_36 : decode cX8_even 36 = .ok (.iconst 4, 1) := by decide +kernel
theorem dX8_even_37 : decode cX8_even 37 = .ok (.iload_n 3, 1) := by decide +kernel
theorem dX8_even_38 : decode cX8_even 38 = .ok (.imul, 1) := by decide +kernel
theorem dX8_even_39 : decode cX8_even 39 = .ok (.iadd, 1) := by decide +kernel
theorem dX8_even_40 : decode cX8_even 40 = .ok (.iaload, 1) := by decide +kernel
theorem dX8_even_41 : decode cX8_even 41 = .ok (.iload_n 1, 1) := by decide +kernel
theorem dX8_even_42 : decode cX8_even 42 = .ok (.if_icmp .ne 11, 3) := by decide +kernel
theorem dX8_even_45 : decode cX8_even 45 = .ok (.aload_n 0, 1) := by decide +kernel
theorem dX8_even_46 : decode cX8_even 46 = .ok (.iload_n 3, 1) := by decide +kernel
theorem dX8_even_47 : decode cX8_even 47 = .ok (.invokevirtual 274, 3) := by decide +kernel
theorem dX8_even_50 : decode cX8_even 50 = .ok (.goto 4, 3) := by decide +kernel
theorem dX8_even_53 : decode cX8_even 53 = .ok (.iconst (-1), 1) := by decide +kernel
theorem dX8_even_54 : decode cX8_even 54 = .ok (.iand, 1) := by decide +kernel
theorem dX8_even_55 : decode cX8_even 55 = .ok (.istore_n 2, 1) := by decide +kernel
theorem dX8_even_56 : decode cX8_even 56 = .ok (.iinc 3 1, 3) := by decide +kernel
theorem dX8_even_59 : decode cX8_even 59 = .ok (.goto (-40), 3) := by decide +kernel
theorem dX8_even_62 : decode cX8_even 62 = .ok (.iload_n 2, 1) := by decide +kernel
theorem dX8_even_63 : decode cX8_even 63 = .ok (.ireturn, 1) := by decide +kernel
theorem dX8_noteDown_0 : decode cX8_noteDown 0 = .ok (.iload_n 2, 1) := by decide +kernel
theorem dX8_noteDown_1 : decode cX8_noteDown 1 = .ok (.iconst 5, 1) := by decide +kernel
theorem dX8_noteDown_2 : decode cX8_noteDown 2 = .ok (.aload_n 0, 1) := by decide +kernel
theorem dX8_noteDown_3 : decode cX8_noteDown 3 = .ok (.getfield 7, 3) := by decide +kernel
theorem dX8_noteDown_6 : decode cX8_noteDown 6 = .ok (.iload_n 1, 1) := by decide +kernel
theorem dX8_noteDown_7 : decode cX8_noteDown 7 = .ok (.iaload, 1) := by decide +kernel
theorem dX8_noteDown_8 : decode cX8_noteDown 8 = .ok (.imul, 1) := by decide +kernel
theorem dX8_noteDown_9 : decode cX8_noteDown 9 = .ok (.iadd, 1) := by decide +kernel
theorem dX8_noteDown_10 : decode cX8_noteDown 10 = .ok (.istore 8, 2) := by decide +kernel
theorem dX8_noteDown_12 : decode cX8_noteDown 12 = .ok (.aload_n 0, 1) := by decide +kernel
theorem dX8_noteDown_13 : decode cX8_noteDown 13 = .ok (.getfield 7, 3) := by decide +kernel
theorem dX8_noteDown_16 : decode cX8_noteDown 16 = .ok (.iload 8, 2) := by decide +kernel
theorem dX8_noteDown_18 : decode cX8_noteDown 18 = .ok (.iload_n 3, 1) := by decide +kernel
theorem dX8_noteDown_19 : decode cX8_noteDown 19 = .ok (.iastore, 1) := by decide +kernel
theorem dX8_noteDown_20 : decode cX8_noteDown 20 = .ok (.aload_n 0, 1) := by decide +kernel
theorem dX8_noteDown_21 : decode cX8_noteDown 21 = .ok (.getfield 7, 3) := by decide +kernel
theorem dX8_noteDown_24 : decode cX8_noteDown 24 = .ok (.iload 8, 2) := by decide +kernel
theorem dX8_noteDown_26 : decode cX8_noteDown 26 = .ok (.iconst 1, 1) := by decide +kernel
theorem dX8_noteDown_27 : decode cX8_noteDown 27 = .ok (.iadd, 1) := by decide +kernel
theorem dX8_noteDown_28 : decode cX8_noteDown 28 = .ok (.iload 4, 2) := by decide +kernel
theorem dX8_noteDown_30 : decode cX8_noteDown 30 = .ok (.iastore, 1) := by decide +kernel
theorem dX8_noteDown_31 : decode cX8_noteDown 31 = .ok (.aload_n 0, 1) := by decide +kernel
theorem dX8_noteDown_32 : decode cX8_noteDown 32 = .ok (.getfield 7, 3) := by decide +kernel
theorem dX8_noteDown_35 : decode cX8_noteDown 35 = .ok (.iload 8, 2) := by decide +kernel
theorem dX8_noteDown_37 : decode cX8_noteDown 37 = .ok (.iconst 2, 1) := by decide +kernel
theorem dX8_noteDown_38 : decode cX8_noteDown 38 = .ok (.iadd, 1) := by decide +kernel
theorem dX8_noteDown_39 : decode cX8_noteDown 39 = .ok (.iload 5, 2) := by decide +kernel
theorem dX8_noteDown_41 : decode cX8_noteDown 41 = .ok (.iastore, 1) := by decide +kernel
theorem dX8_noteDown_42 : decode cX8_noteDown 42 = .ok (.aload_n 0, 1) := by decide +kernel
theorem dX8_noteDown_43 : decode cX8_noteDown 43 = .ok (.getfield 7, 3) := by decide +kernel
theorem dX8_noteDown_46 : decode cX8_noteDown 46 = .ok (.iload 8, 2) := by decide +kernel
theorem dX8_noteDown_48 : decode cX8_noteDown 48 = .ok (.iconst 3, 1) := by decide +kernel
theorem dX8_noteDown_49 : decode cX8_noteDown 49 = .ok (.iadd, 1) := by decide +kernel
theorem dX8_noteDown_50 : decode cX8_noteDown 50 = .ok (.iload 6, 2) := by decide +kernel
theorem dX8_noteDown_52 : decode cX8_noteDown 52 = .ok (.iastore, 1) := by decide +kernel
theorem dX8_noteDown_53 : decode cX8_noteDown 53 = .ok (.aload_n 0, 1) := by decide +kernel
theorem dX8_noteDown_54 : decode cX8_noteDown 54 = .ok (.getfield 7, 3) := by decide +kernel
theorem dX8_noteDown_57 : decode cX8_noteDown 57 = .ok (.iload 8, 2) := by decide +kernel
theorem dX8_noteDown_59 : decode cX8_noteDown 59 = .ok (.iconst 4, 1) := by decide +kernel
theorem dX8_noteDown_60 : decode cX8_noteDown 60 = .ok (.iadd, 1) := by decide +kernel
theorem dX8_noteDown_61 : decode cX8_noteDown 61 = .ok (.iload 7, 2) := by decide +kernel
theorem dX8_noteDown_63 : decode cX8_noteDown 63 = .ok (.iastore, 1) := by decide +kernel
theorem dX8_noteDown_64 : decode cX8_noteDown 64 = .ok (.aload_n 0, 1) := by decide +kernel
theorem dX8_noteDown_65 : decode cX8_noteDown 65 = .ok (.getfield 7, 3) := by decide +kernel
theorem dX8_noteDown_68 : decode cX8_noteDown 68 = .ok (.iload_n 1, 1) := by decide +kernel
theorem dX8_noteDown_69 : decode cX8_noteDown 69 = .ok (.dup2, 1) := by decide +kernel
theorem dX8_noteDown_70 : decode cX8_noteDown 70 = .ok (.iaload, 1) := by decide +kernel
theorem dX8_noteDown_71 : decode cX8_noteDown 71 = .ok (.iconst 1, 1) := by decide +kernel
theorem dX8_noteDown_72 : decode cX8_noteDown 72 = .ok (.iadd, 1) := by decide +kernel
theorem dX8_noteDown_73 : decode cX8_noteDown 73 = .ok (.iastore, 1) := by decide +kernel
theorem dX8_noteDown_74 : decode cX8_noteDown 74 = .ok (.aload_n 0, 1) := by decide +kernel
theorem dX8_noteDown_75 : decode cX8_noteDown 75 = .ok (.getfield 7, 3) := by decide +kernel
theorem dX8_noteDown_78 : decode cX8_noteDown 78 = .ok (.iload_n 1, 1) := by decide +kernel
theorem dX8_noteDown_79 : decode cX8_noteDown 79 = .ok (.iaload, 1) := by decide +kernel
theorem dX8_noteDown_80 : decode cX8_noteDown 80 = .ok (.ireturn, 1) := by decide +kernel
theorem dX8_note_0 : decode cX8_note 0 = .ok (.aload_n 0, 1) := by decide +kernel
theorem dX8_note_1 : decode cX8_note 1 = .ok (.iload_n 1, 1) := by decide +kernel
theorem dX8_note_2 : decode cX8_note 2 = .ok (.invokevirtual 116, 3) := by decide +kernel
theorem dX8_note_5 : decode cX8_note 5 = .ok (.ifCond .eq 53, 3) := by decide +kernel
theorem dX8_note_8 : decode cX8_note 8 = .ok (.iload_n 2, 1) := by decide +kernel
theorem dX8_note_9 : decode cX8_note 9 = .ok (.i2l, 1) := by decide +kernel
theorem dX8_note_10 : decode cX8_note 10 = .ok (.lconst 0, 1) := by decide +kernel
theorem dX8_note_11 : decode cX8_note 11 = .ok (.ldc2_w 101, 3) := by decide +kernel
theorem dX8_note_14 : decode cX8_note 14 = .ok (.invokestatic 60, 3) := by decide +kernel
theorem dX8_note_17 : decode cX8_note 17 = .ok (.ifCond .eq 41, 3) := by decide +kernel
theorem dX8_note_20 : decode cX8_note 20 = .ok (.iload_n 3, 1) := by decide +kernel
theorem dX8_note_21 : decode cX8_note 21 = .ok (.i2l, 1) := by decide +kernel
theorem dX8_note_22 : decode cX8_note 22 = .ok (.lconst 0, 1) := by decide +kernel
theorem dX8_note_23 : decode cX8_note 23 = .ok (.ldc2_w 120, 3) := by decide +kernel
theorem dX8_note_26 : decode cX8_note 26 = .ok (.invokestatic 60, 3) := by decide +kernel
theorem dX8_note_29 : decode cX8_note 29 = .ok (.ifCond .eq 29, 3) := by decide +kernel
theorem dX8_note_32 : decode cX8_note 32 = .ok (.iload 4, 2) := by decide +kernel
theorem dX8_note_34 : decode cX8_note 34 = .ok (.i2l, 1) := by decide +kernel
theorem dX8_note_35 : decode cX8_note 35 = .ok (.lconst 0, 1) := by decide +kernel
theorem dX8_note_36 : decode cX8_note 36 = .ok (.ldc2_w 246, 3) := by decide +kernel
theorem dX8_note_39 : decode cX8_note 39 = .ok (.invokestatic 60, 3) := by decide +kernel
theorem dX8_note_42 : decode cX8_note 42 = .ok (.ifCond .eq 16, 3) := by decide +kernel
theorem dX8_note_45 : decode cX8_note 45 = .ok (.iload 5, 2) := by decide +kernel
theorem dX8_note_47 : decode cX8_note 47 = .ok (.i2l, 1) := by decide +kernel
theorem dX8_note_48 : decode cX8_note 48 = .ok (.lconst 0, 1) := by decide +kernel
theorem dX8_note_49 : decode cX8_note 49 = .ok (.ldc2_w 246, 3) := by decide +kernel
theorem dX8_note_52 : decode cX8_note 52 = .ok (.invokestatic 60, 3) := by decide +kernel
theorem dX8_note_55 : decode cX8_note 55 = .ok (.ifCond .ne 8, 3) := by decide +kernel
theorem dX8_note_58 : decode cX8_note 58 = .ok (.aload_n 0, 1) := by decide +kernel
theorem dX8_note_59 : decode cX8_note 59 = .ok (.invokevirtual 103, 3) := by decide +kernel
theorem dX8_note_62 : decode cX8_note 62 = .ok (.ireturn, 1) := by decide +kernel
theorem dX8_note_63 : decode cX8_note 63 = .ok (.aload_n 0, 1) := by decide +kernel
theorem dX8_note_64 : decode cX8_note 64 = .ok (.getfield 7, 3) := by decide +kernel
theorem dX8_note_67 : decode cX8_note 67 = .ok (.bipush 6, 2) := by decide +kernel
theorem dX8_note_69 : decode cX8_note 69 = .ok (.iaload, 1) := by decide +kernel
theorem dX8_note_70 : decode cX8_note 70 = .ok (.bipush 6, 2) := by decide +kernel
theorem dX8_note_72 : decode cX8_note 72 = .ok (.if_icmp .ne 10, 3) := by decide +kernel
theorem dX8_note_75 : decode cX8_note 75 = .ok (.aload_n 0, 1) := by decide +kernel
theorem dX8_note_76 : decode cX8_note 76 = .ok (.invokevirtual 113, 3) := by decide +kernel
theorem dX8_note_79 : decode cX8_note 79 = .ok (.goto 18, 3) := by decide +kernel
theorem dX8_note_82 : decode cX8_note 82 = .ok (.aload_n 0, 1) := by decide +kernel
theorem dX8_note_83 : decode cX8_note 83 = .ok (.bipush 6, 2) := by decide +kernel
theorem dX8_note_85 : decode cX8_note 85 = .ok (.bipush 108, 2) := by decide +kernel
theorem dX8_note_87 : decode cX8_note 87 = .ok (.iload_n 1, 1) := by decide +kernel
theorem dX8_note_88 : decode cX8_note 88 = .ok (.iload_n 2, 1) := by decide +kernel
theorem dX8_note_89 : decode cX8_note 89 = .ok (.iload_n 3, 1) := by decide +kernel
theorem dX8_note_90 : decode cX8_note 90 = .ok (.iload 4, 2) := by decide +kernel
theorem dX8_note_92 : decode cX8_note 92 = .ok (.iload 5, 2) := by decide +kernel
theorem dX8_note_94 : decode cX8_note 94 = .ok (.invokevirtual 277, 3) := by decide +kernel
theorem dX8_note_97 : decode cX8_note 97 = .ok (.ireturn, 1) := by decide +kernel
theorem dX8_flew_0 : decode cX8_flew 0 = .ok (.aload_n 0, 1) := by decide +kernel
theorem dX8_flew_1 : decode cX8_flew 1 = .ok (.iload_n 1, 1) := by decide +kernel
theorem dX8_flew_2 : decode cX8_flew 2 = .ok (.invokevirtual 223, 3) := by decide +kernel
theorem dX8_flew_5 : decode cX8_flew 5 = .ok (.ifCond .eq 53, 3) := by decide +kernel
theorem dX8_flew_8 : decode cX8_flew 8 = .ok (.iload_n 2, 1) := by decide +kernel
theorem dX8_flew_9 : decode cX8_flew 9 = .ok (.i2l, 1) := by decide +kernel
theorem dX8_flew_10 : decode cX8_flew 10 = .ok (.lconst 1, 1) := by decide +kernel
theorem dX8_flew_11 : decode cX8_flew 11 = .ok (.ldc2_w 101, 3) := by decide +kernel
theorem dX8_flew_14 : decode cX8_flew 14 = .ok (.invokestatic 60, 3) := by decide +kernel
theorem dX8_flew_17 : decode cX8_flew 17 = .ok (.ifCond .eq 41, 3) := by decide +kernel
theorem dX8_flew_20 : decode cX8_flew 20 = .ok (.iload_n 3, 1) := by decide +kernel
theorem dX8_flew_21 : decode cX8_flew 21 = .ok (.i2l, 1) := by decide +kernel
theorem dX8_flew_22 : decode cX8_flew 22 = .ok (.lconst 0, 1) := by decide +kernel
theorem dX8_flew_23 : decode cX8_flew 23 = .ok (.ldc2_w 101, 3) := by decide +kernel
theorem dX8_flew_26 : decode cX8_flew 26 = .ok (.invokestatic 60, 3) := by decide +kernel
theorem dX8_flew_29 : decode cX8_flew 29 = .ok (.ifCond .eq 29, 3) := by decide +kernel
theorem dX8_flew_32 : decode cX8_flew 32 = .ok (.iload 4, 2) := by decide +kernel
theorem dX8_flew_34 : decode cX8_flew 34 = .ok (.i2l, 1) := by decide +kernel
theorem dX8_flew_35 : decode cX8_flew 35 = .ok (.lconst 0, 1) := by decide +kernel
theorem dX8_flew_36 : decode cX8_flew 36 = .ok (.ldc2_w 209, 3) := by decide +kernel
theorem dX8_flew_39 : decode cX8_flew 39 = .ok (.invokestatic 60, 3) := by decide +kernel
theorem dX8_flew_42 : decode cX8_flew 42 = .ok (.ifCond .eq 16, 3) := by decide +kernel
theorem dX8_flew_45 : decode cX8_flew 45 = .ok (.iload 5, 2) := by decide +kernel
theorem dX8_flew_47 : decode cX8_flew 47 = .ok (.i2l, 1) := by decide +kernel
theorem dX8_flew_48 : decode cX8_flew 48 = .ok (.lconst 0, 1) := by decide +kernel
theorem dX8_flew_49 : decode cX8_flew 49 = .ok (.ldc2_w 281, 3) := by decide +kernel
theorem dX8_flew_52 : decode cX8_flew 52 = .ok (.invokestatic 60, 3) := by decide +kernel
theorem dX8_flew_55 : decode cX8_flew 55 = .ok (.ifCond .ne 8, 3) := by decide +kernel
theorem dX8_flew_58 : decode cX8_flew 58 = .ok (.aload_n 0, 1) := by decide +kernel
theorem dX8_flew_59 : decode cX8_flew 59 = .ok (.invokevirtual 103, 3) := by decide +kernel
theorem dX8_flew_62 : decode cX8_flew 62 = .ok (.ireturn, 1) := by decide +kernel
theorem dX8_flew_63 : decode cX8_flew 63 = .ok (.aload_n 0, 1) := by decide +kernel
theorem dX8_flew_64 : decode cX8_flew 64 = .ok (.getfield 7, 3) := by decide +kernel
theorem dX8_flew_67 : decode cX8_flew 67 = .ok (.bipush 7, 2) := by decide +kernel
theorem dX8_flew_69 : decode cX8_flew 69 = .ok (.iaload, 1) := by decide +kernel
theorem dX8_flew_70 : decode cX8_flew 70 = .ok (.bipush 6, 2) := by decide +kernel
theorem dX8_flew_72 : decode cX8_flew 72 = .ok (.if_icmp .ne 10, 3) := by decide +kernel
theorem dX8_flew_75 : decode cX8_flew 75 = .ok (.aload_n 0, 1) := by decide +kernel
theorem dX8_flew_76 : decode cX8_flew 76 = .ok (.invokevirtual 113, 3) := by decide +kernel
theorem dX8_flew_79 : decode cX8_flew 79 = .ok (.goto 19, 3) := by decide +kernel
theorem dX8_flew_82 : decode cX8_flew 82 = .ok (.aload_n 0, 1) := by decide +kernel
theorem dX8_flew_83 : decode cX8_flew 83 = .ok (.bipush 7, 2) := by decide +kernel
theorem dX8_flew_85 : decode cX8_flew 85 = .ok (.sipush 138, 3) := by decide +kernel
theorem dX8_flew_88 : decode cX8_flew 88 = .ok (.iload_n 1, 1) := by decide +kernel
theorem dX8_flew_89 : decode cX8_flew 89 = .ok (.iload_n 2, 1) := by decide +kernel
theorem dX8_flew_90 : decode cX8_flew 90 = .ok (.iload_n 3, 1) := by decide +kernel
theorem dX8_flew_91 : decode cX8_flew 91 = .ok (.iload 4, 2) := by decide +kernel
theorem dX8_flew_93 : decode cX8_flew 93 = .ok (.iload 5, 2) := by decide +kernel
theorem dX8_flew_95 : decode cX8_flew 95 = .ok (.invokevirtual 277, 3) := by decide +kernel
theorem dX8_flew_98 : decode cX8_flew 98 = .ok (.ireturn, 1) := by decide +kernel
theorem dX8_forget_0 : decode cX8_forget 0 = .ok (.iload_n 1, 1) := by decide +kernel
theorem dX8_forget_1 : decode cX8_forget 1 = .ok (.i2l, 1) := by decide +kernel
theorem dX8_forget_2 : decode cX8_forget 2 = .ok (.lconst 0, 1) := by decide +kernel
theorem dX8_forget_3 : decode cX8_forget 3 = .ok (.ldc2_w 283, 3) := by decide +kernel
theorem dX8_forget_6 : decode cX8_forget 6 = .ok (.invokestatic 60, 3) := by decide +kernel
theorem dX8_forget_9 : decode cX8_forget 9 = .ok (.ifCond .ne 8, 3) := by decide +kernel
theorem dX8_forget_12 : decode cX8_forget 12 = .ok (.aload_n 0, 1) := by decide +kernel
theorem dX8_forget_13 : decode cX8_forget 13 = .ok (.invokevirtual 103, 3) := by decide +kernel
theorem dX8_forget_16 : decode cX8_forget 16 = .ok (.ireturn, 1) := by decide +kernel
theorem dX8_forget_17 : decode cX8_forget 17 = .ok (.aload_n 0, 1) := by decide +kernel
theorem dX8_forget_18 : decode cX8_forget 18 = .ok (.getfield 7, 3) := by decide +kernel
theorem dX8_forget_21 : decode cX8_forget 21 = .ok (.iconst 5, 1) := by decide +kernel
theorem dX8_forget_22 : decode cX8_forget 22 = .ok (.iload_n 1, 1) := by decide +kernel
theorem dX8_forget_23 : decode cX8_forget 23 = .ok (.iadd, 1) := by decide +kernel
theorem dX8_forget_24 : decode cX8_forget 24 = .ok (.iaload, 1) := by decide +kernel
theorem dX8_forget_25 : decode cX8_forget 25 = .ok (.istore_n 2, 1) := by decide +kernel
theorem dX8_forget_26 : decode cX8_forget 26 = .ok (.aload_n 0, 1) := by decide +kernel
theorem dX8_forget_27 : decode cX8_forget 27 = .ok (.getfield 7, 3) := by decide +kernel
theorem dX8_forget_30 : decode cX8_forget 30 = .ok (.iconst 5, 1) := by decide +kernel
theorem dX8_forget_31 : decode cX8_forget 31 = .ok (.iload_n 1, 1) := by decide +kernel
theorem dX8_forget_32 : decode cX8_forget 32 = .ok (.iadd, 1) := by decide +kernel
theorem dX8_forget_33 : decode cX8_forget 33 = .ok (.iconst 0, 1) := by decide +kernel
theorem dX8_forget_34 : decode cX8_forget 34 = .ok (.iastore, 1) := by decide +kernel
theorem dX8_forget_35 : decode cX8_forget 35 = .ok (.iload_n 2, 1) := by decide +kernel
theorem dX8_forget_36 : decode cX8_forget 36 = .ok (.ireturn, 1) := by decide +kernel
theorem dX8_kindsOf_0 : decode cX8_kindsOf 0 = .ok (.iconst 0, 1) := by decide +kernel
theorem dX8_kindsOf_1 : decode cX8_kindsOf 1 = .ok (.istore_n 2, 1) := by decide +kernel
theorem dX8_kindsOf_2 : decode cX8_kindsOf 2 = .ok (.iconst 0, 1) := by decide +kernel
theorem dX8_kindsOf_3 : decode cX8_kindsOf 3 = .ok (.istore_n 3, 1) := by decide +kernel
theorem dX8_kindsOf_4 : decode cX8_kindsOf 4 = .ok (.iload_n 3, 1) := by decide +kernel
theorem dX8_kindsOf_5 : decode cX8_kindsOf 5 = .ok (.bipush 6, 2) := by decide +kernel
theorem dX8_kindsOf_7 : decode cX8_kindsOf 7 = .ok (.if_icmp .ge 142, 3) := by decide +kernel
theorem dX8_kindsOf_10 : decode cX8_kindsOf 10 = .ok (.iconst 1, 1) := by decide +kernel
theorem dX8_kindsOf_11 : decode cX8_kindsOf 11 = .ok (.istore 4, 2) := by decide +kernel
theorem dX8_kindsOf_13 : decode cX8_kindsOf 13 = .ok (.iconst 0, 1) := by decide +kernel
theorem dX8_kindsOf_14 : decode cX8_kindsOf 14 = .ok (.istore 5, 2) := by decide +kernel
theorem dX8_kindsOf_16 : decode cX8_kindsOf 16 = .ok (.iload 5, 2) := by decide +kernel
theorem dX8_kindsOf_18 : decode cX8_kindsOf 18 = .ok (.aload_n 0, 1) := by decide +kernel
theorem dX8_kindsOf_19 : decode cX8_kindsOf 19 = .ok (.getfield 7, 3) := by decide +kernel
theorem dX8_kindsOf_22 : decode cX8_kindsOf 22 = .ok (.bipush 6, 2) := by decide +kernel
theorem dX8_kindsOf_24 : decode cX8_kindsOf 24 = .ok (.iaload, 1) := by decide +kernel
theorem dX8_kindsOf_25 : decode cX8_kindsOf 25 = .ok (.if_icmp .ge 103, 3) := by decide +kernel
theorem dX8_kindsOf_28 : decode cX8_kindsOf 28 = .ok (.bipush 108, 2) := by decide +kernel
theorem dX8_kindsOf_30 : decode cX8_kindsOf 30 = .ok (.iconst 5, 1) := by decide +kernel
theorem dX8_kindsOf_31 : decode cX8_kindsOf 31 = .ok (.iload 5, 2) := by decide +kernel
theorem dX8_kindsOf_33 : decode cX8_kindsOf 33 = .ok (.imul, 1) := by decide +kernel
theorem dX8_kindsOf_34 : decode cX8_kindsOf 34 = .ok (.iadd, 1) := by decide +kernel
theorem dX8_kindsOf_35 : decode cX8_kindsOf 35 = .ok (.istore 6, 2) := by decide +kernel
theorem dX8_kindsOf_37 : decode cX8_kindsOf 37 = .ok (.iload_n 3, 1) := by decide +kernel
theorem dX8_kindsOf_38 : decode cX8_kindsOf 38 = .ok (.aload_n 0, 1) := by decide +kernel
theorem dX8_kindsOf_39 : decode cX8_kindsOf 39 = .ok (.getfield 7, 3) := by decide +kernel
theorem dX8_kindsOf_42 : decode cX8_kindsOf 42 = .ok (.iload 6, 2) := by decide +kernel
theorem dX8_kindsOf_44 : decode cX8_kindsOf 44 = .ok (.iconst 2, 1) := by decide +kernel
theorem dX8_kindsOf_45 : decode cX8_kindsOf 45 = .ok (.iadd, 1) := by decide +kernel
theorem dX8_kindsOf_46 : decode cX8_kindsOf 46 = .ok (.iaload, 1) := by decide +kernel
theorem dX8_kindsOf_47 : decode cX8_kindsOf 47 = .ok (.aload_n 0, 1) := by decide +kernel
theorem dX8_kindsOf_48 : decode cX8_kindsOf 48 = .ok (.getfield 7, 3) := by decide +kernel
theorem dX8_kindsOf_51 : decode cX8_kindsOf 51 = .ok (.iload 6, 2) := by decide +kernel
theorem dX8_kindsOf_53 : decode cX8_kindsOf 53 = .ok (.iconst 1, 1) := by decide +kernel
theorem dX8_kindsOf_54 : decode cX8_kindsOf 54 = .ok (.iadd, 1) := by decide +kernel
theorem dX8_kindsOf_55 : decode cX8_kindsOf 55 = .ok (.iaload, 1) := by decide +kernel
theorem dX8_kindsOf_56 : decode cX8_kindsOf 56 = .ok (.invokestatic 87, 3) := by decide +kernel
theorem dX8_kindsOf_59 : decode cX8_kindsOf 59 = .ok (.aload_n 0, 1) := by decide +kernel
theorem dX8_kindsOf_60 : decode cX8_kindsOf 60 = .ok (.getfield 7, 3) := by decide +kernel
theorem dX8_kindsOf_63 : decode cX8_kindsOf 63 = .ok (.iload 6, 2) := by decide +kernel
theorem dX8_kindsOf_65 : decode cX8_kindsOf 65 = .ok (.iconst 3, 1) := by decide +kernel
theorem dX8_kindsOf_66 : decode cX8_kindsOf 66 = .ok (.iadd, 1) := by decide +kernel
theorem dX8_kindsOf_67 : decode cX8_kindsOf 67 = .ok (.iaload, 1) := by decide +kernel
theorem dX8_kindsOf_68 : decode cX8_kindsOf 68 = .ok (.if_icmp .ne 23, 3) := by decide +kernel
theorem dX8_kindsOf_71 : decode cX8_kindsOf 71 = .ok (.iload_n 3, 1) := by decide +kernel
theorem dX8_kindsOf_72 : decode cX8_kindsOf 72 = .ok (.invokestatic 217, 3) := by decide +kernel
theorem dX8_kindsOf_75 : decode cX8_kindsOf 75 = .ok (.aload_n 0, 1) := by decide +kernel
theorem dX8_kindsOf_76 : decode cX8_kindsOf 76 = .ok (.getfield 7, 3) := by decide +kernel
theorem dX8_kindsOf_79 : decode cX8_kindsOf 79 = .ok (.iload 6, 2) := by decide +kernel
theorem dX8_kindsOf_81 : decode cX8_kindsOf 81 = .ok (.iconst 4, 1) := by decide +kernel
theorem dX8_kindsOf_82 : decode cX8_kindsOf 82 = .ok (.iadd, 1) := by decide +kernel
theorem dX8_kindsOf_83 : decode cX8_kindsOf 83 = .ok (.iaload, 1) := by decide +kernel
theorem dX8_kindsOf_84 : decode cX8_kindsOf 84 = .ok (.if_icmp .ne 7, 3) := by decide +kernel
theorem dX8_kindsOf_87 : decode cX8_kindsOf 87 = .ok (.iconst 1, 1) := by decide +kernel
theorem dX8_kindsOf_88 : decode cX8_kindsOf 88 = .ok (.goto 4, 3) := by decide +kernel
theorem dX8_kindsOf_91 : decode cX8_kindsOf 91 = .ok (.iconst 0, 1) := by decide +kernel
theorem dX8_kindsOf_92 : decode cX8_kindsOf 92 = .ok (.istore 7, 2) := by decide +kernel
theorem dX8_kindsOf_94 : decode cX8_kindsOf 94 = .ok (.iload 4, 2) := by decide +kernel
theorem dX8_kindsOf_96 : decode cX8_kindsOf 96 = .ok (.ifCond .eq 23, 3) := by decide +kernel
theorem dX8_kindsOf_99 : decode cX8_kindsOf 99 = .ok (.aload_n 0, 1) := by decide +kernel
theorem dX8_kindsOf_100 : decode cX8_kindsOf 100 = .ok (.getfield 7, 3) := by decide +kernel
theorem dX8_kindsOf_103 : decode cX8_kindsOf 103 = .ok (.iload 6, 2) := by decide +kernel
theorem dX8_kindsOf_105 : decode cX8_kindsOf 105 = .ok (.iaload, 1) := by decide +kernel
theorem dX8_kindsOf_106 : decode cX8_kindsOf 106 = .ok (.iload_n 1, 1) := by decide +kernel
theorem dX8_kindsOf_107 : decode cX8_kindsOf 107 = .ok (.if_icmp .ne 8, 3) := by decide +kernel
theorem dX8_kindsOf_110 : decode cX8_kindsOf 110 = .ok (.iload 7, 2) := by decide +kernel
theorem dX8_kindsOf_112 : decode cX8_kindsOf 112 = .ok (.ifCond .eq 7, 3) := by decide +kernel
theorem dX8_kindsOf_115 : decode cX8_kindsOf 115 = .ok (.iconst 1, 1) := by decide +kernel
theorem dX8_kindsOf_116 : decode cX8_kindsOf 116 = .ok (.goto 4, 3) := by decide +kernel
theorem dX8_kindsOf_119 : decode cX8_kindsOf 119 = .ok (.iconst 0, 1) := by decide +kernel
theorem dX8_kindsOf_120 : decode cX8_kindsOf 120 = .ok (.istore 4, 2) := by decide +kernel
theorem dX8_kindsOf_122 : decode cX8_kindsOf 122 = .ok (.iinc 5 1, 3) := by decide +kernel
theorem dX8_kindsOf_125 : decode cX8_kindsOf 125 = .ok (.goto (-109), 3) := by decide +kernel
theorem dX8_kindsOf_128 : decode cX8_kindsOf 128 = .ok (.iload_n 2, 1) := by decide +kernel
theorem dX8_kindsOf_129 : decode cX8_kindsOf 129 = .ok (.iload 4, 2) := by decide +kernel
theorem dX8_kindsOf_131 : decode cX8_kindsOf 131 = .ok (.ifCond .eq 9, 3) := by decide +kernel
theorem dX8_kindsOf_134 : decode cX8_kindsOf 134 = .ok (.iconst 1, 1) := by decide +kernel
theorem dX8_kindsOf_135 : decode cX8_kindsOf 135 = .ok (.iload_n 3, 1) := by decide +kernel
theorem dX8_kindsOf_136 : decode cX8_kindsOf 136 = .ok (.ishl, 1) := by decide +kernel
theorem dX8_kindsOf_137 : decode cX8_kindsOf 137 = .ok (.goto 4, 3) := by decide +kernel
theorem dX8_kindsOf_140 : decode cX8_kindsOf 140 = .ok (.iconst 0, 1) := by decide +kernel
theorem dX8_kindsOf_141 : decode cX8_kindsOf 141 = .ok (.ior, 1) := by decide +kernel
theorem dX8_kindsOf_142 : decode cX8_kindsOf 142 = .ok (.istore_n 2, 1) := by decide +kernel
theorem dX8_kindsOf_143 : decode cX8_kindsOf 143 = .ok (.iinc 3 1, 3) := by decide +kernel
theorem dX8_kindsOf_146 : decode cX8_kindsOf 146 = .ok (.goto (-142), 3) := by decide +kernel
theorem dX8_kindsOf_149 : decode cX8_kindsOf 149 = .ok (.iload_n 2, 1) := by decide +kernel
theorem dX8_kindsOf_150 : decode cX8_kindsOf 150 = .ok (.ireturn, 1) := by decide +kernel
theorem dX8_is_0 : decode cX8_is 0 = .ok (.aload_n 0, 1) := by decide +kernel
theorem dX8_is_1 : decode cX8_is 1 = .ok (.iload_n 1, 1) := by decide +kernel
theorem dX8_is_2 : decode cX8_is 2 = .ok (.invokevirtual 116, 3) := by decide +kernel
theorem dX8_is_5 : decode cX8_is 5 = .ok (.ifCond .eq 11, 3) := by decide +kernel
theorem dX8_is_8 : decode cX8_is 8 = .ok (.aload_n 0, 1) := by decide +kernel
theorem dX8_is_9 : decode cX8_is 9 = .ok (.iload_n 1, 1) := by decide +kernel
theorem dX8_is_10 : decode cX8_is 10 = .ok (.invokevirtual 285, 3) := by decide +kernel
theorem dX8_is_13 : decode cX8_is 13 = .ok (.goto 7, 3) := by decide +kernel
theorem dX8_is_16 : decode cX8_is 16 = .ok (.aload_n 0, 1) := by decide +kernel
theorem dX8_is_17 : decode cX8_is 17 = .ok (.invokevirtual 103, 3) := by decide +kernel
theorem dX8_is_20 : decode cX8_is 20 = .ok (.ireturn, 1) := by decide +kernel
theorem dX8_hasKind_0 : decode cX8_hasKind 0 = .ok (.iload_n 0, 1) := by decide +kernel
theorem dX8_hasKind_1 : decode cX8_hasKind 1 = .ok (.iload_n 1, 1) := by decide +kernel
theorem dX8_hasKind_2 : decode cX8_hasKind 2 = .ok (.ishr, 1) := by decide +kernel
theorem dX8_hasKind_3 : decode cX8_hasKind 3 = .ok (.iconst 1, 1) := by decide +kernel
theorem dX8_hasKind_4 : decode cX8_hasKind 4 = .ok (.iand, 1) := by decide +kernel
theorem dX8_hasKind_5 : decode cX8_hasKind 5 = .ok (.iconst 1, 1) := by decide +kernel
theorem dX8_hasKind_6 : decode cX8_hasKind 6 = .ok (.if_icmp .ne 7, 3) := by decide +kernel
theorem dX8_hasKind_9 : decode cX8_hasKind 9 = .ok (.iconst 1, 1) := by decide +kernel
theorem dX8_hasKind_10 : decode cX8_hasKind 10 = .ok (.goto 4, 3) := by decide +kernel
theorem dX8_hasKind_13 : decode cX8_hasKind 13 = .ok (.iconst 0, 1) := by decide +kernel
theorem dX8_hasKind_14 : decode cX8_hasKind 14 = .ok (.ireturn, 1) := by decide +kernel
theorem dX8_mostAlike_0 : decode cX8_mostAlike 0 = .ok (.iconst 0, 1) := by decide +kernel
theorem dX8_mostAlike_1 : decode cX8_mostAlike 1 = .ok (.istore_n 2, 1) := by decide +kernel
theorem dX8_mostAlike_2 : decode cX8_mostAlike 2 = .ok (.iconst 0, 1) := by decide +kernel
theorem dX8_mostAlike_3 : decode cX8_mostAlike 3 = .ok (.istore_n 3, 1) := by decide +kernel
theorem dX8_mostAlike_4 : decode cX8_mostAlike 4 = .ok (.iload_n 3, 1) := by decide +kernel
theorem dX8_mostAlike_5 : decode cX8_mostAlike 5 = .ok (.bipush 6, 2) := by decide +kernel
theorem dX8_mostAlike_7 : decode cX8_mostAlike 7 = .ok (.if_icmp .ge 84, 3) := by decide +kernel
theorem dX8_mostAlike_10 : decode cX8_mostAlike 10 = .ok (.iconst 0, 1) := by decide +kernel
theorem dX8_mostAlike_11 : decode cX8_mostAlike 11 = .ok (.istore 4, 2) := by decide +kernel
theorem dX8_mostAlike_13 : decode cX8_mostAlike 13 = .ok (.iconst 0, 1) := by decide +kernel
theorem dX8_mostAlike_14 : decode cX8_mostAlike 14 = .ok (.istore 5, 2) := by decide +kernel
theorem dX8_mostAlike_16 : decode cX8_mostAlike 16 = .ok (.iload 5, 2) := by decide +kernel
theorem dX8_mostAlike_18 : decode cX8_mostAlike 18 = .ok (.bipush 6, 2) := by decide +kernel
theorem dX8_mostAlike_20 : decode cX8_mostAlike 20 = .ok (.if_icmp .ge 52, 3) := by decide +kernel
theorem dX8_mostAlike_23 : decode cX8_mostAlike 23 = .ok (.iload 4, 2) := by decide +kernel
theorem dX8_mostAlike_25 : decode cX8_mostAlike 25 = .ok (.iload_n 1, 1) := by decide +kernel
theorem dX8_mostAlike_26 : decode cX8_mostAlike 26 = .ok (.iload_n 3, 1) := by decide +kernel
theorem dX8_mostAlike_27 : decode cX8_mostAlike 27 = .ok (.invokestatic 288, 3) := by decide +kernel
theorem dX8_mostAlike_30 : decode cX8_mostAlike 30 = .ok (.ifCond .eq 32, 3) := by decide +kernel
theorem dX8_mostAlike_33 : decode cX8_mostAlike 33 = .ok (.iload_n 1, 1) := by decide +kernel
theorem dX8_mostAlike_34 : decode cX8_mostAlike 34 = .ok (.iload 5, 2) := by decide +kernel
theorem dX8_mostAlike_36 : decode cX8_mostAlike 36 = .ok (.invokestatic 288, 3) := by decide +kernel
theorem dX8_mostAlike_39 : decode cX8_mostAlike 39 = .ok (.ifCond .eq 23, 3) := by decide +kernel
theorem dX8_mostAlike_42 : decode cX8_mostAlike 42 = .ok (.aload_n 0, 1) := by decide +kernel
theorem dX8_mostAlike_43 : decode cX8_mostAlike 43 = .ok (.getfield 41, 3) := by decide +kernel
theorem dX8_mostAlike_46 : decode cX8_mostAlike 46 = .ok (.iload_n 3, 1) := by decide +kernel
theorem dX8_mostAlike_47 : decode cX8_mostAlike 47 = .ok (.iaload, 1) := by decide +kernel
theorem dX8_mostAlike_48 : decode cX8_mostAlike 48 = .ok (.aload_n 0, 1) := by decide +kernel
theorem dX8_mostAlike_49 : decode cX8_mostAlike 49 = .ok (.getfield 41, 3) := by decide +kernel
theorem dX8_mostAlike_52 : decode cX8_mostAlike 52 = .ok (.iload 5, 2) := by decide +kernel
theorem dX8_mostAlike_54 : decode cX8_mostAlike 54 = .ok (.iaload, 1) := by decide +kernel
theorem dX8_mostAlike_55 : decode cX8_mostAlike 55 = .ok (.if_icmp .ne 7, 3) := by decide +kernel
theorem dX8_mostAlike_58 : decode cX8_mostAlike 58 = .ok (.iconst 1, 1) := by decide +kernel
theorem dX8_mostAlike_59 : decode cX8_mostAlike 59 = .ok (.goto 4, 3) := by decide +kernel
theorem dX8_mostAlike_62 : decode cX8_mostAlike 62 = .ok (.iconst 0, 1) := by decide +kernel
theorem dX8_mostAlike_63 : decode cX8_mostAlike 63 = .ok (.iadd, 1) := by decide +kernel
theorem dX8_mostAlike_64 : decode cX8_mostAlike 64 = .ok (.istore 4, 2) := by decide +kernel
theorem dX8_mostAlike_66 : decode cX8_mostAlike 66 = .ok (.iinc 5 1, 3) := by decide +kernel
theorem dX8_mostAlike_69 : decode cX8_mostAlike 69 = .ok (.goto (-53), 3) := by decide +kernel
theorem dX8_mostAlike_72 : decode cX8_mostAlike 72 = .ok (.iload 4, 2) := by decide +kernel
theorem dX8_mostAlike_74 : decode cX8_mostAlike 74 = .ok (.iload_n 2, 1) := by decide +kernel
theorem dX8_mostAlike_75 : decode cX8_mostAlike 75 = .ok (.if_icmp .le 8, 3) := by decide +kernel
theorem dX8_mostAlike_78 : decode cX8_mostAlike 78 = .ok (.iload 4, 2) := by decide +kernel
theorem dX8_mostAlike_80 : decode cX8_mostAlike 80 = .ok (.goto 4, 3) := by decide +kernel
theorem dX8_mostAlike_83 : decode cX8_mostAlike 83 = .ok (.iload_n 2, 1) := by decide +kernel
theorem dX8_mostAlike_84 : decode cX8_mostAlike 84 = .ok (.istore_n 2, 1) := by decide +kernel
theorem dX8_mostAlike_85 : decode cX8_mostAlike 85 = .ok (.iinc 3 1, 3) := by decide +kernel
theorem dX8_mostAlike_88 : decode cX8_mostAlike 88 = .ok (.goto (-84), 3) := by decide +kernel
theorem dX8_mostAlike_91 : decode cX8_mostAlike 91 = .ok (.iload_n 2, 1) := by decide +kernel
theorem dX8_mostAlike_92 : decode cX8_mostAlike 92 = .ok (.ireturn, 1) := by decide +kernel
theorem dX8_watch_0 : decode cX8_watch 0 = .ok (.aload_n 0, 1) := by decide +kernel
theorem dX8_watch_1 : decode cX8_watch 1 = .ok (.iload_n 1, 1) := by decide +kernel
theorem dX8_watch_2 : decode cX8_watch 2 = .ok (.invokevirtual 116, 3) := by decide +kernel
theorem dX8_watch_5 : decode cX8_watch 5 = .ok (.ifCond .ne 8, 3) := by decide +kernel
theorem dX8_watch_8 : decode cX8_watch 8 = .ok (.aload_n 0, 1) := by decide +kernel
theorem dX8_watch_9 : decode cX8_watch 9 = .ok (.invokevirtual 103, 3) := by decide +kernel
theorem dX8_watch_12 : decode cX8_watch 12 = .ok (.ireturn, 1) := by decide +kernel
theorem dX8_watch_13 : decode cX8_watch 13 = .ok (.aload_n 0, 1) := by decide +kernel
theorem dX8_watch_14 : decode cX8_watch 14 = .ok (.iload_n 1, 1) := by decide +kernel
theorem dX8_watch_15 : decode cX8_watch 15 = .ok (.invokevirtual 285, 3) := by decide +kernel
theorem dX8_watch_18 : decode cX8_watch 18 = .ok (.istore_n 2, 1) := by decide +kernel
theorem dX8_watch_19 : decode cX8_watch 19 = .ok (.iconst (-1), 1) := by decide +kernel
theorem dX8_watch_20 : decode cX8_watch 20 = .ok (.istore_n 3, 1) := by decide +kernel
theorem dX8_watch_21 : decode cX8_watch 21 = .ok (.ldc 160, 2) := by decide +kernel
theorem dX8_watch_23 : decode cX8_watch 23 = .ok (.istore 4, 2) := by decide +kernel
theorem dX8_watch_25 : decode cX8_watch 25 = .ok (.iconst 0, 1) := by decide +kernel
theorem dX8_watch_26 : decode cX8_watch 26 = .ok (.istore 5, 2) := by decide +kernel
theorem dX8_watch_28 : decode cX8_watch 28 = .ok (.iload 5, 2) := by decide +kernel
theorem dX8_watch_30 : decode cX8_watch 30 = .ok (.bipush 12, 2) := by decide +kernel
theorem dX8_watch_32 : decode cX8_watch 32 = .ok (.if_icmp .ge 98, 3) := by decide +kernel
theorem dX8_watch_35 : decode cX8_watch 35 = .ok (.iload_n 2, 1) := by decide +kernel
theorem dX8_watch_36 : decode cX8_watch 36 = .ok (.ifCond .eq 94, 3) := by decide +kernel
theorem dX8_watch_39 : decode cX8_watch 39 = .ok (.iconst 0, 1) := by decide +kernel
theorem dX8_watch_40 : decode cX8_watch 40 = .ok (.istore 6, 2) := by decide +kernel
theorem dX8_watch_42 : decode cX8_watch 42 = .ok (.iload 6, 2) := by decide +kernel
theorem dX8_watch_44 : decode cX8_watch 44 = .ok (.bipush 6, 2) := by decide +kernel
theorem dX8_watch_46 : decode cX8_watch 46 = .ok (.if_icmp .ge 41, 3) := by decide +kernel
theorem dX8_watch_49 : decode cX8_watch 49 = .ok (.aload_n 0, 1) := by decide +kernel
theorem dX8_watch_50 : decode cX8_watch 50 = .ok (.getfield 41, 3) := by decide +kernel
theorem dX8_watch_53 : decode cX8_watch 53 = .ok (.iload 6, 2) := by decide +kernel
theorem dX8_watch_55 : decode cX8_watch 55 = .ok (.bipush 10, 2) := by decide +kernel
theorem dX8_watch_57 : decode cX8_watch 57 = .ok (.iload 6, 2) := by decide +kernel
theorem dX8_watch_59 : decode cX8_watch 59 = .ok (.iload 5, 2) := by decide +kernel
theorem dX8_watch_61 : decode cX8_watch 61 = .ok (.aload_n 0, 1) := by decide +kernel
theorem dX8_watch_62 : decode cX8_watch 62 = .ok (.getfield 7, 3) := by decide +kernel
theorem dX8_watch_65 : decode cX8_watch 65 = .ok (.bipush 13, 2) := by decide +kernel
theorem dX8_watch_67 : decode cX8_watch 67 = .ok (.iload_n 1, 1) := by decide +kernel
theorem dX8_watch_68 : decode cX8_watch 68 = .ok (.iadd, 1) := by decide +kernel
theorem dX8_watch_69 : decode cX8_watch 69 = .ok (.iaload, 1) := by decide +kernel
theorem dX8_watch_70 : decode cX8_watch 70 = .ok (.invokestatic 87, 3) := by decide +kernel
theorem dX8_watch_73 : decode cX8_watch 73 = .ok (.imul, 1) := by decide +kernel
theorem dX8_watch_74 : decode cX8_watch 74 = .ok (.iload 6, 2) := by decide +kernel
theorem dX8_watch_76 : decode cX8_watch 76 = .ok (.invokestatic 217, 3) := by decide +kernel
theorem dX8_watch_79 : decode cX8_watch 79 = .ok (.iadd, 1) := by decide +kernel
theorem dX8_watch_80 : decode cX8_watch 80 = .ok (.iastore, 1) := by decide +kernel
theorem dX8_watch_81 : decode cX8_watch 81 = .ok (.iinc 6 1, 3) := by decide +kernel
theorem dX8_watch_84 : decode cX8_watch 84 = .ok (.goto (-42), 3) := by decide +kernel
theorem dX8_watch_87 : decode cX8_watch 87 = .ok (.aload_n 0, 1) := by decide +kernel
theorem dX8_watch_88 : decode cX8_watch 88 = .ok (.iload_n 2, 1) := by decide +kernel
theorem dX8_watch_89 : decode cX8_watch 89 = .ok (.invokevirtual 292, 3) := by decide +kernel
theorem dX8_watch_92 : decode cX8_watch 92 = .ok (.istore 6, 2) := by decide +kernel
theorem dX8_watch_94 : decode cX8_watch 94 = .ok (.iload 6, 2) := by decide +kernel
theorem dX8_watch_96 : decode cX8_watch 96 = .ok (.iload 4, 2) := by decide +kernel
theorem dX8_watch_98 : decode cX8_watch 98 = .ok (.if_icmp .ge 8, 3) := by decide +kernel
theorem dX8_watch_101 : decode cX8_watch 101 = .ok (.iload 5, 2) := by decide +kernel
theorem dX8_watch_103 : decode cX8_watch 103 = .ok (.goto 4, 3) := by decide +kernel
theorem dX8_watch_106 : decode cX8_watch 106 = .ok (.iload_n 3, 1) := by decide +kernel
theorem dX8_watch_107 : decode cX8_watch 107 = .ok (.istore_n 3, 1) := by decide +kernel
theorem dX8_watch_108 : decode cX8_watch 108 = .ok (.iload 6, 2) := by decide +kernel
theorem dX8_watch_110 : decode cX8_watch 110 = .ok (.iload 4, 2) := by decide +kernel
theorem dX8_watch_112 : decode cX8_watch 112 = .ok (.if_icmp .ge 8, 3) := by decide +kernel
theorem dX8_watch_115 : decode cX8_watch 115 = .ok (.iload 6, 2) := by decide +kernel
theorem dX8_watch_117 : decode cX8_watch 117 = .ok (.goto 5, 3) := by decide +kernel
theorem dX8_watch_120 : decode cX8_watch 120 = .ok (.iload 4, 2) := by decide +kernel
theorem dX8_watch_122 : decode cX8_watch 122 = .ok (.istore 4, 2) := by decide +kernel
theorem dX8_watch_124 : decode cX8_watch 124 = .ok (.iinc 5 1, 3) := by decide +kernel
theorem dX8_watch_127 : decode cX8_watch 127 = .ok (.goto (-99), 3) := by decide +kernel
theorem dX8_watch_130 : decode cX8_watch 130 = .ok (.iload_n 3, 1) := by decide +kernel
theorem dX8_watch_131 : decode cX8_watch 131 = .ok (.ireturn, 1) := by decide +kernel
theorem dX8_sortsOf_0 : decode cX8_sortsOf 0 = .ok (.iconst 0, 1) := by decide +kernel
theorem dX8_sortsOf_1 : decode cX8_sortsOf 1 = .ok (.istore_n 2, 1) := by decide +kernel
theorem dX8_sortsOf_2 : decode cX8_sortsOf 2 = .ok (.iconst 0, 1) := by decide +kernel
theorem dX8_sortsOf_3 : decode cX8_sortsOf 3 = .ok (.istore_n 3, 1) := by decide +kernel
theorem dX8_sortsOf_4 : decode cX8_sortsOf 4 = .ok (.iload_n 3, 1) := by decide +kernel
theorem dX8_sortsOf_5 : decode cX8_sortsOf 5 = .ok (.bipush 6, 2) := by decide +kernel
theorem dX8_sortsOf_7 : decode cX8_sortsOf 7 = .ok (.if_icmp .ge 161, 3) := by decide +kernel
theorem dX8_sortsOf_10 : decode cX8_sortsOf 10 = .ok (.iconst 1, 1) := by decide +kernel
theorem dX8_sortsOf_11 : decode cX8_sortsOf 11 = .ok (.istore 4, 2) := by decide +kernel
theorem dX8_sortsOf_13 : decode cX8_sortsOf 13 = .ok (.iconst 0, 1) := by decide +kernel
theorem dX8_sortsOf_14 : decode cX8_sortsOf 14 = .ok (.istore 5, 2) := by decide +kernel
theorem dX8_sortsOf_16 : decode cX8_sortsOf 16 = .ok (.iload 5, 2) := by decide +kernel
theorem dX8_sortsOf_18 : decode cX8_sortsOf 18 = .ok (.aload_n 0, 1) := by decide +kernel
theorem dX8_sortsOf_19 : decode cX8_sortsOf 19 = .ok (.getfield 7, 3) := by decide +kernel
theorem dX8_sortsOf_22 : decode cX8_sortsOf 22 = .ok (.bipush 7, 2) := by decide +kernel
theorem dX8_sortsOf_24 : decode cX8_sortsOf 24 = .ok (.iaload, 1) := by decide +kernel
theorem dX8_sortsOf_25 : decode cX8_sortsOf 25 = .ok (.if_icmp .ge 122, 3) := by decide +kernel
theorem dX8_sortsOf_28 : decode cX8_sortsOf 28 = .ok (.sipush 138, 3) := by decide +kernel
theorem dX8_sortsOf_31 : decode cX8_sortsOf 31 = .ok (.iconst 5, 1) := by decide +kernel
theorem dX8_sortsOf_32 : decode cX8_sortsOf 32 = .ok (.iload 5, 2) := by decide +kernel
theorem dX8_sortsOf_34 : decode cX8_sortsOf 34 = .ok (.imul, 1) := by decide +kernel
theorem dX8_sortsOf_35 : decode cX8_sortsOf 35 = .ok (.iadd, 1) := by decide +kernel
theorem dX8_sortsOf_36 : decode cX8_sortsOf 36 = .ok (.istore 6, 2) := by decide +kernel
theorem dX8_sortsOf_38 : decode cX8_sortsOf 38 = .ok (.iload_n 3, 1) := by decide +kernel
theorem dX8_sortsOf_39 : decode cX8_sortsOf 39 = .ok (.aload_n 0, 1) := by decide +kernel
theorem dX8_sortsOf_40 : decode cX8_sortsOf 40 = .ok (.getfield 7, 3) := by decide +kernel
theorem dX8_sortsOf_43 : decode cX8_sortsOf 43 = .ok (.bipush 74, 2) := by decide +kernel
theorem dX8_sortsOf_45 : decode cX8_sortsOf 45 = .ok (.iload_n 1, 1) := by decide +kernel
theorem dX8_sortsOf_46 : decode cX8_sortsOf 46 = .ok (.iadd, 1) := by decide +kernel
theorem dX8_sortsOf_47 : decode cX8_sortsOf 47 = .ok (.iaload, 1) := by decide +kernel
theorem dX8_sortsOf_48 : decode cX8_sortsOf 48 = .ok (.aload_n 0, 1) := by decide +kernel
theorem dX8_sortsOf_49 : decode cX8_sortsOf 49 = .ok (.getfield 7, 3) := by decide +kernel
theorem dX8_sortsOf_52 : decode cX8_sortsOf 52 = .ok (.iload 6, 2) := by decide +kernel
theorem dX8_sortsOf_54 : decode cX8_sortsOf 54 = .ok (.iconst 1, 1) := by decide +kernel
theorem dX8_sortsOf_55 : decode cX8_sortsOf 55 = .ok (.iadd, 1) := by decide +kernel
theorem dX8_sortsOf_56 : decode cX8_sortsOf 56 = .ok (.iaload, 1) := by decide +kernel
theorem dX8_sortsOf_57 : decode cX8_sortsOf 57 = .ok (.aload_n 0, 1) := by decide +kernel
theorem dX8_sortsOf_58 : decode cX8_sortsOf 58 = .ok (.getfield 7, 3) := by decide +kernel
theorem dX8_sortsOf_61 : decode cX8_sortsOf 61 = .ok (.iload 6, 2) := by decide +kernel
theorem dX8_sortsOf_63 : decode cX8_sortsOf 63 = .ok (.iconst 2, 1) := by decide +kernel
theorem dX8_sortsOf_64 : decode cX8_sortsOf 64 = .ok (.iadd, 1) := by decide +kernel
theorem dX8_sortsOf_65 : decode cX8_sortsOf 65 = .ok (.iaload, 1) := by decide +kernel
theorem dX8_sortsOf_66 : decode cX8_sortsOf 66 = .ok (.invokestatic 71, 3) := by decide +kernel
theorem dX8_sortsOf_69 : decode cX8_sortsOf 69 = .ok (.aload_n 0, 1) := by decide +kernel
theorem dX8_sortsOf_70 : decode cX8_sortsOf 70 = .ok (.getfield 7, 3) := by decide +kernel
theorem dX8_sortsOf_73 : decode cX8_sortsOf 73 = .ok (.iload 6, 2) := by decide +kernel
theorem dX8_sortsOf_75 : decode cX8_sortsOf 75 = .ok (.iconst 3, 1) := by decide +kernel
theorem dX8_sortsOf_76 : decode cX8_sortsOf 76 = .ok (.iadd, 1) := by decide +kernel
theorem dX8_sortsOf_77 : decode cX8_sortsOf 77 = .ok (.iaload, 1) := by decide +kernel
theorem dX8_sortsOf_78 : decode cX8_sortsOf 78 = .ok (.if_icmp .ne 32, 3) := by decide +kernel
theorem dX8_sortsOf_81 : decode cX8_sortsOf 81 = .ok (.iload_n 3, 1) := by decide +kernel
theorem dX8_sortsOf_82 : decode cX8_sortsOf 82 = .ok (.aload_n 0, 1) := by decide +kernel
theorem dX8_sortsOf_83 : decode cX8_sortsOf 83 = .ok (.getfield 7, 3) := by decide +kernel
theorem dX8_sortsOf_86 : decode cX8_sortsOf 86 = .ok (.iload 6, 2) := by decide +kernel
theorem dX8_sortsOf_88 : decode cX8_sortsOf 88 = .ok (.iconst 1, 1) := by decide +kernel
theorem dX8_sortsOf_89 : decode cX8_sortsOf 89 = .ok (.iadd, 1) := by decide +kernel
theorem dX8_sortsOf_90 : decode cX8_sortsOf 90 = .ok (.iaload, 1) := by decide +kernel
theorem dX8_sortsOf_91 : decode cX8_sortsOf 91 = .ok (.invokestatic 75, 3) := by decide +kernel
theorem dX8_sortsOf_94 : decode cX8_sortsOf 94 = .ok (.aload_n 0, 1) := by decide +kernel
theorem dX8_sortsOf_95 : decode cX8_sortsOf 95 = .ok (.getfield 7, 3) := by decide +kernel
theorem dX8_sortsOf_98 : decode cX8_sortsOf 98 = .ok (.iload 6, 2) := by decide +kernel
theorem dX8_sortsOf_100 : decode cX8_sortsOf 100 = .ok (.iconst 4, 1) := by decide +kernel
theorem dX8_sortsOf_101 : decode cX8_sortsOf 101 = .ok (.iadd, 1) := by decide +kernel
theorem dX8_sortsOf_102 : decode cX8_sortsOf 102 = .ok (.iaload, 1) := by decide +kernel
theorem dX8_sortsOf_103 : decode cX8_sortsOf 103 = .ok (.if_icmp .ne 7, 3) := by decide +kernel
theorem dX8_sortsOf_106 : decode cX8_sortsOf 106 = .ok (.iconst 1, 1) := by decide +kernel
theorem dX8_sortsOf_107 : decode cX8_sortsOf 107 = .ok (.goto 4, 3) := by decide +kernel
theorem dX8_sortsOf_110 : decode cX8_sortsOf 110 = .ok (.iconst 0, 1) := by decide +kernel
theorem dX8_sortsOf_111 : decode cX8_sortsOf 111 = .ok (.istore 7, 2) := by decide +kernel
theorem dX8_sortsOf_113 : decode cX8_sortsOf 113 = .ok (.iload 4, 2) := by decide +kernel
theorem dX8_sortsOf_115 : decode cX8_sortsOf 115 = .ok (.ifCond .eq 23, 3) := by decide +kernel
theorem dX8_sortsOf_118 : decode cX8_sortsOf 118 = .ok (.aload_n 0, 1) := by decide +kernel
theorem dX8_sortsOf_119 : decode cX8_sortsOf 119 = .ok (.getfield 7, 3) := by decide +kernel
theorem dX8_sortsOf_122 : decode cX8_sortsOf 122 = .ok (.iload 6, 2) := by decide +kernel
theorem dX8_sortsOf_124 : decode cX8_sortsOf 124 = .ok (.iaload, 1) := by decide +kernel
theorem dX8_sortsOf_125 : decode cX8_sortsOf 125 = .ok (.iload_n 1, 1) := by decide +kernel
theorem dX8_sortsOf_126 : decode cX8_sortsOf 126 = .ok (.if_icmp .ne 8, 3) := by decide +kernel
theorem dX8_sortsOf_129 : decode cX8_sortsOf 129 = .ok (.iload 7, 2) := by decide +kernel
theorem dX8_sortsOf_131 : decode cX8_sortsOf 131 = .ok (.ifCond .eq 7, 3) := by decide +kernel
theorem dX8_sortsOf_134 : decode cX8_sortsOf 134 = .ok (.iconst 1, 1) := by decide +kernel
theorem dX8_sortsOf_135 : decode cX8_sortsOf 135 = .ok (.goto 4, 3) := by decide +kernel
theorem dX8_sortsOf_138 : decode cX8_sortsOf 138 = .ok (.iconst 0, 1) := by decide +kernel
theorem dX8_sortsOf_139 : decode cX8_sortsOf 139 = .ok (.istore 4, 2) := by decide +kernel
theorem dX8_sortsOf_141 : decode cX8_sortsOf 141 = .ok (.iinc 5 1, 3) := by decide +kernel
theorem dX8_sortsOf_144 : decode cX8_sortsOf 144 = .ok (.goto (-128), 3) := by decide +kernel
theorem dX8_sortsOf_147 : decode cX8_sortsOf 147 = .ok (.iload_n 2, 1) := by decide +kernel
theorem dX8_sortsOf_148 : decode cX8_sortsOf 148 = .ok (.iload 4, 2) := by decide +kernel
theorem dX8_sortsOf_150 : decode cX8_sortsOf 150 = .ok (.ifCond .eq 9, 3) := by decide +kernel
theorem dX8_sortsOf_153 : decode cX8_sortsOf 153 = .ok (.iconst 1, 1) := by decide +kernel
theorem dX8_sortsOf_154 : decode cX8_sortsOf 154 = .ok (.iload_n 3, 1) := by decide +kernel
theorem dX8_sortsOf_155 : decode cX8_sortsOf 155 = .ok (.ishl, 1) := by decide +kernel
theorem dX8_sortsOf_156 : decode cX8_sortsOf 156 = .ok (.goto 4, 3) := by decide +kernel
theorem dX8_sortsOf_159 : decode cX8_sortsOf 159 = .ok (.iconst 0, 1) := by decide +kernel
theorem dX8_sortsOf_160 : decode cX8_sortsOf 160 = .ok (.ior, 1) := by decide +kernel
theorem dX8_sortsOf_161 : decode cX8_sortsOf 161 = .ok (.istore_n 2, 1) := by decide +kernel
theorem dX8_sortsOf_162 : decode cX8_sortsOf 162 = .ok (.iinc 3 1, 3) := by decide +kernel
theorem dX8_sortsOf_165 : decode cX8_sortsOf 165 = .ok (.goto (-161), 3) := by decide +kernel
theorem dX8_sortsOf_168 : decode cX8_sortsOf 168 = .ok (.iload_n 2, 1) := by decide +kernel
theorem dX8_sortsOf_169 : decode cX8_sortsOf 169 = .ok (.ireturn, 1) := by decide +kernel
theorem dX8_who_0 : decode cX8_who 0 = .ok (.aload_n 0, 1) := by decide +kernel
theorem dX8_who_1 : decode cX8_who 1 = .ok (.iload_n 1, 1) := by decide +kernel
theorem dX8_who_2 : decode cX8_who 2 = .ok (.invokevirtual 223, 3) := by decide +kernel
theorem dX8_who_5 : decode cX8_who 5 = .ok (.ifCond .eq 11, 3) := by decide +kernel
theorem dX8_who_8 : decode cX8_who 8 = .ok (.aload_n 0, 1) := by decide +kernel
theorem dX8_who_9 : decode cX8_who 9 = .ok (.iload_n 1, 1) := by decide +kernel
theorem dX8_who_10 : decode cX8_who 10 = .ok (.invokevirtual 295, 3) := by decide +kernel
theorem dX8_who_13 : decode cX8_who 13 = .ok (.goto 7, 3) := by decide +kernel
theorem dX8_who_16 : decode cX8_who 16 = .ok (.aload_n 0, 1) := by decide +kernel
theorem dX8_who_17 : decode cX8_who 17 = .ok (.invokevirtual 103, 3) := by decide +kernel
theorem dX8_who_20 : decode cX8_who 20 = .ok (.ireturn, 1) := by decide +kernel
theorem dX8_ask_0 : decode cX8_ask 0 = .ok (.aload_n 0, 1) := by decide +kernel
theorem dX8_ask_1 : decode cX8_ask 1 = .ok (.iload_n 1, 1) := by decide +kernel
theorem dX8_ask_2 : decode cX8_ask 2 = .ok (.invokevirtual 223, 3) := by decide +kernel
theorem dX8_ask_5 : decode cX8_ask 5 = .ok (.ifCond .ne 8, 3) := by decide +kernel
theorem dX8_ask_8 : decode cX8_ask 8 = .ok (.aload_n 0, 1) := by decide +kernel
theorem dX8_ask_9 : decode cX8_ask 9 = .ok (.invokevirtual 103, 3) := by decide +kernel
theorem dX8_ask_12 : decode cX8_ask 12 = .ok (.ireturn, 1) := by decide +kernel
theorem dX8_ask_13 : decode cX8_ask 13 = .ok (.aload_n 0, 1) := by decide +kernel
theorem dX8_ask_14 : decode cX8_ask 14 = .ok (.iload_n 1, 1) := by decide +kernel
theorem dX8_ask_15 : decode cX8_ask 15 = .ok (.invokevirtual 295, 3) := by decide +kernel
theorem dX8_ask_18 : decode cX8_ask 18 = .ok (.istore_n 2, 1) := by decide +kernel
theorem dX8_ask_19 : decode cX8_ask 19 = .ok (.iconst (-1), 1) := by decide +kernel
theorem dX8_ask_20 : decode cX8_ask 20 = .ok (.istore_n 3, 1) := by decide +kernel
theorem dX8_ask_21 : decode cX8_ask 21 = .ok (.ldc 160, 2) := by decide +kernel
theorem dX8_ask_23 : decode cX8_ask 23 = .ok (.istore 4, 2) := by decide +kernel
theorem dX8_ask_25 : decode cX8_ask 25 = .ok (.bipush 10, 2) := by decide +kernel
theorem dX8_ask_27 : decode cX8_ask 27 = .ok (.istore 5, 2) := by decide +kernel
theorem dX8_ask_29 : decode cX8_ask 29 = .ok (.iload 5, 2) := by decide +kernel
theorem dX8_ask_31 : decode cX8_ask 31 = .ok (.bipush 100, 2) := by decide +kernel
theorem dX8_ask_33 : decode cX8_ask 33 = .ok (.if_icmp .ge 111, 3) := by decide +kernel
theorem dX8_ask_36 : decode cX8_ask 36 = .ok (.iload_n 2, 1) := by decide +kernel
theorem dX8_ask_37 : decode cX8_ask 37 = .ok (.ifCond .eq 107, 3) := by decide +kernel
theorem dX8_ask_40 : decode cX8_ask 40 = .ok (.iconst 0, 1) := by decide +kernel
theorem dX8_ask_41 : decode cX8_ask 41 = .ok (.istore 6, 2) := by decide +kernel
theorem dX8_ask_43 : decode cX8_ask 43 = .ok (.iload 6, 2) := by decide +kernel
theorem dX8_ask_45 : decode cX8_ask 45 = .ok (.bipush 6, 2) := by decide +kernel
theorem dX8_ask_47 : decode cX8_ask 47 = .ok (.if_icmp .ge 54, 3) := by decide +kernel
theorem dX8_ask_50 : decode cX8_ask 50 = .ok (.aload_n 0, 1) := by decide +kernel
theorem dX8_ask_51 : decode cX8_ask 51 = .ok (.getfield 41, 3) := by decide +kernel
theorem dX8_ask_54 : decode cX8_ask 54 = .ok (.iload 6, 2) := by decide +kernel
theorem dX8_ask_56 : decode cX8_ask 56 = .ok (.bipush 100, 2) := by decide +kernel
theorem dX8_ask_58 : decode cX8_ask 58 = .ok (.iload 6, 2) := by decide +kernel
theorem dX8_ask_60 : decode cX8_ask 60 = .ok (.aload_n 0, 1) := by decide +kernel
theorem dX8_ask_61 : decode cX8_ask 61 = .ok (.getfield 7, 3) := by decide +kernel
theorem dX8_ask_64 : decode cX8_ask 64 = .ok (.bipush 74, 2) := by decide +kernel
theorem dX8_ask_66 : decode cX8_ask 66 = .ok (.iload_n 1, 1) := by decide +kernel
theorem dX8_ask_67 : decode cX8_ask 67 = .ok (.iadd, 1) := by decide +kernel
theorem dX8_ask_68 : decode cX8_ask 68 = .ok (.iaload, 1) := by decide +kernel
theorem dX8_ask_69 : decode cX8_ask 69 = .ok (.iload 5, 2) := by decide +kernel
theorem dX8_ask_71 : decode cX8_ask 71 = .ok (.bipush 10, 2) := by decide +kernel
theorem dX8_ask_73 : decode cX8_ask 73 = .ok (.idiv, 1) := by decide +kernel
theorem dX8_ask_74 : decode cX8_ask 74 = .ok (.iload 5, 2) := by decide +kernel
theorem dX8_ask_76 : decode cX8_ask 76 = .ok (.bipush 10, 2) := by decide +kernel
theorem dX8_ask_78 : decode cX8_ask 78 = .ok (.irem, 1) := by decide +kernel
theorem dX8_ask_79 : decode cX8_ask 79 = .ok (.invokestatic 71, 3) := by decide +kernel
theorem dX8_ask_82 : decode cX8_ask 82 = .ok (.imul, 1) := by decide +kernel
theorem dX8_ask_83 : decode cX8_ask 83 = .ok (.iload 6, 2) := by decide +kernel
theorem dX8_ask_85 : decode cX8_ask 85 = .ok (.iload 5, 2) := by decide +kernel
theorem dX8_ask_87 : decode cX8_ask 87 = .ok (.bipush 10, 2) := by decide +kernel
theorem dX8_ask_89 : decode cX8_ask 89 = .ok (.idiv, 1) := by decide +kernel
theorem dX8_ask_90 : decode cX8_ask 90 = .ok (.invokestatic 75, 3) := by decide +kernel
theorem dX8_ask_93 : decode cX8_ask 93 = .ok (.iadd, 1) := by decide +kernel
theorem dX8_ask_94 : decode cX8_ask 94 = .ok (.iastore, 1) := by decide +kernel
theorem dX8_ask_95 : decode cX8_ask 95 = .ok (.iinc 6 1, 3) := by decide +kernel
theorem dX8_ask_98 : decode cX8_ask 98 = .ok (.goto (-55), 3) := by decide +kernel
theorem dX8_ask_101 : decode cX8_ask 101 = .ok (.aload_n 0, 1) := by decide +kernel
theorem dX8_ask_102 : decode cX8_ask 102 = .ok (.iload_n 2, 1) := by decide +kernel
theorem dX8_ask_103 : decode cX8_ask 103 = .ok (.invokevirtual 292, 3) := by decide +kernel
theorem dX8_ask_106 : decode cX8_ask 106 = .ok (.istore 6, 2) := by decide +kernel
theorem dX8_ask_108 : decode cX8_ask 108 = .ok (.iload 6, 2) := by decide +kernel
theorem dX8_ask_110 : decode cX8_ask 110 = .ok (.iload 4, 2) := by decide +kernel
theorem dX8_ask_112 : decode cX8_ask 112 = .ok (.if_icmp .ge 8, 3) := by decide +kernel
theorem dX8_ask_115 : decode cX8_ask 115 = .ok (.iload 5, 2) := by decide +kernel
theorem dX8_ask_117 : decode cX8_ask 117 = .ok (.goto 4, 3) := by decide +kernel
theorem dX8_ask_120 : decode cX8_ask 120 = .ok (.iload_n 3, 1) := by decide +kernel
theorem dX8_ask_121 : decode cX8_ask 121 = .ok (.istore_n 3, 1) := by decide +kernel
theorem dX8_ask_122 : decode cX8_ask 122 = .ok (.iload 6, 2) := by decide +kernel
theorem dX8_ask_124 : decode cX8_ask 124 = .ok (.iload 4, 2) := by decide +kernel
theorem dX8_ask_126 : decode cX8_ask 126 = .ok (.if_icmp .ge 8, 3) := by decide +kernel
theorem dX8_ask_129 : decode cX8_ask 129 = .ok (.iload 6, 2) := by decide +kernel
theorem dX8_ask_131 : decode cX8_ask 131 = .ok (.goto 5, 3) := by decide +kernel
theorem dX8_ask_134 : decode cX8_ask 134 = .ok (.iload 4, 2) := by decide +kernel
theorem dX8_ask_136 : decode cX8_ask 136 = .ok (.istore 4, 2) := by decide +kernel
theorem dX8_ask_138 : decode cX8_ask 138 = .ok (.iinc 5 1, 3) := by decide +kernel
theorem dX8_ask_141 : decode cX8_ask 141 = .ok (.goto (-112), 3) := by decide +kernel
theorem dX8_ask_144 : decode cX8_ask 144 = .ok (.iload_n 3, 1) := by decide +kernel
theorem dX8_ask_145 : decode cX8_ask 145 = .ok (.ireturn, 1) := by decide +kernel
theorem dX8_parishes_0 : decode cX8_parishes 0 = .ok (.aload_n 0, 1) := by decide +kernel
theorem dX8_parishes_1 : decode cX8_parishes 1 = .ok (.iload_n 1, 1) := by decide +kernel
theorem dX8_parishes_2 : decode cX8_parishes 2 = .ok (.invokevirtual 223, 3) := by decide +kernel
theorem dX8_parishes_5 : decode cX8_parishes 5 = .ok (.ifCond .eq 37, 3) := by decide +kernel
theorem dX8_parishes_8 : decode cX8_parishes 8 = .ok (.aload_n 0, 1) := by decide +kernel
theorem dX8_parishes_9 : decode cX8_parishes 9 = .ok (.iload_n 2, 1) := by decide +kernel
theorem dX8_parishes_10 : decode cX8_parishes 10 = .ok (.invokevirtual 223, 3) := by decide +kernel
theorem dX8_parishes_13 : decode cX8_parishes 13 = .ok (.ifCond .eq 29, 3) := by decide +kernel
theorem dX8_parishes_16 : decode cX8_parishes 16 = .ok (.iload_n 1, 1) := by decide +kernel
theorem dX8_parishes_17 : decode cX8_parishes 17 = .ok (.iload_n 2, 1) := by decide +kernel
theorem dX8_parishes_18 : decode cX8_parishes 18 = .ok (.if_icmp .eq 24, 3) := by decide +kernel
theorem dX8_parishes_21 : decode cX8_parishes 21 = .ok (.aload_n 0, 1) := by decide +kernel
theorem dX8_parishes_22 : decode cX8_parishes 22 = .ok (.iload_n 3, 1) := by decide +kernel
theorem dX8_parishes_23 : decode cX8_parishes 23 = .ok (.invokevirtual 226, 3) := by decide +kernel
theorem dX8_parishes_26 : decode cX8_parishes 26 = .ok (.ifCond .eq 16, 3) := by decide +kernel
theorem dX8_parishes_29 : decode cX8_parishes 29 = .ok (.iload 4, 2) := by decide +kernel
theorem dX8_parishes_31 : decode cX8_parishes 31 = .ok (.i2l, 1) := by decide +kernel
theorem dX8_parishes_32 : decode cX8_parishes 32 = .ok (.lconst 1, 1) := by decide +kernel
theorem dX8_parishes_33 : decode cX8_parishes 33 = .ok (.ldc2_w 101, 3) := by decide +kernel
theorem dX8_parishes_36 : decode cX8_parishes 36 = .ok (.invokestatic 60, 3) := by decide +kernel
theorem dX8_parishes_39 : decode cX8_parishes 39 = .ok (.ifCond .ne 8, 3) := by decide +kernel
theorem dX8_parishes_42 : decode cX8_parishes 42 = .ok (.aload_n 0, 1) := by decide +kernel
theorem dX8_parishes_43 : decode cX8_parishes 43 = .ok (.invokevirtual 103, 3) := by decide +kernel
theorem dX8_parishes_46 : decode cX8_parishes 46 = .ok (.ireturn, 1) := by decide +kernel
theorem dX8_parishes_47 : decode cX8_parishes 47 = .ok (.aload_n 0, 1) := by decide +kernel
theorem dX8_parishes_48 : decode cX8_parishes 48 = .ok (.iload_n 1, 1) := by decide +kernel
theorem dX8_parishes_49 : decode cX8_parishes 49 = .ok (.iload 4, 2) := by decide +kernel
theorem dX8_parishes_51 : decode cX8_parishes 51 = .ok (.iload_n 3, 1) := by decide +kernel
theorem dX8_parishes_52 : decode cX8_parishes 52 = .ok (.aload_n 0, 1) := by decide +kernel
theorem dX8_parishes_53 : decode cX8_parishes 53 = .ok (.getfield 7, 3) := by decide +kernel
theorem dX8_parishes_56 : decode cX8_parishes 56 = .ok (.iconst 4, 1) := by decide +kernel
theorem dX8_parishes_57 : decode cX8_parishes 57 = .ok (.iaload, 1) := by decide +kernel
theorem dX8_parishes_58 : decode cX8_parishes 58 = .ok (.invokevirtual 232, 3) := by decide +kernel
theorem dX8_parishes_61 : decode cX8_parishes 61 = .ok (.ifCond .eq 13, 3) := by decide +kernel
theorem dX8_parishes_64 : decode cX8_parishes 64 = .ok (.aload_n 0, 1) := by decide +kernel
theorem dX8_parishes_65 : decode cX8_parishes 65 = .ok (.iload_n 1, 1) := by decide +kernel
theorem dX8_parishes_66 : decode cX8_parishes 66 = .ok (.iload 4, 2) := by decide +kernel
theorem dX8_parishes_68 : decode cX8_parishes 68 = .ok (.invokevirtual 236, 3) := by decide +kernel
theorem dX8_parishes_71 : decode cX8_parishes 71 = .ok (.goto 4, 3) := by decide +kernel
theorem dX8_parishes_74 : decode cX8_parishes 74 = .ok (.iconst 0, 1) := by decide +kernel
theorem dX8_parishes_75 : decode cX8_parishes 75 = .ok (.istore 5, 2) := by decide +kernel
theorem dX8_parishes_77 : decode cX8_parishes 77 = .ok (.aload_n 0, 1) := by decide +kernel
theorem dX8_parishes_78 : decode cX8_parishes 78 = .ok (.iload_n 2, 1) := by decide +kernel
theorem dX8_parishes_79 : decode cX8_parishes 79 = .ok (.iload 4, 2) := by decide +kernel
theorem dX8_parishes_81 : decode cX8_parishes 81 = .ok (.iload_n 3, 1) := by decide +kernel
theorem dX8_parishes_82 : decode cX8_parishes 82 = .ok (.aload_n 0, 1) := by decide +kernel
theorem dX8_parishes_83 : decode cX8_parishes 83 = .ok (.getfield 7, 3) := by decide +kernel
theorem dX8_parishes_86 : decode cX8_parishes 86 = .ok (.iconst 4, 1) := by decide +kernel
theorem dX8_parishes_87 : decode cX8_parishes 87 = .ok (.iaload, 1) := by decide +kernel
theorem dX8_parishes_88 : decode cX8_parishes 88 = .ok (.invokevirtual 232, 3) := by decide +kernel
theorem dX8_parishes_91 : decode cX8_parishes 91 = .ok (.ifCond .eq 13, 3) := by decide +kernel
theorem dX8_parishes_94 : decode cX8_parishes 94 = .ok (.aload_n 0, 1) := by decide +kernel
theorem dX8_parishes_95 : decode cX8_parishes 95 = .ok (.iload_n 2, 1) := by decide +kernel
theorem dX8_parishes_96 : decode cX8_parishes 96 = .ok (.iload 4, 2) := by decide +kernel
theorem dX8_parishes_98 : decode cX8_parishes 98 = .ok (.invokevirtual 236, 3) := by decide +kernel
theorem dX8_parishes_101 : decode cX8_parishes 101 = .ok (.goto 4, 3) := by decide +kernel
theorem dX8_parishes_104 : decode cX8_parishes 104 = .ok (.iconst 0, 1) := by decide +kernel
theorem dX8_parishes_105 : decode cX8_parishes 105 = .ok (.istore 6, 2) := by decide +kernel
theorem dX8_parishes_107 : decode cX8_parishes 107 = .ok (.aload_n 0, 1) := by decide +kernel
theorem dX8_parishes_108 : decode cX8_parishes 108 = .ok (.getfield 7, 3) := by decide +kernel
theorem dX8_parishes_111 : decode cX8_parishes 111 = .ok (.bipush 84, 2) := by decide +kernel
theorem dX8_parishes_113 : decode cX8_parishes 113 = .ok (.iload_n 3, 1) := by decide +kernel
theorem dX8_parishes_114 : decode cX8_parishes 114 = .ok (.iadd, 1) := by decide +kernel
theorem dX8_parishes_115 : decode cX8_parishes 115 = .ok (.iaload, 1) := by decide +kernel
theorem dX8_parishes_116 : decode cX8_parishes 116 = .ok (.aload_n 0, 1) := by decide +kernel
theorem dX8_parishes_117 : decode cX8_parishes 117 = .ok (.getfield 7, 3) := by decide +kernel
theorem dX8_parishes_120 : decode cX8_parishes 120 = .ok (.bipush 88, 2) := by decide +kernel
theorem dX8_parishes_122 : decode cX8_parishes 122 = .ok (.iload_n 3, 1) := by decide +kernel
theorem dX8_parishes_123 : decode cX8_parishes 123 = .ok (.iadd, 1) := by decide +kernel
theorem dX8_parishes_124 : decode cX8_parishes 124 = .ok (.iaload, 1) := by decide +kernel
theorem dX8_parishes_125 : decode cX8_parishes 125 = .ok (.isub, 1) := by decide +kernel
theorem dX8_parishes_126 : decode cX8_parishes 126 = .ok (.istore 7, 2) := by decide +kernel
theorem dX8_parishes_128 : decode cX8_parishes 128 = .ok (.iconst 0, 1) := by decide +kernel
theorem dX8_parishes_129 : decode cX8_parishes 129 = .ok (.istore 8, 2) := by decide +kernel
theorem dX8_parishes_131 : decode cX8_parishes 131 = .ok (.iconst 0, 1) := by decide +kernel
theorem dX8_parishes_132 : decode cX8_parishes 132 = .ok (.istore 9, 2) := by decide +kernel
theorem dX8_parishes_134 : decode cX8_parishes 134 = .ok (.iload 9, 2) := by decide +kernel
theorem dX8_parishes_136 : decode cX8_parishes 136 = .ok (.iconst 4, 1) := by decide +kernel
theorem dX8_parishes_137 : decode cX8_parishes 137 = .ok (.if_icmp .ge 141, 3) := by decide +kernel
theorem dX8_parishes_140 : decode cX8_parishes 140 = .ok (.iload 9, 2) := by decide +kernel
theorem dX8_parishes_142 : decode cX8_parishes 142 = .ok (.iconst 2, 1) := by decide +kernel
theorem dX8_parishes_143 : decode cX8_parishes 143 = .ok (.irem, 1) := by decide +kernel
theorem dX8_parishes_144 : decode cX8_parishes 144 = .ok (.istore 10, 2) := by decide +kernel
theorem dX8_parishes_146 : decode cX8_parishes 146 = .ok (.iload 9, 2) := by decide +kernel
theorem dX8_parishes_148 : decode cX8_parishes 148 = .ok (.iconst 2, 1) := by decide +kernel
theorem dX8_parishes_149 : decode cX8_parishes 149 = .ok (.idiv, 1) := by decide +kernel
theorem dX8_parishes_150 : decode cX8_parishes 150 = .ok (.istore 11, 2) := by decide +kernel
theorem dX8_parishes_152 : decode cX8_parishes 152 = .ok (.iload 7, 2) := by decide +kernel
theorem dX8_parishes_154 : decode cX8_parishes 154 = .ok (.iload 10, 2) := by decide +kernel
theorem dX8_parishes_156 : decode cX8_parishes 156 = .ok (.iload 5, 2) := by decide +kernel
theorem dX8_parishes_158 : decode cX8_parishes 158 = .ok (.imul, 1) := by decide +kernel
theorem dX8_parishes_159 : decode cX8_parishes 159 = .ok (.isub, 1) := by decide +kernel
theorem dX8_parishes_160 : decode cX8_parishes 160 = .ok (.iload 11, 2) := by decide +kernel
theorem dX8_parishes_162 : decode cX8_parishes 162 = .ok (.iload 6, 2) := by decide +kernel
theorem dX8_parishes_164 : decode cX8_parishes 164 = .ok (.imul, 1) := by decide +kernel
theorem dX8_parishes_165 : decode cX8_parishes 165 = .ok (.isub, 1) := by decide +kernel
theorem dX8_parishes_166 : decode cX8_parishes 166 = .ok (.invokestatic 64, 3) := by decide +kernel
theorem dX8_parishes_169 : decode cX8_parishes 169 = .ok (.istore 12, 2) := by decide +kernel
theorem dX8_parishes_171 : decode cX8_parishes 171 = .ok (.iload 12, 2) := by decide +kernel
theorem dX8_parishes_173 : decode cX8_parishes 173 = .ok (.iconst 2, 1) := by decide +kernel
theorem dX8_parishes_174 : decode cX8_parishes 174 = .ok (.iload 10, 2) := by decide +kernel
theorem dX8_parishes_176 : decode cX8_parishes 176 = .ok (.imul, 1) := by decide +kernel
theorem dX8_parishes_177 : decode cX8_parishes 177 = .ok (.iadd, 1) := by decide +kernel
theorem dX8_parishes_178 : decode cX8_parishes 178 = .ok (.istore 13, 2) := by decide +kernel
theorem dX8_parishes_180 : decode cX8_parishes 180 = .ok (.iload 12, 2) := by decide +kernel
theorem dX8_parishes_182 : decode cX8_parishes 182 = .ok (.iconst 2, 1) := by decide +kernel
theorem dX8_parishes_183 : decode cX8_parishes 183 = .ok (.iload 11, 2) := by decide +kernel
theorem dX8_parishes_185 : decode cX8_parishes 185 = .ok (.imul, 1) := by decide +kernel
theorem dX8_parishes_186 : decode cX8_parishes 186 = .ok (.iadd, 1) := by decide +kernel
theorem dX8_parishes_187 : decode cX8_parishes 187 = .ok (.istore 14, 2) := by decide +kernel
theorem dX8_parishes_189 : decode cX8_parishes 189 = .ok (.iload 7, 2) := by decide +kernel
theorem dX8_parishes_191 : decode cX8_parishes 191 = .ok (.iconst 1, 1) := by decide +kernel
theorem dX8_parishes_192 : decode cX8_parishes 192 = .ok (.iload 10, 2) := by decide +kernel
theorem dX8_parishes_194 : decode cX8_parishes 194 = .ok (.isub, 1) := by decide +kernel
theorem dX8_parishes_195 : decode cX8_parishes 195 = .ok (.iload 5, 2) := by decide +kernel
theorem dX8_parishes_197 : decode cX8_parishes 197 = .ok (.imul, 1) := by decide +kernel
theorem dX8_parishes_198 : decode cX8_parishes 198 = .ok (.isub, 1) := by decide +kernel
theorem dX8_parishes_199 : decode cX8_parishes 199 = .ok (.iload 11, 2) := by decide +kernel
theorem dX8_parishes_201 : decode cX8_parishes 201 = .ok (.iload 6, 2) := by decide +kernel
theorem dX8_parishes_203 : decode cX8_parishes 203 = .ok (.imul, 1) := by decide +kernel
theorem dX8_parishes_204 : decode cX8_parishes 204 = .ok (.isub, 1) := by decide +kernel
theorem dX8_parishes_205 : decode cX8_parishes 205 = .ok (.invokestatic 64, 3) := by decide +kernel
theorem dX8_parishes_208 : decode cX8_parishes 208 = .ok (.iconst 2, 1) := by decide +kernel
theorem dX8_parishes_209 : decode cX8_parishes 209 = .ok (.iconst 1, 1) := by decide +kernel
theorem dX8_parishes_210 : decode cX8_parishes 210 = .ok (.iload 10, 2) := by decide +kernel
theorem dX8_parishes_212 : decode cX8_parishes 212 = .ok (.isub, 1) := by decide +kernel
theorem dX8_parishes_213 : decode cX8_parishes 213 = .ok (.imul, 1) := by decide +kernel
theorem dX8_parishes_214 : decode cX8_parishes 214 = .ok (.iadd, 1) := by decide +kernel
theorem dX8_parishes_215 : decode cX8_parishes 215 = .ok (.istore 15, 2) := by decide +kernel
theorem dX8_parishes_217 : decode cX8_parishes 217 = .ok (.iload 7, 2) := by decide +kernel
theorem dX8_parishes_219 : decode cX8_parishes 219 = .ok (.iload 10, 2) := by decide +kernel
theorem dX8_parishes_221 : decode cX8_parishes 221 = .ok (.iload 5, 2) := by decide +kernel
theorem dX8_parishes_223 : decode cX8_parishes 223 = .ok (.imul, 1) := by decide +kernel
theorem dX8_parishes_224 : decode cX8_parishes 224 = .ok (.isub, 1) := by decide +kernel
theorem dX8_parishes_225 : decode cX8_parishes 225 = .ok (.iconst 1, 1) := by decide +kernel
theorem dX8_parishes_226 : decode cX8_parishes 226 = .ok (.iload 11, 2) := by decide +kernel
theorem dX8_parishes_228 : decode cX8_parishes 228 = .ok (.isub, 1) := by decide +kernel
theorem dX8_parishes_229 : decode cX8_parishes 229 = .ok (.iload 6, 2) := by decide +kernel
theorem dX8_parishes_231 : decode cX8_parishes 231 = .ok (.imul, 1) := by decide +kernel
theorem dX8_parishes_232 : decode cX8_parishes 232 = .ok (.isub, 1) := by decide +kernel
theorem dX8_parishes_233 : decode cX8_parishes 233 = .ok (.invokestatic 64, 3) := by decide +kernel
theorem dX8_parishes_236 : decode cX8_parishes 236 = .ok (.iconst 2, 1) := by decide +kernel
theorem dX8_parishes_237 : decode cX8_parishes 237 = .ok (.iconst 1, 1) := by decide +kernel
theorem dX8_parishes_238 : decode cX8_parishes 238 = .ok (.iload 11, 2) := by decide +kernel
theorem dX8_parishes_240 : decode cX8_parishes 240 = .ok (.isub, 1) := by decide +kernel
theorem dX8_parishes_241 : decode cX8_parishes 241 = .ok (.imul, 1) := by decide +kernel
theorem dX8_parishes_242 : decode cX8_parishes 242 = .ok (.iadd, 1) := by decide +kernel
theorem dX8_parishes_243 : decode cX8_parishes 243 = .ok (.istore 16, 2) := by decide +kernel
theorem dX8_parishes_245 : decode cX8_parishes 245 = .ok (.iload 8, 2) := by decide +kernel
theorem dX8_parishes_247 : decode cX8_parishes 247 = .ok (.iload 13, 2) := by decide +kernel
theorem dX8_parishes_249 : decode cX8_parishes 249 = .ok (.iload 15, 2) := by decide +kernel
theorem dX8_parishes_251 : decode cX8_parishes 251 = .ok (.if_icmp .gt 17, 3) := by decide +kernel
theorem dX8_parishes_254 : decode cX8_parishes 254 = .ok (.iload 14, 2) := by decide +kernel
theorem dX8_parishes_256 : decode cX8_parishes 256 = .ok (.iload 16, 2) := by decide +kernel
theorem dX8_parishes_258 : decode cX8_parishes 258 = .ok (.if_icmp .gt 10, 3) := by decide +kernel
theorem dX8_parishes_261 : decode cX8_parishes 261 = .ok (.iconst 1, 1) := by decide +kernel
theorem dX8_parishes_262 : decode cX8_parishes 262 = .ok (.iload 9, 2) := by decide +kernel
theorem dX8_parishes_264 : decode cX8_parishes 264 = .ok (.ishl, 1) := by decide +kernel
theorem dX8_parishes_265 : decode cX8_parishes 265 = .ok (.goto 4, 3) := by decide +kernel
theorem dX8_parishes_268 : decode cX8_parishes 268 = .ok (.iconst 0, 1) := by decide +kernel
theorem dX8_parishes_269 : decode cX8_parishes 269 = .ok (.ior, 1) := by decide +kernel
theorem dX8_parishes_270 : decode cX8_parishes 270 = .ok (.istore 8, 2) := by decide +kernel
theorem dX8_parishes_272 : decode cX8_parishes 272 = .ok (.iinc 9 1, 3) := by decide +kernel
theorem dX8_parishes_275 : decode cX8_parishes 275 = .ok (.goto (-141), 3) := by decide +kernel
theorem dX8_parishes_278 : decode cX8_parishes 278 = .ok (.iload 8, 2) := by decide +kernel
theorem dX8_parishes_280 : decode cX8_parishes 280 = .ok (.ireturn, 1) := by decide +kernel
theorem dX8_common_0 : decode cX8_common 0 = .ok (.iload_n 0, 1) := by decide +kernel
theorem dX8_common_1 : decode cX8_common 1 = .ok (.istore_n 2, 1) := by decide +kernel
theorem dX8_common_2 : decode cX8_common 2 = .ok (.iload_n 1, 1) := by decide +kernel
theorem dX8_common_3 : decode cX8_common 3 = .ok (.istore_n 3, 1) := by decide +kernel
theorem dX8_common_4 : decode cX8_common 4 = .ok (.iload_n 3, 1) := by decide +kernel
theorem dX8_common_5 : decode cX8_common 5 = .ok (.ifCond .le 16, 3) := by decide +kernel
theorem dX8_common_8 : decode cX8_common 8 = .ok (.iload_n 2, 1) := by decide +kernel
theorem dX8_common_9 : decode cX8_common 9 = .ok (.iload_n 3, 1) := by decide +kernel
theorem dX8_common_10 : decode cX8_common 10 = .ok (.irem, 1) := by decide +kernel
theorem dX8_common_11 : decode cX8_common 11 = .ok (.istore 4, 2) := by decide +kernel
theorem dX8_common_13 : decode cX8_common 13 = .ok (.iload_n 3, 1) := by decide +kernel
theorem dX8_common_14 : decode cX8_common 14 = .ok (.istore_n 2, 1) := by decide +kernel
theorem dX8_common_15 : decode cX8_common 15 = .ok (.iload 4, 2) := by decide +kernel
theorem dX8_common_17 : decode cX8_common 17 = .ok (.istore_n 3, 1) := by decide +kernel
theorem dX8_common_18 : decode cX8_common 18 = .ok (.goto (-14), 3) := by decide +kernel
theorem dX8_common_21 : decode cX8_common 21 = .ok (.iload_n 2, 1) := by decide +kernel
theorem dX8_common_22 : decode cX8_common 22 = .ok (.ireturn, 1) := by decide +kernel
theorem dX8_gusts_0 : decode cX8_gusts 0 = .ok (.aload_n 0, 1) := by decide +kernel
theorem dX8_gusts_1 : decode cX8_gusts 1 = .ok (.iload_n 1, 1) := by decide +kernel
theorem dX8_gusts_2 : decode cX8_gusts 2 = .ok (.invokevirtual 223, 3) := by decide +kernel
theorem dX8_gusts_5 : decode cX8_gusts 5 = .ok (.ifCond .eq 49, 3) := by decide +kernel
theorem dX8_gusts_8 : decode cX8_gusts 8 = .ok (.aload_n 0, 1) := by decide +kernel
theorem dX8_gusts_9 : decode cX8_gusts 9 = .ok (.iload_n 2, 1) := by decide +kernel
theorem dX8_gusts_10 : decode cX8_gusts 10 = .ok (.invokevirtual 226, 3) := by decide +kernel
theorem dX8_gusts_13 : decode cX8_gusts 13 = .ok (.ifCond .eq 41, 3) := by decide +kernel
theorem dX8_gusts_16 : decode cX8_gusts 16 = .ok (.iload_n 3, 1) := by decide +kernel
theorem dX8_gusts_17 : decode cX8_gusts 17 = .ok (.i2l, 1) := by decide +kernel
theorem dX8_gusts_18 : decode cX8_gusts 18 = .ok (.lconst 1, 1) := by decide +kernel
theorem dX8_gusts_19 : decode cX8_gusts 19 = .ok (.ldc2_w 101, 3) := by decide +kernel
theorem dX8_gusts_22 : decode cX8_gusts 22 = .ok (.invokestatic 60, 3) := by decide +kernel
theorem dX8_gusts_25 : decode cX8_gusts 25 = .ok (.ifCond .eq 29, 3) := by decide +kernel
theorem dX8_gusts_28 : decode cX8_gusts 28 = .ok (.iload 4, 2) := by decide +kernel
theorem dX8_gusts_30 : decode cX8_gusts 30 = .ok (.i2l, 1) := by decide +kernel
theorem dX8_gusts_31 : decode cX8_gusts 31 = .ok (.lconst 0, 1) := by decide +kernel
theorem dX8_gusts_32 : decode cX8_gusts 32 = .ok (.ldc2_w 101, 3) := by decide +kernel
theorem dX8_gusts_35 : decode cX8_gusts 35 = .ok (.invokestatic 60, 3) := by decide +kernel
theorem dX8_gusts_38 : decode cX8_gusts 38 = .ok (.ifCond .eq 16, 3) := by decide +kernel
theorem dX8_gusts_41 : decode cX8_gusts 41 = .ok (.iload 5, 2) := by decide +kernel
theorem dX8_gusts_43 : decode cX8_gusts 43 = .ok (.i2l, 1) := by decide +kernel
theorem dX8_gusts_44 : decode cX8_gusts 44 = .ok (.lconst 0, 1) := by decide +kernel
theorem dX8_gusts_45 : decode cX8_gusts 45 = .ok (.ldc2_w 298, 3) := by decide +kernel
theorem dX8_gusts_48 : decode cX8_gusts 48 = .ok (.invokestatic 60, 3) := by decide +kernel
theorem dX8_gusts_51 : decode cX8_gusts 51 = .ok (.ifCond .ne 8, 3) := by decide +kernel
theorem dX8_gusts_54 : decode cX8_gusts 54 = .ok (.aload_n 0, 1) := by decide +kernel
theorem dX8_gusts_55 : decode cX8_gusts 55 = .ok (.invokevirtual 103, 3) := by decide +kernel
theorem dX8_gusts_58 : decode cX8_gusts 58 = .ok (.ireturn, 1) := by decide +kernel
theorem dX8_gusts_59 : decode cX8_gusts 59 = .ok (.aload_n 0, 1) := by decide +kernel
theorem dX8_gusts_60 : decode cX8_gusts 60 = .ok (.getfield 7, 3) := by decide +kernel
theorem dX8_gusts_63 : decode cX8_gusts 63 = .ok (.iconst 4, 1) := by decide +kernel
theorem dX8_gusts_64 : decode cX8_gusts 64 = .ok (.iaload, 1) := by decide +kernel
theorem dX8_gusts_65 : decode cX8_gusts 65 = .ok (.iconst 4, 1) := by decide +kernel
theorem dX8_gusts_66 : decode cX8_gusts 66 = .ok (.iadd, 1) := by decide +kernel
theorem dX8_gusts_67 : decode cX8_gusts 67 = .ok (.bipush 9, 2) := by decide +kernel
theorem dX8_gusts_69 : decode cX8_gusts 69 = .ok (.if_icmp .ge 14, 3) := by decide +kernel
theorem dX8_gusts_72 : decode cX8_gusts 72 = .ok (.aload_n 0, 1) := by decide +kernel
theorem dX8_gusts_73 : decode cX8_gusts 73 = .ok (.getfield 7, 3) := by decide +kernel
theorem dX8_gusts_76 : decode cX8_gusts 76 = .ok (.iconst 4, 1) := by decide +kernel
theorem dX8_gusts_77 : decode cX8_gusts 77 = .ok (.iaload, 1) := by decide +kernel
theorem dX8_gusts_78 : decode cX8_gusts 78 = .ok (.iconst 4, 1) := by decide +kernel
theorem dX8_gusts_79 : decode cX8_gusts 79 = .ok (.iadd, 1) := by decide +kernel
theorem dX8_gusts_80 : decode cX8_gusts 80 = .ok (.goto 5, 3) := by decide +kernel
theorem dX8_gusts_83 : decode cX8_gusts 83 = .ok (.bipush 9, 2) := by decide +kernel
theorem dX8_gusts_85 : decode cX8_gusts 85 = .ok (.istore 6, 2) := by decide +kernel
theorem dX8_gusts_87 : decode cX8_gusts 87 = .ok (.aload_n 0, 1) := by decide +kernel
theorem dX8_gusts_88 : decode cX8_gusts 88 = .ok (.iload_n 1, 1) := by decide +kernel
theorem dX8_gusts_89 : decode cX8_gusts 89 = .ok (.iload_n 3, 1) := by decide +kernel
theorem dX8_gusts_90 : decode cX8_gusts 90 = .ok (.iload_n 2, 1) := by decide +kernel
theorem dX8_gusts_91 : decode cX8_gusts 91 = .ok (.aload_n 0, 1) := by decide +kernel
theorem dX8_gusts_92 : decode cX8_gusts 92 = .ok (.getfield 7, 3) := by decide +kernel
theorem dX8_gusts_95 : decode cX8_gusts 95 = .ok (.iconst 4, 1) := by decide +kernel
theorem dX8_gusts_96 : decode cX8_gusts 96 = .ok (.iaload, 1) := by decide +kernel
theorem dX8_gusts_97 : decode cX8_gusts 97 = .ok (.invokevirtual 232, 3) := by decide +kernel
theorem dX8_gusts_100 : decode cX8_gusts 100 = .ok (.ifCond .eq 12, 3) := by decide +kernel
theorem dX8_gusts_103 : decode cX8_gusts 103 = .ok (.aload_n 0, 1) := by decide +kernel
theorem dX8_gusts_104 : decode cX8_gusts 104 = .ok (.iload_n 1, 1) := by decide +kernel
theorem dX8_gusts_105 : decode cX8_gusts 105 = .ok (.iload_n 3, 1) := by decide +kernel
theorem dX8_gusts_106 : decode cX8_gusts 106 = .ok (.invokevirtual 236, 3) := by decide +kernel
theorem dX8_gusts_109 : decode cX8_gusts 109 = .ok (.goto 4, 3) := by decide +kernel
theorem dX8_gusts_112 : decode cX8_gusts 112 = .ok (.iconst 0, 1) := by decide +kernel
theorem dX8_gusts_113 : decode cX8_gusts 113 = .ok (.istore 7, 2) := by decide +kernel
theorem dX8_gusts_115 : decode cX8_gusts 115 = .ok (.aload_n 0, 1) := by decide +kernel
theorem dX8_gusts_116 : decode cX8_gusts 116 = .ok (.iload_n 1, 1) := by decide +kernel
theorem dX8_gusts_117 : decode cX8_gusts 117 = .ok (.iload_n 3, 1) := by decide +kernel
theorem dX8_gusts_118 : decode cX8_gusts 118 = .ok (.iload_n 2, 1) := by decide +kernel
theorem dX8_gusts_119 : decode cX8_gusts 119 = .ok (.iload 6, 2) := by decide +kernel
theorem dX8_gusts_121 : decode cX8_gusts 121 = .ok (.invokevirtual 232, 3) := by decide +kernel
theorem dX8_gusts_124 : decode cX8_gusts 124 = .ok (.ifCond .eq 12, 3) := by decide +kernel
theorem dX8_gusts_127 : decode cX8_gusts 127 = .ok (.aload_n 0, 1) := by decide +kernel
theorem dX8_gusts_128 : decode cX8_gusts 128 = .ok (.iload_n 1, 1) := by decide +kernel
theorem dX8_gusts_129 : decode cX8_gusts 129 = .ok (.iload_n 3, 1) := by decide +kernel
theorem dX8_gusts_130 : decode cX8_gusts 130 = .ok (.invokevirtual 236, 3) := by decide +kernel
theorem dX8_gusts_133 : decode cX8_gusts 133 = .ok (.goto 4, 3) := by decide +kernel
theorem dX8_gusts_136 : decode cX8_gusts 136 = .ok (.iconst 0, 1) := by decide +kernel
theorem dX8_gusts_137 : decode cX8_gusts 137 = .ok (.istore 8, 2) := by decide +kernel
theorem dX8_gusts_139 : decode cX8_gusts 139 = .ok (.iload 4, 2) := by decide +kernel
theorem dX8_gusts_141 : decode cX8_gusts 141 = .ok (.bipush 10, 2) := by decide +kernel
theorem dX8_gusts_143 : decode cX8_gusts 143 = .ok (.iload 5, 2) := by decide +kernel
theorem dX8_gusts_145 : decode cX8_gusts 145 = .ok (.isub, 1) := by decide +kernel
theorem dX8_gusts_146 : decode cX8_gusts 146 = .ok (.iload 7, 2) := by decide +kernel
theorem dX8_gusts_148 : decode cX8_gusts 148 = .ok (.imul, 1) := by decide +kernel
theorem dX8_gusts_149 : decode cX8_gusts 149 = .ok (.iload 5, 2) := by decide +kernel
theorem dX8_gusts_151 : decode cX8_gusts 151 = .ok (.iload 8, 2) := by decide +kernel
theorem dX8_gusts_153 : decode cX8_gusts 153 = .ok (.imul, 1) := by decide +kernel
theorem dX8_gusts_154 : decode cX8_gusts 154 = .ok (.iadd, 1) := by decide +kernel
theorem dX8_gusts_155 : decode cX8_gusts 155 = .ok (.imul, 1) := by decide +kernel
theorem dX8_gusts_156 : decode cX8_gusts 156 = .ok (.istore 9, 2) := by decide +kernel
theorem dX8_gusts_158 : decode cX8_gusts 158 = .ok (.bipush 10, 2) := by decide +kernel
theorem dX8_gusts_160 : decode cX8_gusts 160 = .ok (.iload 9, 2) := by decide +kernel
theorem dX8_gusts_162 : decode cX8_gusts 162 = .ok (.invokestatic 300, 3) := by decide +kernel
theorem dX8_gusts_165 : decode cX8_gusts 165 = .ok (.istore 10, 2) := by decide +kernel
theorem dX8_gusts_167 : decode cX8_gusts 167 = .ok (.aload_n 0, 1) := by decide +kernel
theorem dX8_gusts_168 : decode cX8_gusts 168 = .ok (.iload 9, 2) := by decide +kernel
theorem dX8_gusts_170 : decode cX8_gusts 170 = .ok (.iload 10, 2) := by decide +kernel
theorem dX8_gusts_172 : decode cX8_gusts 172 = .ok (.idiv, 1) := by decide +kernel
theorem dX8_gusts_173 : decode cX8_gusts 173 = .ok (.i2l, 1) := by decide +kernel
theorem dX8_gusts_174 : decode cX8_gusts 174 = .ok (.putfield 303, 3) := by decide +kernel
theorem dX8_gusts_177 : decode cX8_gusts 177 = .ok (.aload_n 0, 1) := by decide +kernel
theorem dX8_gusts_178 : decode cX8_gusts 178 = .ok (.bipush 10, 2) := by decide +kernel
theorem dX8_gusts_180 : decode cX8_gusts 180 = .ok (.iload 10, 2) := by decide +kernel
theorem dX8_gusts_182 : decode cX8_gusts 182 = .ok (.idiv, 1) := by decide +kernel
theorem dX8_gusts_183 : decode cX8_gusts 183 = .ok (.i2l, 1) := by decide +kernel
theorem dX8_gusts_184 : decode cX8_gusts 184 = .ok (.putfield 16, 3) := by decide +kernel
theorem dX8_gusts_187 : decode cX8_gusts 187 = .ok (.iconst 1, 1) := by decide +kernel
theorem dX8_gusts_188 : decode cX8_gusts 188 = .ok (.ireturn, 1) := by decide +kernel
theorem dX8_summers_0 : decode cX8_summers 0 = .ok (.iload_n 1, 1) := by decide +kernel
theorem dX8_summers_1 : decode cX8_summers 1 = .ok (.i2l, 1) := by decide +kernel
theorem dX8_summers_2 : decode cX8_summers 2 = .ok (.lconst 0, 1) := by decide +kernel
theorem dX8_summers_3 : decode cX8_summers 3 = .ok (.ldc2_w 306, 3) := by decide +kernel
theorem dX8_summers_6 : decode cX8_summers 6 = .ok (.invokestatic 60, 3) := by decide +kernel
theorem dX8_summers_9 : decode cX8_summers 9 = .ok (.ifCond .eq 15, 3) := by decide +kernel
theorem dX8_summers_12 : decode cX8_summers 12 = .ok (.iload_n 2, 1) := by decide +kernel
theorem dX8_summers_13 : decode cX8_summers 13 = .ok (.i2l, 1) := by decide +kernel
theorem dX8_summers_14 : decode cX8_summers 14 = .ok (.lconst 0, 1) := by decide +kernel
theorem dX8_summers_15 : decode cX8_summers 15 = .ok (.ldc2_w 209, 3) := by decide +kernel
theorem dX8_summers_18 : decode cX8_summers 18 = .ok (.invokestatic 60, 3) := by decide +kernel
theorem dX8_summers_21 : decode cX8_summers 21 = .ok (.ifCond .ne 8, 3) := by decide +kernel
theorem dX8_summers_24 : decode cX8_summers 24 = .ok (.aload_n 0, 1) := by decide +kernel
theorem dX8_summers_25 : decode cX8_summers 25 = .ok (.invokevirtual 103, 3) := by decide +kernel
theorem dX8_summers_28 : decode cX8_summers 28 = .ok (.ireturn, 1) := by decide +kernel
theorem dX8_summers_29 : decode cX8_summers 29 = .ok (.iconst 0, 1) := by decide +kernel
theorem dX8_summers_30 : decode cX8_summers 30 = .ok (.istore_n 3, 1) := by decide +kernel
theorem dX8_summers_31 : decode cX8_summers 31 = .ok (.iload_n 3, 1) := by decide +kernel
theorem dX8_summers_32 : decode cX8_summers 32 = .ok (.sipush 168, 3) := by decide +kernel
theorem dX8_summers_35 : decode cX8_summers 35 = .ok (.if_icmp .ge 21, 3) := by decide +kernel
theorem dX8_summers_38 : decode cX8_summers 38 = .ok (.aload_n 0, 1) := by decide +kernel
theorem dX8_summers_39 : decode cX8_summers 39 = .ok (.getfield 44, 3) := by decide +kernel
theorem dX8_summers_42 : decode cX8_summers 42 = .ok (.iload_n 3, 1) := by decide +kernel
theorem dX8_summers_43 : decode cX8_summers 43 = .ok (.aload_n 0, 1) := by decide +kernel
theorem dX8_summers_44 : decode cX8_summers 44 = .ok (.getfield 7, 3) := by decide +kernel
theorem dX8_summers_47 : decode cX8_summers 47 = .ok (.iload_n 3, 1) := by decide +kernel
theorem dX8_summers_48 : decode cX8_summers 48 = .ok (.iaload, 1) := by decide +kernel
theorem dX8_summers_49 : decode cX8_summers 49 = .ok (.iastore, 1) := by decide +kernel
theorem dX8_summers_50 : decode cX8_summers 50 = .ok (.iinc 3 1, 3) := by decide +kernel
theorem dX8_summers_53 : decode cX8_summers 53 = .ok (.goto (-22), 3) := by decide +kernel
theorem dX8_summers_56 : decode cX8_summers 56 = .ok (.iload_n 1, 1) := by decide +kernel
theorem dX8_summers_57 : decode cX8_summers 57 = .ok (.i2l, 1) := by decide +kernel
theorem dX8_summers_58 : decode cX8_summers 58 = .ok (.lstore_n 3, 1) := by decide +kernel
theorem dX8_summers_59 : decode cX8_summers 59 = .ok (.iconst 0, 1) := by decide +kernel
theorem dX8_summers_60 : decode cX8_summers 60 = .ok (.istore 5, 2) := by decide +kernel
theorem dX8_summers_62 : decode cX8_summers 62 = .ok (.iload 5, 2) := by decide +kernel
theorem dX8_summers_64 : decode cX8_summers 64 = .ok (.iload_n 2, 1) := by decide +kernel
theorem dX8_summers_65 : decode cX8_summers 65 = .ok (.if_icmp .ge 81, 3) := by decide +kernel
theorem dX8_summers_68 : decode cX8_summers 68 = .ok (.lload_n 3, 1) := by decide +kernel
theorem dX8_summers_69 : decode cX8_summers 69 = .ok (.ldc2_w 308, 3) := by decide +kernel
theorem dX8_summers_72 : decode cX8_summers 72 = .ok (.lmul, 1) := by decide +kernel
theorem dX8_summers_73 : decode cX8_summers 73 = .ok (.ldc2_w 310, 3) := by decide +kernel
theorem dX8_summers_76 : decode cX8_summers 76 = .ok (.ladd, 1) := by decide +kernel
theorem dX8_summers_77 : decode cX8_summers 77 = .ok (.ldc2_w 312, 3) := by decide +kernel
theorem dX8_summers_80 : decode cX8_summers 80 = .ok (.lrem, 1) := by decide +kernel
theorem dX8_summers_81 : decode cX8_summers 81 = .ok (.lstore_n 3, 1) := by decide +kernel
theorem dX8_summers_82 : decode cX8_summers 82 = .ok (.lload_n 3, 1) := by decide +kernel
theorem dX8_summers_83 : decode cX8_summers 83 = .ok (.ldc2_w 314, 3) := by decide +kernel
theorem dX8_summers_86 : decode cX8_summers 86 = .ok (.ldiv, 1) := by decide +kernel
theorem dX8_summers_87 : decode cX8_summers 87 = .ok (.ldc2_w 111, 3) := by decide +kernel
theorem dX8_summers_90 : decode cX8_summers 90 = .ok (.lrem, 1) := by decide +kernel
theorem dX8_summers_91 : decode cX8_summers 91 = .ok (.l2i, 1) := by decide +kernel
theorem dX8_summers_92 : decode cX8_summers 92 = .ok (.istore 6, 2) := by decide +kernel
theorem dX8_summers_94 : decode cX8_summers 94 = .ok (.iload 6, 2) := by decide +kernel
theorem dX8_summers_96 : decode cX8_summers 96 = .ok (.aload_n 0, 1) := by decide +kernel
theorem dX8_summers_97 : decode cX8_summers 97 = .ok (.getfield 44, 3) := by decide +kernel
theorem dX8_summers_100 : decode cX8_summers 100 = .ok (.iconst 0, 1) := by decide +kernel
theorem dX8_summers_101 : decode cX8_summers 101 = .ok (.iaload, 1) := by decide +kernel
theorem dX8_summers_102 : decode cX8_summers 102 = .ok (.if_icmp .ge 31, 3) := by decide +kernel
theorem dX8_summers_105 : decode cX8_summers 105 = .ok (.aload_n 0, 1) := by decide +kernel
theorem dX8_summers_106 : decode cX8_summers 106 = .ok (.getfield 44, 3) := by decide +kernel
theorem dX8_summers_109 : decode cX8_summers 109 = .ok (.bipush 18, 2) := by decide +kernel
theorem dX8_summers_111 : decode cX8_summers 111 = .ok (.bipush 10, 2) := by decide +kernel
theorem dX8_summers_113 : decode cX8_summers 113 = .ok (.iload 6, 2) := by decide +kernel
theorem dX8_summers_115 : decode cX8_summers 115 = .ok (.imul, 1) := by decide +kernel
theorem dX8_summers_116 : decode cX8_summers 116 = .ok (.iadd, 1) := by decide +kernel
theorem dX8_summers_117 : decode cX8_summers 117 = .ok (.aload_n 0, 1) := by decide +kernel
theorem dX8_summers_118 : decode cX8_summers 118 = .ok (.getfield 44, 3) := by decide +kernel
theorem dX8_summers_121 : decode cX8_summers 121 = .ok (.bipush 8, 2) := by decide +kernel
theorem dX8_summers_123 : decode cX8_summers 123 = .ok (.iload 6, 2) := by decide +kernel
theorem dX8_summers_125 : decode cX8_summers 125 = .ok (.iadd, 1) := by decide +kernel
theorem dX8_summers_126 : decode cX8_summers 126 = .ok (.iaload, 1) := by decide +kernel
theorem dX8_summers_127 : decode cX8_summers 127 = .ok (.invokestatic 217, 3) := by decide +kernel
theorem dX8_summers_130 : decode cX8_summers 130 = .ok (.invokestatic 90, 3) := by decide +kernel
theorem dX8_summers_133 : decode cX8_summers 133 = .ok (.aload_n 0, 1) := by decide +kernel
theorem dX8_summers_134 : decode cX8_summers 134 = .ok (.getfield 44, 3) := by decide +kernel
theorem dX8_summers_137 : decode cX8_summers 137 = .ok (.invokestatic 172, 3) := by decide +kernel
theorem dX8_summers_140 : decode cX8_summers 140 = .ok (.iinc 5 1, 3) := by decide +kernel
theorem dX8_summers_143 : decode cX8_summers 143 = .ok (.goto (-81), 3) := by decide +kernel
theorem dX8_summers_146 : decode cX8_summers 146 = .ok (.iconst 0, 1) := by decide +kernel
theorem dX8_summers_147 : decode cX8_summers 147 = .ok (.istore 5, 2) := by decide +kernel
theorem dX8_summers_149 : decode cX8_summers 149 = .ok (.iconst 0, 1) := by decide +kernel
theorem dX8_summers_150 : decode cX8_summers 150 = .ok (.istore 6, 2) := by decide +kernel
theorem dX8_summers_152 : decode cX8_summers 152 = .ok (.iload 6, 2) := by decide +kernel
theorem dX8_summers_154 : decode cX8_summers 154 = .ok (.aload_n 0, 1) := by decide +kernel
theorem dX8_summers_155 : decode cX8_summers 155 = .ok (.getfield 44, 3) := by decide +kernel
theorem dX8_summers_158 : decode cX8_summers 158 = .ok (.iconst 0, 1) := by decide +kernel
theorem dX8_summers_159 : decode cX8_summers 159 = .ok (.iaload, 1) := by decide +kernel
theorem dX8_summers_160 : decode cX8_summers 160 = .ok (.if_icmp .ge 29, 3) := by decide +kernel
theorem dX8_summers_163 : decode cX8_summers 163 = .ok (.iload 5, 2) := by decide +kernel
theorem dX8_summers_165 : decode cX8_summers 165 = .ok (.aload_n 0, 1) := by decide +kernel
theorem dX8_summers_166 : decode cX8_summers 166 = .ok (.getfield 44, 3) := by decide +kernel
theorem dX8_summers_169 : decode cX8_summers 169 = .ok (.bipush 18, 2) := by decide +kernel
theorem dX8_summers_171 : decode cX8_summers 171 = .ok (.bipush 10, 2) := by decide +kernel
theorem dX8_summers_173 : decode cX8_summers 173 = .ok (.iload 6, 2) := by decide +kernel
theorem dX8_summers_175 : decode cX8_summers 175 = .ok (.imul, 1) := by decide +kernel
theorem dX8_summers_176 : decode cX8_summers 176 = .ok (.iadd, 1) := by decide +kernel
theorem dX8_summers_177 : decode cX8_summers 177 = .ok (.invokestatic 83, 3) := by decide +kernel
theorem dX8_summers_180 : decode cX8_summers 180 = .ok (.iadd, 1) := by decide +kernel
theorem dX8_summers_181 : decode cX8_summers 181 = .ok (.istore 5, 2) := by decide +kernel
theorem dX8_summers_183 : decode cX8_summers 183 = .ok (.iinc 6 1, 3) := by decide +kernel
theorem dX8_summers_186 : decode cX8_summers 186 = .ok (.goto (-34), 3) := by decide +kernel
theorem dX8_summers_189 : decode cX8_summers 189 = .ok (.iload 5, 2) := by decide +kernel
theorem dX8_summers_191 : decode cX8_summers 191 = .ok (.ireturn, 1) := by decide +kernel
theorem dX8_part_0 : decode cX8_part 0 = .ok (.iload_n 1, 1) := by decide +kernel
theorem dX8_part_1 : decode cX8_part 1 = .ok (.ifCond .ne 10, 3) := by decide +kernel
theorem dX8_part_4 : decode cX8_part 4 = .ok (.aload_n 0, 1) := by decide +kernel
theorem dX8_part_5 : decode cX8_part 5 = .ok (.getfield 303, 3) := by decide +kernel
theorem dX8_part_8 : decode cX8_part 8 = .ok (.goto 20, 3) := by decide +kernel
theorem dX8_part_11 : decode cX8_part 11 = .ok (.iload_n 1, 1) := by decide +kernel
theorem dX8_part_12 : decode cX8_part 12 = .ok (.iconst 1, 1) := by decide +kernel
theorem dX8_part_13 : decode cX8_part 13 = .ok (.if_icmp .ne 10, 3) := by decide +kernel
theorem dX8_part_16 : decode cX8_part 16 = .ok (.aload_n 0, 1) := by decide +kernel
theorem dX8_part_17 : decode cX8_part 17 = .ok (.getfield 16, 3) := by decide +kernel
theorem dX8_part_20 : decode cX8_part 20 = .ok (.goto 8, 3) := by decide +kernel
theorem dX8_part_23 : decode cX8_part 23 = .ok (.aload_n 0, 1) := by decide +kernel
theorem dX8_part_24 : decode cX8_part 24 = .ok (.invokevirtual 103, 3) := by decide +kernel
theorem dX8_part_27 : decode cX8_part 27 = .ok (.i2l, 1) := by decide +kernel
theorem dX8_part_28 : decode cX8_part 28 = .ok (.lreturn, 1) := by decide +kernel
theorem dX8_image_0 : decode cX8_image 0 = .ok (.iload_n 1, 1) := by decide +kernel
theorem dX8_image_1 : decode cX8_image 1 = .ok (.i2l, 1) := by decide +kernel
theorem dX8_image_2 : decode cX8_image 2 = .ok (.lconst 0, 1) := by decide +kernel
theorem dX8_image_3 : decode cX8_image 3 = .ok (.lconst 1, 1) := by decide +kernel
theorem dX8_image_4 : decode cX8_image 4 = .ok (.invokestatic 60, 3) := by decide +kernel
theorem dX8_image_7 : decode cX8_image 7 = .ok (.ifCond .ne 8, 3) := by decide +kernel
theorem dX8_image_10 : decode cX8_image 10 = .ok (.aload_n 0, 1) := by decide +kernel
theorem dX8_image_11 : decode cX8_image 11 = .ok (.invokevirtual 103, 3) := by decide +kernel
theorem dX8_image_14 : decode cX8_image 14 = .ok (.ireturn, 1) := by decide +kernel
theorem dX8_image_15 : decode cX8_image 15 = .ok (.iconst 0, 1) := by decide +kernel
theorem dX8_image_16 : decode cX8_image 16 = .ok (.istore_n 2, 1) := by decide +kernel
theorem dX8_image_17 : decode cX8_image 17 = .ok (.iload_n 2, 1) := by decide +kernel
theorem dX8_image_18 : decode cX8_image 18 = .ok (.sipush 168, 3) := by decide +kernel
theorem dX8_image_21 : decode cX8_image 21 = .ok (.if_icmp .ge 27, 3) := by decide +kernel
theorem dX8_image_24 : decode cX8_image 24 = .ok (.aload_n 0, 1) := by decide +kernel
theorem dX8_image_25 : decode cX8_image 25 = .ok (.getfield 47, 3) := by decide +kernel
theorem dX8_image_28 : decode cX8_image 28 = .ok (.sipush 168, 3) := by decide +kernel
theorem dX8_image_31 : decode cX8_image 31 = .ok (.iload_n 1, 1) := by decide +kernel
theorem dX8_image_32 : decode cX8_image 32 = .ok (.imul, 1) := by decide +kernel
theorem dX8_image_33 : decode cX8_image 33 = .ok (.iload_n 2, 1) := by decide +kernel
theorem dX8_image_34 : decode cX8_image 34 = .ok (.iadd, 1) := by decide +kernel
theorem dX8_image_35 : decode cX8_image 35 = .ok (.aload_n 0, 1) := by decide +kernel
theorem dX8_image_36 : decode cX8_image 36 = .ok (.getfield 7, 3) := by decide +kernel
theorem dX8_image_39 : decode cX8_image 39 = .ok (.iload_n 2, 1) := by decide +kernel
theorem dX8_image_40 : decode cX8_image 40 = .ok (.iaload, 1) := by decide +kernel
theorem dX8_image_41 : decode cX8_image 41 = .ok (.iastore, 1) := by decide +kernel
theorem dX8_image_42 : decode cX8_image 42 = .ok (.iinc 2 1, 3) := by decide +kernel
theorem dX8_image_45 : decode cX8_image 45 = .ok (.goto (-28), 3) := by decide +kernel
theorem dX8_image_48 : decode cX8_image 48 = .ok (.aload_n 0, 1) := by decide +kernel
theorem dX8_image_49 : decode cX8_image 49 = .ok (.getfield 50, 3) := by decide +kernel
theorem dX8_image_52 : decode cX8_image 52 = .ok (.iload_n 1, 1) := by decide +kernel
theorem dX8_image_53 : decode cX8_image 53 = .ok (.iconst 1, 1) := by decide +kernel
theorem dX8_image_54 : decode cX8_image 54 = .ok (.bastore, 1) := by decide +kernel
theorem dX8_image_55 : decode cX8_image 55 = .ok (.aload_n 0, 1) := by decide +kernel
theorem dX8_image_56 : decode cX8_image 56 = .ok (.iload_n 1, 1) := by decide +kernel
theorem dX8_image_57 : decode cX8_image 57 = .ok (.invokevirtual 316, 3) := by decide +kernel
theorem dX8_image_60 : decode cX8_image 60 = .ok (.iconst 1, 1) := by decide +kernel
theorem dX8_image_61 : decode cX8_image 61 = .ok (.ireturn, 1) := by decide +kernel
theorem dX8_keepPast_0 : decode cX8_keepPast 0 = .ok (.aload_n 0, 1) := by decide +kernel
theorem dX8_keepPast_1 : decode cX8_keepPast 1 = .ok (.getfield 54, 3) := by decide +kernel
theorem dX8_keepPast_4 : decode cX8_keepPast 4 = .ok (.iload_n 1, 1) := by decide +kernel
theorem dX8_keepPast_5 : decode cX8_keepPast 5 = .ok (.aload_n 0, 1) := by decide +kernel
theorem dX8_keepPast_6 : decode cX8_keepPast 6 = .ok (.getfield 94, 3) := by decide +kernel
theorem dX8_keepPast_9 : decode cX8_keepPast 9 = .ok (.iastore, 1) := by decide +kernel
theorem dX8_keepPast_10 : decode cX8_keepPast 10 = .ok (.iconst 0, 1) := by decide +kernel
theorem dX8_keepPast_11 : decode cX8_keepPast 11 = .ok (.istore_n 2, 1) := by decide +kernel
theorem dX8_keepPast_12 : decode cX8_keepPast 12 = .ok (.iload_n 2, 1) := by decide +kernel
theorem dX8_keepPast_13 : decode cX8_keepPast 13 = .ok (.sipush 480, 3) := by decide +kernel
theorem dX8_keepPast_16 : decode cX8_keepPast 16 = .ok (.if_icmp .ge 27, 3) := by decide +kernel
theorem dX8_keepPast_19 : decode cX8_keepPast 19 = .ok (.aload_n 0, 1) := by decide +kernel
theorem dX8_keepPast_20 : decode cX8_keepPast 20 = .ok (.getfield 57, 3) := by decide +kernel
theorem dX8_keepPast_23 : decode cX8_keepPast 23 = .ok (.sipush 480, 3) := by decide +kernel
theorem dX8_keepPast_26 : decode cX8_keepPast 26 = .ok (.iload_n 1, 1) := by decide +kernel
theorem dX8_keepPast_27 : decode cX8_keepPast 27 = .ok (.imul, 1) := by decide +kernel
theorem dX8_keepPast_28 : decode cX8_keepPast 28 = .ok (.iload_n 2, 1) := by decide +kernel
theorem dX8_keepPast_29 : decode cX8_keepPast 29 = .ok (.iadd, 1) := by decide +kernel
theorem dX8_keepPast_30 : decode cX8_keepPast 30 = .ok (.aload_n 0, 1) := by decide +kernel
theorem dX8_keepPast_31 : decode cX8_keepPast 31 = .ok (.getfield 20, 3) := by decide +kernel
theorem dX8_keepPast_34 : decode cX8_keepPast 34 = .ok (.iload_n 2, 1) := by decide +kernel
theorem dX8_keepPast_35 : decode cX8_keepPast 35 = .ok (.iaload, 1) := by decide +kernel
theorem dX8_keepPast_36 : decode cX8_keepPast 36 = .ok (.iastore, 1) := by decide +kernel
theorem dX8_keepPast_37 : decode cX8_keepPast 37 = .ok (.iinc 2 1, 3) := by decide +kernel
theorem dX8_keepPast_40 : decode cX8_keepPast 40 = .ok (.goto (-28), 3) := by decide +kernel
theorem dX8_keepPast_43 : decode cX8_keepPast 43 = .ok (.return_, 1) := by decide +kernel
theorem dX8_from_0 : decode cX8_from 0 = .ok (.iload_n 1, 1) := by decide +kernel
theorem dX8_from_1 : decode cX8_from 1 = .ok (.i2l, 1) := by decide +kernel
theorem dX8_from_2 : decode cX8_from 2 = .ok (.lconst 0, 1) := by decide +kernel
theorem dX8_from_3 : decode cX8_from 3 = .ok (.lconst 1, 1) := by decide +kernel
theorem dX8_from_4 : decode cX8_from 4 = .ok (.invokestatic 60, 3) := by decide +kernel
theorem dX8_from_7 : decode cX8_from 7 = .ok (.ifCond .ne 8, 3) := by decide +kernel
theorem dX8_from_10 : decode cX8_from 10 = .ok (.aload_n 0, 1) := by decide +kernel
theorem dX8_from_11 : decode cX8_from 11 = .ok (.invokevirtual 103, 3) := by decide +kernel
theorem dX8_from_14 : decode cX8_from 14 = .ok (.ireturn, 1) := by decide +kernel
theorem dX8_from_15 : decode cX8_from 15 = .ok (.aload_n 0, 1) := by decide +kernel
theorem dX8_from_16 : decode cX8_from 16 = .ok (.getfield 50, 3) := by decide +kernel
theorem dX8_from_19 : decode cX8_from 19 = .ok (.iload_n 1, 1) := by decide +kernel
theorem dX8_from_20 : decode cX8_from 20 = .ok (.baload, 1) := by decide +kernel
theorem dX8_from_21 : decode cX8_from 21 = .ok (.ifCond .ne 8, 3) := by decide +kernel
theorem dX8_from_24 : decode cX8_from 24 = .ok (.aload_n 0, 1) := by decide +kernel
theorem dX8_from_25 : decode cX8_from 25 = .ok (.invokevirtual 229, 3) := by decide +kernel
theorem dX8_from_28 : decode cX8_from 28 = .ok (.ireturn, 1) := by decide +kernel
theorem dX8_from_29 : decode cX8_from 29 = .ok (.iconst 0, 1) := by decide +kernel
theorem dX8_from_30 : decode cX8_from 30 = .ok (.istore_n 2, 1) := by decide +kernel
theorem dX8_from_31 : decode cX8_from 31 = .ok (.iload_n 2, 1) := by decide +kernel
theorem dX8_from_32 : decode cX8_from 32 = .ok (.sipush 168, 3) := by decide +kernel
theorem dX8_from_35 : decode cX8_from 35 = .ok (.if_icmp .ge 27, 3) := by decide +kernel
theorem dX8_from_38 : decode cX8_from 38 = .ok (.aload_n 0, 1) := by decide +kernel
theorem dX8_from_39 : decode cX8_from 39 = .ok (.getfield 7, 3) := by decide +kernel
theorem dX8_from_42 : decode cX8_from 42 = .ok (.iload_n 2, 1) := by decide +kernel
theorem dX8_from_43 : decode cX8_from 43 = .ok (.aload_n 0, 1) := by decide +kernel
theorem dX8_from_44 : decode cX8_from 44 = .ok (.getfield 47, 3) := by decide +kernel
theorem dX8_from_47 : decode cX8_from 47 = .ok (.sipush 168, 3) := by decide +kernel
theorem dX8_from_50 : decode cX8_from 50 = .ok (.iload_n 1, 1) := by decide +kernel
theorem dX8_from_51 : decode cX8_from 51 = .ok (.imul, 1) := by decide +kernel
theorem dX8_from_52 : decode cX8_from 52 = .ok (.iload_n 2, 1) := by decide +kernel
theorem dX8_from_53 : decode cX8_from 53 = .ok (.iadd, 1) := by decide +kernel
theorem dX8_from_54 : decode cX8_from 54 = .ok (.iaload, 1) := by decide +kernel
theorem dX8_from_55 : decode cX8_from 55 = .ok (.iastore, 1) := by decide +kernel
theorem dX8_from_56 : decode cX8_from 56 = .ok (.iinc 2 1, 3) := by decide +kernel
theorem dX8_from_59 : decode cX8_from 59 = .ok (.goto (-28), 3) := by decide +kernel
theorem dX8_from_62 : decode cX8_from 62 = .ok (.aload_n 0, 1) := by decide +kernel
theorem dX8_from_63 : decode cX8_from 63 = .ok (.aload_n 0, 1) := by decide +kernel
theorem dX8_from_64 : decode cX8_from 64 = .ok (.getfield 54, 3) := by decide +kernel
theorem dX8_from_67 : decode cX8_from 67 = .ok (.iload_n 1, 1) := by decide +kernel
theorem dX8_from_68 : decode cX8_from 68 = .ok (.iaload, 1) := by decide +kernel
theorem dX8_from_69 : decode cX8_from 69 = .ok (.putfield 94, 3) := by decide +kernel
theorem dX8_from_72 : decode cX8_from 72 = .ok (.iconst 0, 1) := by decide +kernel
theorem dX8_from_73 : decode cX8_from 73 = .ok (.istore_n 2, 1) := by decide +kernel
theorem dX8_from_74 : decode cX8_from 74 = .ok (.iload_n 2, 1) := by decide +kernel
theorem dX8_from_75 : decode cX8_from 75 = .ok (.sipush 480, 3) := by decide +kernel
theorem dX8_from_78 : decode cX8_from 78 = .ok (.if_icmp .ge 27, 3) := by decide +kernel
theorem dX8_from_81 : decode cX8_from 81 = .ok (.aload_n 0, 1) := by decide +kernel
theorem dX8_from_82 : decode cX8_from 82 = .ok (.getfield 20, 3) := by decide +kernel
theorem dX8_from_85 : decode cX8_from 85 = .ok (.iload_n 2, 1) := by decide +kernel
theorem dX8_from_86 : decode cX8_from 86 = .ok (.aload_n 0, 1) := by decide +kernel
theorem dX8_from_87 : decode cX8_from 87 = .ok (.getfield 57, 3) := by decide +kernel
theorem dX8_from_90 : decode cX8_from 90 = .ok (.sipush 480, 3) := by decide +kernel
theorem dX8_from_93 : decode cX8_from 93 = .ok (.iload_n 1, 1) := by decide +kernel
theorem dX8_from_94 : decode cX8_from 94 = .ok (.imul, 1) := by decide +kernel
theorem dX8_from_95 : decode cX8_from 95 = .ok (.iload_n 2, 1) := by decide +kernel
theorem dX8_from_96 : decode cX8_from 96 = .ok (.iadd, 1) := by decide +kernel
theorem dX8_from_97 : decode cX8_from 97 = .ok (.iaload, 1) := by decide +kernel
theorem dX8_from_98 : decode cX8_from 98 = .ok (.iastore, 1) := by decide +kernel
theorem dX8_from_99 : decode cX8_from 99 = .ok (.iinc 2 1, 3) := by decide +kernel
theorem dX8_from_102 : decode cX8_from 102 = .ok (.goto (-28), 3) := by decide +kernel
theorem dX8_from_105 : decode cX8_from 105 = .ok (.iconst 1, 1) := by decide +kernel
theorem dX8_from_106 : decode cX8_from 106 = .ok (.ireturn, 1) := by decide +kernel
theorem dX8_status_0 : decode cX8_status 0 = .ok (.iload_n 1, 1) := by decide +kernel
theorem dX8_status_1 : decode cX8_status 1 = .ok (.i2l, 1) := by decide +kernel
theorem dX8_status_2 : decode cX8_status 2 = .ok (.lconst 0, 1) := by decide +kernel
theorem dX8_status_3 : decode cX8_status 3 = .ok (.ldc2_w 283, 3) := by decide +kernel
theorem dX8_status_6 : decode cX8_status 6 = .ok (.invokestatic 60, 3) := by decide +kernel
theorem dX8_status_9 : decode cX8_status 9 = .ok (.ifCond .eq 10, 3) := by decide +kernel
theorem dX8_status_12 : decode cX8_status 12 = .ok (.aload_n 0, 1) := by decide +kernel
theorem dX8_status_13 : decode cX8_status 13 = .ok (.getfield 13, 3) := by decide +kernel
theorem dX8_status_16 : decode cX8_status 16 = .ok (.iload_n 1, 1) := by decide +kernel
theorem dX8_status_17 : decode cX8_status 17 = .ok (.iaload, 1) := by decide +kernel
theorem dX8_status_18 : decode cX8_status 18 = .ok (.ireturn, 1) := by decide +kernel
theorem dX8_status_19 : decode cX8_status 19 = .ok (.aload_n 0, 1) := by decide +kernel
theorem dX8_status_20 : decode cX8_status 20 = .ok (.getfield 13, 3) := by decide +kernel
theorem dX8_status_23 : decode cX8_status 23 = .ok (.iconst 0, 1) := by decide +kernel
theorem dX8_status_24 : decode cX8_status 24 = .ok (.dup2, 1) := by decide +kernel
theorem dX8_status_25 : decode cX8_status 25 = .ok (.iaload, 1) := by decide +kernel
theorem dX8_status_26 : decode cX8_status 26 = .ok (.iconst 1, 1) := by decide +kernel
theorem dX8_status_27 : decode cX8_status 27 = .ok (.iadd, 1) := by decide +kernel
theorem dX8_status_28 : decode cX8_status 28 = .ok (.iastore, 1) := by decide +kernel
theorem dX8_status_29 : decode cX8_status 29 = .ok (.iconst (-1), 1) := by decide +kernel
theorem dX8_status_30 : decode cX8_status 30 = .ok (.ireturn, 1) := by decide +kernel
theorem dX8_turnedNow_0 : decode cX8_turnedNow 0 = .ok (.iconst 0, 1) := by decide +kernel
theorem dX8_turnedNow_1 : decode cX8_turnedNow 1 = .ok (.istore_n 1, 1) := by decide +kernel
theorem dX8_turnedNow_2 : decode cX8_turnedNow 2 = .ok (.iconst 0, 1) := by decide +kernel
theorem dX8_turnedNow_3 : decode cX8_turnedNow 3 = .ok (.istore_n 2, 1) := by decide +kernel
theorem dX8_turnedNow_4 : decode cX8_turnedNow 4 = .ok (.iload_n 2, 1) := by decide +kernel
theorem dX8_turnedNow_5 : decode cX8_turnedNow 5 = .ok (.aload_n 0, 1) := by decide +kernel
theorem dX8_turnedNow_6 : decode cX8_turnedNow 6 = .ok (.getfield 7, 3) := by decide +kernel
theorem dX8_turnedNow_9 : decode cX8_turnedNow 9 = .ok (.iconst 2, 1) := by decide +kernel
theorem dX8_turnedNow_10 : decode cX8_turnedNow 10 = .ok (.iaload, 1) := by decide +kernel
theorem dX8_turnedNow_11 : decode cX8_turnedNow 11 = .ok (.if_icmp .ge 25, 3) := by decide +kernel
theorem dX8_turnedNow_14 : decode cX8_turnedNow 14 = .ok (.iload_n 1, 1) := by decide +kernel
theorem dX8_turnedNow_15 : decode cX8_turnedNow 15 = .ok (.aload_n 0, 1) := by decide +kernel
theorem dX8_turnedNow_16 : decode cX8_turnedNow 16 = .ok (.iload_n 2, 1) := by decide +kernel
theorem dX8_turnedNow_17 : decode cX8_turnedNow 17 = .ok (.invokevirtual 239, 3) := by decide +kernel
theorem dX8_turnedNow_20 : decode cX8_turnedNow 20 = .ok (.ifCond .eq 7, 3) := by decide +kernel
theorem dX8_turnedNow_23 : decode cX8_turnedNow 23 = .ok (.iconst 1, 1) := by decide +kernel
theorem dX8_turnedNow_24 : decode cX8_turnedNow 24 = .ok (.goto 4, 3) := by decide +kernel
theorem dX8_turnedNow_27 : decode cX8_turnedNow 27 = .ok (.iconst 0, 1) := by decide +kernel
theorem dX8_turnedNow_28 : decode cX8_turnedNow 28 = .ok (.iadd, 1) := by decide +kernel
theorem dX8_turnedNow_29 : decode cX8_turnedNow 29 = .ok (.istore_n 1, 1) := by decide +kernel
theorem dX8_turnedNow_30 : decode cX8_turnedNow 30 = .ok (.iinc 2 1, 3) := by decide +kernel
theorem dX8_turnedNow_33 : decode cX8_turnedNow 33 = .ok (.goto (-29), 3) := by decide +kernel
theorem dX8_turnedNow_36 : decode cX8_turnedNow 36 = .ok (.iload_n 1, 1) := by decide +kernel
theorem dX8_turnedNow_37 : decode cX8_turnedNow 37 = .ok (.ireturn, 1) := by decide +kernel
theorem dX8_countOf_0 : decode cX8_countOf 0 = .ok (.iload_n 1, 1) := by decide +kernel
theorem dX8_countOf_1 : decode cX8_countOf 1 = .ok (.tableswitch 132 0 10 #[59, 66, 73, 80, 87, 94, 99, 104, 111, 119, 127], 59) := by decide +kernel
theorem dX8_countOf_60 : decode cX8_countOf 60 = .ok (.aload_n 0, 1) := by decide +kernel
theorem dX8_countOf_61 : decode cX8_countOf 61 = .ok (.getfield 7, 3) := by decide +kernel
theorem dX8_countOf_64 : decode cX8_countOf 64 = .ok (.iconst 0, 1) := by decide +kernel
theorem dX8_countOf_65 : decode cX8_countOf 65 = .ok (.iaload, 1) := by decide +kernel
theorem dX8_countOf_66 : decode cX8_countOf 66 = .ok (.ireturn, 1) := by decide +kernel
theorem dX8_countOf_67 : decode cX8_countOf 67 = .ok (.aload_n 0, 1) := by decide +kernel
theorem dX8_countOf_68 : decode cX8_countOf 68 = .ok (.getfield 7, 3) := by decide +kernel
theorem dX8_countOf_71 : decode cX8_countOf 71 = .ok (.iconst 1, 1) := by decide +kernel
theorem dX8_countOf_72 : decode cX8_countOf 72 = .ok (.iaload, 1) := by decide +kernel
theorem dX8_countOf_73 : decode cX8_countOf 73 = .ok (.ireturn, 1) := by decide +kernel
theorem dX8_countOf_74 : decode cX8_countOf 74 = .ok (.aload_n 0, 1) := by decide +kernel
theorem dX8_countOf_75 : decode cX8_countOf 75 = .ok (.getfield 7, 3) := by decide +kernel
theorem dX8_countOf_78 : decode cX8_countOf 78 = .ok (.iconst 2, 1) := by decide +kernel
theorem dX8_countOf_79 : decode cX8_countOf 79 = .ok (.iaload, 1) := by decide +kernel
theorem dX8_countOf_80 : decode cX8_countOf 80 = .ok (.ireturn, 1) := by decide +kernel
theorem dX8_countOf_81 : decode cX8_countOf 81 = .ok (.aload_n 0, 1) := by decide +kernel
theorem dX8_countOf_82 : decode cX8_countOf 82 = .ok (.getfield 7, 3) := by decide +kernel
theorem dX8_countOf_85 : decode cX8_countOf 85 = .ok (.iconst 3, 1) := by decide +kernel
theorem dX8_countOf_86 : decode cX8_countOf 86 = .ok (.iaload, 1) := by decide +kernel
theorem dX8_countOf_87 : decode cX8_countOf 87 = .ok (.ireturn, 1) := by decide +kernel
theorem dX8_countOf_88 : decode cX8_countOf 88 = .ok (.aload_n 0, 1) := by decide +kernel
theorem dX8_countOf_89 : decode cX8_countOf 89 = .ok (.getfield 7, 3) := by decide +kernel
theorem dX8_countOf_92 : decode cX8_countOf 92 = .ok (.iconst 4, 1) := by decide +kernel
theorem dX8_countOf_93 : decode cX8_countOf 93 = .ok (.iaload, 1) := by decide +kernel
theorem dX8_countOf_94 : decode cX8_countOf 94 = .ok (.ireturn, 1) := by decide +kernel
theorem dX8_countOf_95 : decode cX8_countOf 95 = .ok (.aload_n 0, 1) := by decide +kernel
theorem dX8_countOf_96 : decode cX8_countOf 96 = .ok (.invokevirtual 214, 3) := by decide +kernel
theorem dX8_countOf_99 : decode cX8_countOf 99 = .ok (.ireturn, 1) := by decide +kernel
theorem dX8_countOf_100 : decode cX8_countOf 100 = .ok (.aload_n 0, 1) := by decide +kernel
theorem dX8_countOf_101 : decode cX8_countOf 101 = .ok (.invokevirtual 319, 3) := by decide +kernel
theorem dX8_countOf_104 : decode cX8_countOf 104 = .ok (.ireturn, 1) := by decide +kernel
theorem dX8_countOf_105 : decode cX8_countOf 105 = .ok (.aload_n 0, 1) := by decide +kernel
theorem dX8_countOf_106 : decode cX8_countOf 106 = .ok (.getfield 7, 3) := by decide +kernel
theorem dX8_countOf_109 : decode cX8_countOf 109 = .ok (.iconst 5, 1) := by decide +kernel
theorem dX8_countOf_110 : decode cX8_countOf 110 = .ok (.iaload, 1) := by decide +kernel
theorem dX8_countOf_111 : decode cX8_countOf 111 = .ok (.ireturn, 1) := by decide +kernel
theorem dX8_countOf_112 : decode cX8_countOf 112 = .ok (.aload_n 0, 1) := by decide +kernel
theorem dX8_countOf_113 : decode cX8_countOf 113 = .ok (.getfield 7, 3) := by decide +kernel
theorem dX8_countOf_116 : decode cX8_countOf 116 = .ok (.bipush 6, 2) := by decide +kernel
theorem dX8_countOf_118 : decode cX8_countOf 118 = .ok (.iaload, 1) := by decide +kernel
theorem dX8_countOf_119 : decode cX8_countOf 119 = .ok (.ireturn, 1) := by decide +kernel
theorem dX8_countOf_120 : decode cX8_countOf 120 = .ok (.aload_n 0, 1) := by decide +kernel
theorem dX8_countOf_121 : decode cX8_countOf 121 = .ok (.getfield 7, 3) := by decide +kernel
theorem dX8_countOf_124 : decode cX8_countOf 124 = .ok (.bipush 7, 2) := by decide +kernel
theorem dX8_countOf_126 : decode cX8_countOf 126 = .ok (.iaload, 1) := by decide +kernel
theorem dX8_countOf_127 : decode cX8_countOf 127 = .ok (.ireturn, 1) := by decide +kernel
theorem dX8_countOf_128 : decode cX8_countOf 128 = .ok (.aload_n 0, 1) := by decide +kernel
theorem dX8_countOf_129 : decode cX8_countOf 129 = .ok (.getfield 94, 3) := by decide +kernel
theorem dX8_countOf_132 : decode cX8_countOf 132 = .ok (.ireturn, 1) := by decide +kernel
theorem dX8_countOf_133 : decode cX8_countOf 133 = .ok (.aload_n 0, 1) := by decide +kernel
theorem dX8_countOf_134 : decode cX8_countOf 134 = .ok (.getfield 128, 3) := by decide +kernel
theorem dX8_countOf_137 : decode cX8_countOf 137 = .ok (.ireturn, 1) := by decide +kernel
theorem dX8_count_0 : decode cX8_count 0 = .ok (.iload_n 1, 1) := by decide +kernel
theorem dX8_count_1 : decode cX8_count 1 = .ok (.i2l, 1) := by decide +kernel
theorem dX8_count_2 : decode cX8_count 2 = .ok (.lconst 0, 1) := by decide +kernel
theorem dX8_count_3 : decode cX8_count 3 = .ok (.ldc2_w 322, 3) := by decide +kernel
theorem dX8_count_6 : decode cX8_count 6 = .ok (.invokestatic 60, 3) := by decide +kernel
theorem dX8_count_9 : decode cX8_count 9 = .ok (.ifCond .eq 11, 3) := by decide +kernel
theorem dX8_count_12 : decode cX8_count 12 = .ok (.aload_n 0, 1) := by decide +kernel
theorem dX8_count_13 : decode cX8_count 13 = .ok (.iload_n 1, 1) := by decide +kernel
theorem dX8_count_14 : decode cX8_count 14 = .ok (.invokevirtual 324, 3) := by decide +kernel
theorem dX8_count_17 : decode cX8_count 17 = .ok (.goto 7, 3) := by decide +kernel
theorem dX8_count_20 : decode cX8_count 20 = .ok (.aload_n 0, 1) := by decide +kernel
theorem dX8_count_21 : decode cX8_count 21 = .ok (.invokevirtual 103, 3) := by decide +kernel
theorem dX8_count_24 : decode cX8_count 24 = .ok (.ireturn, 1) := by decide +kernel
theorem dX8_add_0 : decode cX8_add 0 = .ok (.iconst 0, 1) := by decide +kernel
theorem dX8_add_1 : decode cX8_add 1 = .ok (.istore_n 3, 1) := by decide +kernel
theorem dX8_add_2 : decode cX8_add 2 = .ok (.iload_n 3, 1) := by decide +kernel
theorem dX8_add_3 : decode cX8_add 3 = .ok (.iload_n 2, 1) := by decide +kernel
theorem dX8_add_4 : decode cX8_add 4 = .ok (.if_icmp .ge 31, 3) := by decide +kernel
theorem dX8_add_7 : decode cX8_add 7 = .ok (.aload_n 0, 1) := by decide +kernel
theorem dX8_add_8 : decode cX8_add 8 = .ok (.ldc2_w 327, 3) := by decide +kernel
theorem dX8_add_11 : decode cX8_add 11 = .ok (.aload_n 0, 1) := by decide +kernel
theorem dX8_add_12 : decode cX8_add 12 = .ok (.getfield 329, 3) := by decide +kernel
theorem dX8_add_15 : decode cX8_add 15 = .ok (.lmul, 1) := by decide +kernel
theorem dX8_add_16 : decode cX8_add 16 = .ok (.aload_n 0, 1) := by decide +kernel
theorem dX8_add_17 : decode cX8_add 17 = .ok (.getfield 7, 3) := by decide +kernel
theorem dX8_add_20 : decode cX8_add 20 = .ok (.iload_n 1, 1) := by decide +kernel
theorem dX8_add_21 : decode cX8_add 21 = .ok (.iload_n 3, 1) := by decide +kernel
theorem dX8_add_22 : decode cX8_add 22 = .ok (.iadd, 1) := by decide +kernel
theorem dX8_add_23 : decode cX8_add 23 = .ok (.iaload, 1) := by decide +kernel
theorem dX8_add_24 : decode cX8_add 24 = .ok (.i2l, 1) := by decide +kernel
theorem dX8_add_25 : decode cX8_add 25 = .ok (.ladd, 1) := by decide +kernel
theorem dX8_add_26 : decode cX8_add 26 = .ok (.putfield 329, 3) := by decide +kernel
theorem dX8_add_29 : decode cX8_add 29 = .ok (.iinc 3 1, 3) := by decide +kernel
theorem dX8_add_32 : decode cX8_add 32 = .ok (.goto (-30), 3) := by decide +kernel
theorem dX8_add_35 : decode cX8_add 35 = .ok (.return_, 1) := by decide +kernel
theorem dX8_digest_0 : decode cX8_digest 0 = .ok (.aload_n 0, 1) := by decide +kernel
theorem dX8_digest_1 : decode cX8_digest 1 = .ok (.ldc2_w 332, 3) := by decide +kernel
theorem dX8_digest_4 : decode cX8_digest 4 = .ok (.putfield 329, 3) := by decide +kernel
theorem dX8_digest_7 : decode cX8_digest 7 = .ok (.iconst 0, 1) := by decide +kernel
theorem dX8_digest_8 : decode cX8_digest 8 = .ok (.istore_n 1, 1) := by decide +kernel
theorem dX8_digest_9 : decode cX8_digest 9 = .ok (.iload_n 1, 1) := by decide +kernel
theorem dX8_digest_10 : decode cX8_digest 10 = .ok (.bipush 12, 2) := by decide +kernel
theorem dX8_digest_12 : decode cX8_digest 12 = .ok (.if_icmp .ge 28, 3) := by decide +kernel
theorem dX8_digest_15 : decode cX8_digest 15 = .ok (.aload_n 0, 1) := by decide +kernel
theorem dX8_digest_16 : decode cX8_digest 16 = .ok (.ldc2_w 327, 3) := by decide +kernel
theorem dX8_digest_19 : decode cX8_digest 19 = .ok (.aload_n 0, 1) := by decide +kernel
theorem dX8_digest_20 : decode cX8_digest 20 = .ok (.getfield 329, 3) := by decide +kernel
theorem dX8_digest_23 : decode cX8_digest 23 = .ok (.lmul, 1) := by decide +kernel
theorem dX8_digest_24 : decode cX8_digest 24 = .ok (.aload_n 0, 1) := by decide +kernel
theorem dX8_digest_25 : decode cX8_digest 25 = .ok (.iload_n 1, 1) := by decide +kernel
theorem dX8_digest_26 : decode cX8_digest 26 = .ok (.invokevirtual 324, 3) := by decide +kernel
theorem dX8_digest_29 : decode cX8_digest 29 = .ok (.i2l, 1) := by decide +kernel
theorem dX8_digest_30 : decode cX8_digest 30 = .ok (.ladd, 1) := by decide +kernel
theorem dX8_digest_31 : decode cX8_digest 31 = .ok (.putfield 329, 3) := by decide +kernel
theorem dX8_digest_34 : decode cX8_digest 34 = .ok (.iinc 1 1, 3) := by decide +kernel
theorem dX8_digest_37 : decode cX8_digest 37 = .ok (.goto (-28), 3) := by decide +kernel
theorem dX8_digest_40 : decode cX8_digest 40 = .ok (.iconst 0, 1) := by decide +kernel
theorem dX8_digest_41 : decode cX8_digest 41 = .ok (.istore_n 1, 1) := by decide +kernel
theorem dX8_digest_42 : decode cX8_digest 42 = .ok (.iload_n 1, 1) := by decide +kernel
theorem dX8_digest_43 : decode cX8_digest 43 = .ok (.aload_n 0, 1) := by decide +kernel
theorem dX8_digest_44 : decode cX8_digest 44 = .ok (.getfield 7, 3) := by decide +kernel
theorem dX8_digest_47 : decode cX8_digest 47 = .ok (.iconst 0, 1) := by decide +kernel
theorem dX8_digest_48 : decode cX8_digest 48 = .ok (.iaload, 1) := by decide +kernel
theorem dX8_digest_49 : decode cX8_digest 49 = .ok (.if_icmp .ge 42, 3) := by decide +kernel
theorem dX8_digest_52 : decode cX8_digest 52 = .ok (.aload_n 0, 1) := by decide +kernel
theorem dX8_digest_53 : decode cX8_digest 53 = .ok (.bipush 8, 2) := by decide +kernel
theorem dX8_digest_55 : decode cX8_digest 55 = .ok (.iload_n 1, 1) := by decide +kernel
theorem dX8_digest_56 : decode cX8_digest 56 = .ok (.iadd, 1) := by decide +kernel
theorem dX8_digest_57 : decode cX8_digest 57 = .ok (.iconst 1, 1) := by decide +kernel
theorem dX8_digest_58 : decode cX8_digest 58 = .ok (.invokevirtual 334, 3) := by decide +kernel
theorem dX8_digest_61 : decode cX8_digest 61 = .ok (.aload_n 0, 1) := by decide +kernel
theorem dX8_digest_62 : decode cX8_digest 62 = .ok (.bipush 13, 2) := by decide +kernel
theorem dX8_digest_64 : decode cX8_digest 64 = .ok (.iload_n 1, 1) := by decide +kernel
theorem dX8_digest_65 : decode cX8_digest 65 = .ok (.iadd, 1) := by decide +kernel
theorem dX8_digest_66 : decode cX8_digest 66 = .ok (.iconst 1, 1) := by decide +kernel
theorem dX8_digest_67 : decode cX8_digest 67 = .ok (.invokevirtual 334, 3) := by decide +kernel
theorem dX8_digest_70 : decode cX8_digest 70 = .ok (.aload_n 0, 1) := by decide +kernel
theorem dX8_digest_71 : decode cX8_digest 71 = .ok (.bipush 18, 2) := by decide +kernel
theorem dX8_digest_73 : decode cX8_digest 73 = .ok (.bipush 10, 2) := by decide +kernel
theorem dX8_digest_75 : decode cX8_digest 75 = .ok (.iload_n 1, 1) := by decide +kernel
theorem dX8_digest_76 : decode cX8_digest 76 = .ok (.imul, 1) := by decide +kernel
theorem dX8_digest_77 : decode cX8_digest 77 = .ok (.iadd, 1) := by decide +kernel
theorem dX8_digest_78 : decode cX8_digest 78 = .ok (.iconst 1, 1) := by decide +kernel
theorem dX8_digest_79 : decode cX8_digest 79 = .ok (.iadd, 1) := by decide +kernel
theorem dX8_digest_80 : decode cX8_digest 80 = .ok (.bipush 9, 2) := by decide +kernel
theorem dX8_digest_82 : decode cX8_digest 82 = .ok (.invokevirtual 334, 3) := by decide +kernel
theorem dX8_digest_85 : decode cX8_digest 85 = .ok (.iinc 1 1, 3) := by decide +kernel
theorem dX8_digest_88 : decode cX8_digest 88 = .ok (.goto (-46), 3) := by decide +kernel
theorem dX8_digest_91 : decode cX8_digest 91 = .ok (.iconst 0, 1) := by decide +kernel
theorem dX8_digest_92 : decode cX8_digest 92 = .ok (.istore_n 1, 1) := by decide +kernel
theorem dX8_digest_93 : decode cX8_digest 93 = .ok (.iload_n 1, 1) := by decide +kernel
theorem dX8_digest_94 : decode cX8_digest 94 = .ok (.aload_n 0, 1) := by decide +kernel
theorem dX8_digest_95 : decode cX8_digest 95 = .ok (.getfield 7, 3) := by decide +kernel
theorem dX8_digest_98 : decode cX8_digest 98 = .ok (.iconst 1, 1) := by decide +kernel
theorem dX8_digest_99 : decode cX8_digest 99 = .ok (.iaload, 1) := by decide +kernel
theorem dX8_digest_100 : decode cX8_digest 100 = .ok (.if_icmp .ge 27, 3) := by decide +kernel
theorem dX8_digest_103 : decode cX8_digest 103 = .ok (.aload_n 0, 1) := by decide +kernel
theorem dX8_digest_104 : decode cX8_digest 104 = .ok (.bipush 68, 2) := by decide +kernel
theorem dX8_digest_106 : decode cX8_digest 106 = .ok (.iload_n 1, 1) := by decide +kernel
theorem dX8_digest_107 : decode cX8_digest 107 = .ok (.iadd, 1) := by decide +kernel
theorem dX8_digest_108 : decode cX8_digest 108 = .ok (.iconst 1, 1) := by decide +kernel
theorem dX8_digest_109 : decode cX8_digest 109 = .ok (.invokevirtual 334, 3) := by decide +kernel
theorem dX8_digest_112 : decode cX8_digest 112 = .ok (.aload_n 0, 1) := by decide +kernel
theorem dX8_digest_113 : decode cX8_digest 113 = .ok (.bipush 74, 2) := by decide +kernel
theorem dX8_digest_115 : decode cX8_digest 115 = .ok (.iload_n 1, 1) := by decide +kernel
theorem dX8_digest_116 : decode cX8_digest 116 = .ok (.iadd, 1) := by decide +kernel
theorem dX8_digest_117 : decode cX8_digest 117 = .ok (.iconst 1, 1) := by decide +kernel
theorem dX8_digest_118 : decode cX8_digest 118 = .ok (.invokevirtual 334, 3) := by decide +kernel
theorem dX8_digest_121 : decode cX8_digest 121 = .ok (.iinc 1 1, 3) := by decide +kernel
theorem dX8_digest_124 : decode cX8_digest 124 = .ok (.goto (-31), 3) := by decide +kernel
theorem dX8_digest_127 : decode cX8_digest 127 = .ok (.iconst 0, 1) := by decide +kernel
theorem dX8_digest_128 : decode cX8_digest 128 = .ok (.istore_n 1, 1) := by decide +kernel
theorem dX8_digest_129 : decode cX8_digest 129 = .ok (.iload_n 1, 1) := by decide +kernel
theorem dX8_digest_130 : decode cX8_digest 130 = .ok (.aload_n 0, 1) := by decide +kernel
theorem dX8_digest_131 : decode cX8_digest 131 = .ok (.getfield 7, 3) := by decide +kernel
theorem dX8_digest_134 : decode cX8_digest 134 = .ok (.iconst 2, 1) := by decide +kernel
theorem dX8_digest_135 : decode cX8_digest 135 = .ok (.iaload, 1) := by decide +kernel
theorem dX8_digest_136 : decode cX8_digest 136 = .ok (.if_icmp .ge 36, 3) := by decide +kernel
theorem dX8_digest_139 : decode cX8_digest 139 = .ok (.aload_n 0, 1) := by decide +kernel
theorem dX8_digest_140 : decode cX8_digest 140 = .ok (.bipush 80, 2) := by decide +kernel
theorem dX8_digest_142 : decode cX8_digest 142 = .ok (.iload_n 1, 1) := by decide +kernel
theorem dX8_digest_143 : decode cX8_digest 143 = .ok (.iadd, 1) := by decide +kernel
theorem dX8_digest_144 : decode cX8_digest 144 = .ok (.iconst 1, 1) := by decide +kernel
theorem dX8_digest_145 : decode cX8_digest 145 = .ok (.invokevirtual 334, 3) := by decide +kernel
theorem dX8_digest_148 : decode cX8_digest 148 = .ok (.aload_n 0, 1) := by decide +kernel
theorem dX8_digest_149 : decode cX8_digest 149 = .ok (.bipush 84, 2) := by decide +kernel
theorem dX8_digest_151 : decode cX8_digest 151 = .ok (.iload_n 1, 1) := by decide +kernel
theorem dX8_digest_152 : decode cX8_digest 152 = .ok (.iadd, 1) := by decide +kernel
theorem dX8_digest_153 : decode cX8_digest 153 = .ok (.iconst 1, 1) := by decide +kernel
theorem dX8_digest_154 : decode cX8_digest 154 = .ok (.invokevirtual 334, 3) := by decide +kernel
theorem dX8_digest_157 : decode cX8_digest 157 = .ok (.aload_n 0, 1) := by decide +kernel
theorem dX8_digest_158 : decode cX8_digest 158 = .ok (.bipush 88, 2) := by decide +kernel
theorem dX8_digest_160 : decode cX8_digest 160 = .ok (.iload_n 1, 1) := by decide +kernel
theorem dX8_digest_161 : decode cX8_digest 161 = .ok (.iadd, 1) := by decide +kernel
theorem dX8_digest_162 : decode cX8_digest 162 = .ok (.iconst 1, 1) := by decide +kernel
theorem dX8_digest_163 : decode cX8_digest 163 = .ok (.invokevirtual 334, 3) := by decide +kernel
theorem dX8_digest_166 : decode cX8_digest 166 = .ok (.iinc 1 1, 3) := by decide +kernel
theorem dX8_digest_169 : decode cX8_digest 169 = .ok (.goto (-40), 3) := by decide +kernel
theorem dX8_digest_172 : decode cX8_digest 172 = .ok (.aload_n 0, 1) := by decide +kernel
theorem dX8_digest_173 : decode cX8_digest 173 = .ok (.bipush 92, 2) := by decide +kernel
theorem dX8_digest_175 : decode cX8_digest 175 = .ok (.iconst 4, 1) := by decide +kernel
theorem dX8_digest_176 : decode cX8_digest 176 = .ok (.aload_n 0, 1) := by decide +kernel
theorem dX8_digest_177 : decode cX8_digest 177 = .ok (.getfield 7, 3) := by decide +kernel
theorem dX8_digest_180 : decode cX8_digest 180 = .ok (.iconst 5, 1) := by decide +kernel
theorem dX8_digest_181 : decode cX8_digest 181 = .ok (.iaload, 1) := by decide +kernel
theorem dX8_digest_182 : decode cX8_digest 182 = .ok (.imul, 1) := by decide +kernel
theorem dX8_digest_183 : decode cX8_digest 183 = .ok (.invokevirtual 334, 3) := by decide +kernel
theorem dX8_digest_186 : decode cX8_digest 186 = .ok (.aload_n 0, 1) := by decide +kernel
theorem dX8_digest_187 : decode cX8_digest 187 = .ok (.bipush 108, 2) := by decide +kernel
theorem dX8_digest_189 : decode cX8_digest 189 = .ok (.iconst 5, 1) := by decide +kernel
theorem dX8_digest_190 : decode cX8_digest 190 = .ok (.aload_n 0, 1) := by decide +kernel
theorem dX8_digest_191 : decode cX8_digest 191 = .ok (.getfield 7, 3) := by decide +kernel
theorem dX8_digest_194 : decode cX8_digest 194 = .ok (.bipush 6, 2) := by decide +kernel
theorem dX8_digest_196 : decode cX8_digest 196 = .ok (.iaload, 1) := by decide +kernel
theorem dX8_digest_197 : decode cX8_digest 197 = .ok (.imul, 1) := by decide +kernel
theorem dX8_digest_198 : decode cX8_digest 198 = .ok (.invokevirtual 334, 3) := by decide +kernel
theorem dX8_digest_201 : decode cX8_digest 201 = .ok (.aload_n 0, 1) := by decide +kernel
theorem dX8_digest_202 : decode cX8_digest 202 = .ok (.sipush 138, 3) := by decide +kernel
theorem dX8_digest_205 : decode cX8_digest 205 = .ok (.iconst 5, 1) := by decide +kernel
theorem dX8_digest_206 : decode cX8_digest 206 = .ok (.aload_n 0, 1) := by decide +kernel
theorem dX8_digest_207 : decode cX8_digest 207 = .ok (.getfield 7, 3) := by decide +kernel
theorem dX8_digest_210 : decode cX8_digest 210 = .ok (.bipush 7, 2) := by decide +kernel
theorem dX8_digest_212 : decode cX8_digest 212 = .ok (.iaload, 1) := by decide +kernel
theorem dX8_digest_213 : decode cX8_digest 213 = .ok (.imul, 1) := by decide +kernel
theorem dX8_digest_214 : decode cX8_digest 214 = .ok (.invokevirtual 334, 3) := by decide +kernel
theorem dX8_digest_217 : decode cX8_digest 217 = .ok (.ldc2_w 327, 3) := by decide +kernel
theorem dX8_digest_220 : decode cX8_digest 220 = .ok (.ldc2_w 327, 3) := by decide +kernel
theorem dX8_digest_223 : decode cX8_digest 223 = .ok (.aload_n 0, 1) := by decide +kernel
theorem dX8_digest_224 : decode cX8_digest 224 = .ok (.getfield 329, 3) := by decide +kernel
theorem dX8_digest_227 : decode cX8_digest 227 = .ok (.lmul, 1) := by decide +kernel
theorem dX8_digest_228 : decode cX8_digest 228 = .ok (.aload_n 0, 1) := by decide +kernel
theorem dX8_digest_229 : decode cX8_digest 229 = .ok (.getfield 303, 3) := by decide +kernel
theorem dX8_digest_232 : decode cX8_digest 232 = .ok (.ladd, 1) := by decide +kernel
theorem dX8_digest_233 : decode cX8_digest 233 = .ok (.lmul, 1) := by decide +kernel
theorem dX8_digest_234 : decode cX8_digest 234 = .ok (.aload_n 0, 1) := by decide +kernel
theorem dX8_digest_235 : decode cX8_digest 235 = .ok (.getfield 16, 3) := by decide +kernel
theorem dX8_digest_238 : decode cX8_digest 238 = .ok (.ladd, 1) := by decide +kernel
theorem dX8_digest_239 : decode cX8_digest 239 = .ok (.lreturn, 1) := by decide +kernel
theorem dJ9_max_7cf53_0 : decode cJ9_max_7cf53 0 = .ok (.iload_n 0, 1) := by decide +kernel
theorem dJ9_max_7cf53_1 : decode cJ9_max_7cf53 1 = .ok (.iload_n 1, 1) := by decide +kernel
theorem dJ9_max_7cf53_2 : decode cJ9_max_7cf53 2 = .ok (.if_icmp .lt 7, 3) := by decide +kernel
theorem dJ9_max_7cf53_5 : decode cJ9_max_7cf53 5 = .ok (.iload_n 0, 1) := by decide +kernel
theorem dJ9_max_7cf53_6 : decode cJ9_max_7cf53 6 = .ok (.goto 4, 3) := by decide +kernel
theorem dJ9_max_7cf53_9 : decode cJ9_max_7cf53 9 = .ok (.iload_n 1, 1) := by decide +kernel
theorem dJ9_max_7cf53_10 : decode cJ9_max_7cf53 10 = .ok (.ireturn, 1) := by decide +kernel
theorem dJ9_min_7cf53_0 : decode cJ9_min_7cf53 0 = .ok (.iload_n 0, 1) := by decide +kernel
theorem dJ9_min_7cf53_1 : decode cJ9_min_7cf53 1 = .ok (.iload_n 1, 1) := by decide +kernel
theorem dJ9_min_7cf53_2 : decode cJ9_min_7cf53 2 = .ok (.if_icmp .gt 7, 3) := by decide +kernel
theorem dJ9_min_7cf53_5 : decode cJ9_min_7cf53 5 = .ok (.iload_n 0, 1) := by decide +kernel
theorem dJ9_min_7cf53_6 : decode cJ9_min_7cf53 6 = .ok (.goto 4, 3) := by decide +kernel
theorem dJ9_min_7cf53_9 : decode cJ9_min_7cf53 9 = .ok (.iload_n 1, 1) := by decide +kernel
theorem dJ9_min_7cf53_10 : decode cJ9_min_7cf53 10 = .ok (.ireturn, 1) := by decide +kernel
theorem dJ0_length_8abf5_0 : decode cJ0_length_8abf5 0 = .ok (.aload_n 0, 1) := by decide +kernel
theorem dJ0_length_8abf5_1 : decode cJ0_length_8abf5 1 = .ok (.getfield 9, 3) := by decide +kernel
theorem dJ0_length_8abf5_4 : decode cJ0_length_8abf5 4 = .ok (.arraylength, 1) := by decide +kernel
theorem dJ0_length_8abf5_5 : decode cJ0_length_8abf5 5 = .ok (.aload_n 0, 1) := by decide +kernel
theorem dJ0_length_8abf5_6 : decode cJ0_length_8abf5 6 = .ok (.invokevirtual 335, 3) := by decide +kernel
theorem dJ0_length_8abf5_9 : decode cJ0_length_8abf5 9 = .ok (.ishr, 1) := by decide +kernel
theorem dJ0_length_8abf5_10 : decode cJ0_length_8abf5 10 = .ok (.ireturn, 1) := by decide +kernel
theorem dJ0_charAt_5068e_0 : decode cJ0_charAt_5068e 0 = .ok (.aload_n 0, 1) := by decide +kernel
theorem dJ0_charAt_5068e_1 : decode cJ0_charAt_5068e 1 = .ok (.invokevirtual 492, 3) := by decide +kernel
theorem dJ0_charAt_5068e_4 : decode cJ0_charAt_5068e 4 = .ok (.ifCond .eq 12, 3) := by decide +kernel
theorem dJ0_charAt_5068e_7 : decode cJ0_charAt_5068e 7 = .ok (.aload_n 0, 1) := by decide +kernel
theorem dJ0_charAt_5068e_8 : decode cJ0_charAt_5068e 8 = .ok (.getfield 9, 3) := by decide +kernel
theorem dJ0_charAt_5068e_11 : decode cJ0_charAt_5068e 11 = .ok (.iload_n 1, 1) := by decide +kernel
theorem dJ0_charAt_5068e_12 : decode cJ0_charAt_5068e 12 = .ok (.invokestatic 495, 3) := by decide +kernel
theorem dJ0_charAt_5068e_15 : decode cJ0_charAt_5068e 15 = .ok (.ireturn, 1) := by decide +kernel
theorem dJ0_charAt_5068e_16 : decode cJ0_charAt_5068e 16 = .ok (.aload_n 0, 1) := by decide +kernel
theorem dJ0_charAt_5068e_17 : decode cJ0_charAt_5068e 17 = .ok (.getfield 9, 3) := by decide +kernel
theorem dJ0_charAt_5068e_20 : decode cJ0_charAt_5068e 20 = .ok (.iload_n 1, 1) := by decide +kernel
theorem dJ0_charAt_5068e_21 : decode cJ0_charAt_5068e 21 = .ok (.invokestatic 498, 3) := by decide +kernel
theorem dJ0_charAt_5068e_24 : decode cJ0_charAt_5068e 24 = .ok (.ireturn, 1) := by decide +kernel
theorem dJ0_coder_7d493_0 : decode cJ0_coder_7d493 0 = .ok (.getstatic 38, 3) := by decide +kernel
theorem dJ0_coder_7d493_3 : decode cJ0_coder_7d493 3 = .ok (.ifCond .eq 10, 3) := by decide +kernel
theorem dJ0_coder_7d493_6 : decode cJ0_coder_7d493 6 = .ok (.aload_n 0, 1) := by decide +kernel
theorem dJ0_coder_7d493_7 : decode cJ0_coder_7d493 7 = .ok (.getfield 15, 3) := by decide +kernel
theorem dJ0_coder_7d493_10 : decode cJ0_coder_7d493 10 = .ok (.goto 4, 3) := by decide +kernel
theorem dJ0_coder_7d493_13 : decode cJ0_coder_7d493 13 = .ok (.iconst 1, 1) := by decide +kernel
theorem dJ0_coder_7d493_14 : decode cJ0_coder_7d493 14 = .ok (.ireturn, 1) := by decide +kernel
theorem dJ0_isLatin1_aae02_0 : decode cJ0_isLatin1_aae02 0 = .ok (.getstatic 38, 3) := by decide +kernel
theorem dJ0_isLatin1_aae02_3 : decode cJ0_isLatin1_aae02 3 = .ok (.ifCond .eq 14, 3) := by decide +kernel
theorem dJ0_isLatin1_aae02_6 : decode cJ0_isLatin1_aae02 6 = .ok (.aload_n 0, 1) := by decide +kernel
theorem dJ0_isLatin1_aae02_7 : decode cJ0_isLatin1_aae02 7 = .ok (.getfield 15, 3) := by decide +kernel
theorem dJ0_isLatin1_aae02_10 : decode cJ0_isLatin1_aae02 10 = .ok (.ifCond .ne 7, 3) := by decide +kernel
theorem dJ0_isLatin1_aae02_13 : decode cJ0_isLatin1_aae02 13 = .ok (.iconst 1, 1) := by decide +kernel
theorem dJ0_isLatin1_aae02_14 : decode cJ0_isLatin1_aae02 14 = .ok (.goto 4, 3) := by decide +kernel
theorem dJ0_isLatin1_aae02_17 : decode cJ0_isLatin1_aae02 17 = .ok (.iconst 0, 1) := by decide +kernel
theorem dJ0_isLatin1_aae02_18 : decode cJ0_isLatin1_aae02 18 = .ok (.ireturn, 1) := by decide +kernel
theorem dJ0_checkIndex_df160_0 : decode cJ0_checkIndex_df160 0 = .ok (.iload_n 0, 1) := by decide +kernel
theorem dJ0_checkIndex_df160_1 : decode cJ0_checkIndex_df160 1 = .ok (.iload_n 1, 1) := by decide +kernel
theorem dJ0_checkIndex_df160_2 : decode cJ0_checkIndex_df160 2 = .ok (.getstatic 1053, 3) := by decide +kernel
theorem dJ0_checkIndex_df160_5 : decode cJ0_checkIndex_df160 5 = .ok (.invokestatic 1059, 3) := by decide +kernel
theorem dJ0_checkIndex_df160_8 : decode cJ0_checkIndex_df160 8 = .ok (.pop, 1) := by decide +kernel
theorem dJ0_checkIndex_df160_9 : decode cJ0_checkIndex_df160 9 = .ok (.return_, 1) := by decide +kernel
theorem dJ1_charAt_3b067_0 : decode cJ1_charAt_3b067 0 = .ok (.iload_n 1, 1) := by decide +kernel
theorem dJ1_charAt_3b067_1 : decode cJ1_charAt_3b067 1 = .ok (.aload_n 0, 1) := by decide +kernel
theorem dJ1_charAt_3b067_2 : decode cJ1_charAt_3b067 2 = .ok (.arraylength, 1) := by decide +kernel
theorem dJ1_charAt_3b067_3 : decode cJ1_charAt_3b067 3 = .ok (.invokestatic 9, 3) := by decide +kernel
theorem dJ1_charAt_3b067_6 : decode cJ1_charAt_3b067 6 = .ok (.aload_n 0, 1) := by decide +kernel
theorem dJ1_charAt_3b067_7 : decode cJ1_charAt_3b067 7 = .ok (.iload_n 1, 1) := by decide +kernel
theorem dJ1_charAt_3b067_8 : decode cJ1_charAt_3b067 8 = .ok (.baload, 1) := by decide +kernel
theorem dJ1_charAt_3b067_9 : decode cJ1_charAt_3b067 9 = .ok (.sipush 255, 3) := by decide +kernel
theorem dJ1_charAt_3b067_12 : decode cJ1_charAt_3b067 12 = .ok (.iand, 1) := by decide +kernel
theorem dJ1_charAt_3b067_13 : decode cJ1_charAt_3b067 13 = .ok (.i2c, 1) := by decide +kernel
theorem dJ1_charAt_3b067_14 : decode cJ1_charAt_3b067 14 = .ok (.ireturn, 1) := by decide +kernel
theorem dJ2_getChar_3b067_0 : decode cJ2_getChar_3b067 0 = .ok (.getstatic 44, 3) := by decide +kernel
theorem dJ2_getChar_3b067_3 : decode cJ2_getChar_3b067 3 = .ok (.ifCond .ne 25, 3) := by decide +kernel
theorem dJ2_getChar_3b067_6 : decode cJ2_getChar_3b067 6 = .ok (.iload_n 1, 1) := by decide +kernel
theorem dJ2_getChar_3b067_7 : decode cJ2_getChar_3b067 7 = .ok (.ifCond .lt 11, 3) := by decide +kernel
theorem dJ2_getChar_3b067_10 : decode cJ2_getChar_3b067 10 = .ok (.iload_n 1, 1) := by decide +kernel
theorem dJ2_getChar_3b067_11 : decode cJ2_getChar_3b067 11 = .ok (.aload_n 0, 1) := by decide +kernel
theorem dJ2_getChar_3b067_12 : decode cJ2_getChar_3b067 12 = .ok (.invokestatic 48, 3) := by decide +kernel
theorem dJ2_getChar_3b067_15 : decode cJ2_getChar_3b067 15 = .ok (.if_icmp .lt 13, 3) := by decide +kernel
theorem dJ2_getChar_3b067_18 : decode cJ2_getChar_3b067 18 = .ok (.new 52, 3) := by decide +kernel
theorem dJ2_getChar_3b067_21 : decode cJ2_getChar_3b067 21 = .ok (.dup, 1) := by decide +kernel
theorem dJ2_getChar_3b067_22 : decode cJ2_getChar_3b067 22 = .ok (.ldc 54, 2) := by decide +kernel
theorem dJ2_getChar_3b067_24 : decode cJ2_getChar_3b067 24 = .ok (.invokespecial 56, 3) := by decide +kernel
theorem dJ2_getChar_3b067_27 : decode cJ2_getChar_3b067 27 = .ok (.athrow, 1) := by decide +kernel
theorem dJ2_getChar_3b067_28 : decode cJ2_getChar_3b067 28 = .ok (.iload_n 1, 1) := by decide +kernel
theorem dJ2_getChar_3b067_29 : decode cJ2_getChar_3b067 29 = .ok (.iconst 1, 1) := by decide +kernel
theorem dJ2_getChar_3b067_30 : decode cJ2_getChar_3b067 30 = .ok (.ishl, 1) := by decide +kernel
theorem dJ2_getChar_3b067_31 : decode cJ2_getChar_3b067 31 = .ok (.istore_n 1, 1) := by decide +kernel
theorem dJ2_getChar_3b067_32 : decode cJ2_getChar_3b067 32 = .ok (.aload_n 0, 1) := by decide +kernel
theorem dJ2_getChar_3b067_33 : decode cJ2_getChar_3b067 33 = .ok (.iload_n 1, 1) := by decide +kernel
theorem dJ2_getChar_3b067_34 : decode cJ2_getChar_3b067 34 = .ok (.iinc 1 1, 3) := by decide +kernel
theorem dJ2_getChar_3b067_37 : decode cJ2_getChar_3b067 37 = .ok (.baload, 1) := by decide +kernel
theorem dJ2_getChar_3b067_38 : decode cJ2_getChar_3b067 38 = .ok (.sipush 255, 3) := by decide +kernel
theorem dJ2_getChar_3b067_41 : decode cJ2_getChar_3b067 41 = .ok (.iand, 1) := by decide +kernel
theorem dJ2_getChar_3b067_42 : decode cJ2_getChar_3b067 42 = .ok (.getstatic 59, 3) := by decide +kernel
theorem dJ2_getChar_3b067_45 : decode cJ2_getChar_3b067 45 = .ok (.ishl, 1) := by decide +kernel
theorem dJ2_getChar_3b067_46 : decode cJ2_getChar_3b067 46 = .ok (.aload_n 0, 1) := by decide +kernel
theorem dJ2_getChar_3b067_47 : decode cJ2_getChar_3b067 47 = .ok (.iload_n 1, 1) := by decide +kernel
theorem dJ2_getChar_3b067_48 : decode cJ2_getChar_3b067 48 = .ok (.baload, 1) := by decide +kernel
theorem dJ2_getChar_3b067_49 : decode cJ2_getChar_3b067 49 = .ok (.sipush 255, 3) := by decide +kernel
theorem dJ2_getChar_3b067_52 : decode cJ2_getChar_3b067 52 = .ok (.iand, 1) := by decide +kernel
theorem dJ2_getChar_3b067_53 : decode cJ2_getChar_3b067 53 = .ok (.getstatic 63, 3) := by decide +kernel
theorem dJ2_getChar_3b067_56 : decode cJ2_getChar_3b067 56 = .ok (.ishl, 1) := by decide +kernel
theorem dJ2_getChar_3b067_57 : decode cJ2_getChar_3b067 57 = .ok (.ior, 1) := by decide +kernel
theorem dJ2_getChar_3b067_58 : decode cJ2_getChar_3b067 58 = .ok (.i2c, 1) := by decide +kernel
theorem dJ2_getChar_3b067_59 : decode cJ2_getChar_3b067 59 = .ok (.ireturn, 1) := by decide +kernel
theorem dJ2_length_9d52b_0 : decode cJ2_length_9d52b 0 = .ok (.aload_n 0, 1) := by decide +kernel
theorem dJ2_length_9d52b_1 : decode cJ2_length_9d52b 1 = .ok (.arraylength, 1) := by decide +kernel
theorem dJ2_length_9d52b_2 : decode cJ2_length_9d52b 2 = .ok (.iconst 1, 1) := by decide +kernel
theorem dJ2_length_9d52b_3 : decode cJ2_length_9d52b 3 = .ok (.ishr, 1) := by decide +kernel
theorem dJ2_length_9d52b_4 : decode cJ2_length_9d52b 4 = .ok (.ireturn, 1) := by decide +kernel
theorem dJ2_charAt_3b067_0 : decode cJ2_charAt_3b067 0 = .ok (.iload_n 1, 1) := by decide +kernel
theorem dJ2_charAt_3b067_1 : decode cJ2_charAt_3b067 1 = .ok (.aload_n 0, 1) := by decide +kernel
theorem dJ2_charAt_3b067_2 : decode cJ2_charAt_3b067 2 = .ok (.invokestatic 67, 3) := by decide +kernel
theorem dJ2_charAt_3b067_5 : decode cJ2_charAt_3b067 5 = .ok (.aload_n 0, 1) := by decide +kernel
theorem dJ2_charAt_3b067_6 : decode cJ2_charAt_3b067 6 = .ok (.iload_n 1, 1) := by decide +kernel
theorem dJ2_charAt_3b067_7 : decode cJ2_charAt_3b067 7 = .ok (.invokestatic 71, 3) := by decide +kernel
theorem dJ2_charAt_3b067_10 : decode cJ2_charAt_3b067 10 = .ok (.ireturn, 1) := by decide +kernel
theorem dJ2_checkIndex_2214a_0 : decode cJ2_checkIndex_2214a 0 = .ok (.iload_n 0, 1) := by decide +kernel
theorem dJ2_checkIndex_2214a_1 : decode cJ2_checkIndex_2214a 1 = .ok (.aload_n 1, 1) := by decide +kernel
theorem dJ2_checkIndex_2214a_2 : decode cJ2_checkIndex_2214a 2 = .ok (.invokestatic 48, 3) := by decide +kernel
theorem dJ2_checkIndex_2214a_5 : decode cJ2_checkIndex_2214a 5 = .ok (.invokestatic 414, 3) := by decide +kernel
theorem dJ2_checkIndex_2214a_8 : decode cJ2_checkIndex_2214a 8 = .ok (.return_, 1) := by decide +kernel
theorem dJ3_checkIndex_8e157_0 : decode cJ3_checkIndex_8e157 0 = .ok (.iload_n 0, 1) := by decide +kernel
theorem dJ3_checkIndex_8e157_1 : decode cJ3_checkIndex_8e157 1 = .ok (.ifCond .lt 8, 3) := by decide +kernel
theorem dJ3_checkIndex_8e157_4 : decode cJ3_checkIndex_8e157 4 = .ok (.iload_n 0, 1) := by decide +kernel
theorem dJ3_checkIndex_8e157_5 : decode cJ3_checkIndex_8e157 5 = .ok (.iload_n 1, 1) := by decide +kernel
theorem dJ3_checkIndex_8e157_6 : decode cJ3_checkIndex_8e157 6 = .ok (.if_icmp .lt 10, 3) := by decide +kernel
theorem dJ3_checkIndex_8e157_9 : decode cJ3_checkIndex_8e157 9 = .ok (.aload_n 2, 1) := by decide +kernel
theorem dJ3_checkIndex_8e157_10 : decode cJ3_checkIndex_8e157 10 = .ok (.iload_n 0, 1) := by decide +kernel
theorem dJ3_checkIndex_8e157_11 : decode cJ3_checkIndex_8e157 11 = .ok (.iload_n 1, 1) := by decide +kernel
theorem dJ3_checkIndex_8e157_12 : decode cJ3_checkIndex_8e157 12 = .ok (.invokestatic 95, 3) := by decide +kernel
theorem dJ3_checkIndex_8e157_15 : decode cJ3_checkIndex_8e157 15 = .ok (.athrow, 1) := by decide +kernel
theorem dJ3_checkIndex_8e157_16 : decode cJ3_checkIndex_8e157 16 = .ok (.iload_n 0, 1) := by decide +kernel
theorem dJ3_checkIndex_8e157_17 : decode cJ3_checkIndex_8e157 17 = .ok (.ireturn, 1) := by decide +kernel
