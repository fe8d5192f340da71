theorem dX8_kindsOf_59 : decode cX8_kindsOf 59 = .ok (.aload_n 0, 1) := by decide +kernel
theorem dX8_kindsOf_60 : decode cX8_kindsOf 60 = .ok (.getfield 7, 3) := by decide +kernel
theorem dX8_kindsOf_63 : decode cX8_kindsOf 63 = .ok (.iload 6, 2) := by decide +kernel
theorem dX8_kindsOf_65 : decode cX8_kindsOf 65 = .ok (.iconst 3, 1) := by decide +kernel
theorem dX8_kindsOf_66 : decode cX8_kindsOf 66 = .ok (.iadd, 1) := by decide +kernel
theorem dX8_kindsOf_67 : decode cX8_kindsOf 67 = .ok (.iaload, 1) := by decide +kernel
theorem dX8_kindsOf_68 : decode cX8_kindsOf 68 = .ok (.if_icmp .ne 23, 3) := by decide +kernel
theorem dX8_kindsOf_71 : decode cX8_kindsOf 71 = .ok (.iload_n 3, 1) := by decide +kernel
theorem dX8_kindsOf_72 : decode cX8_kindsOf 72 = .ok (.invokestatic 217, 3) := by decide +kernel
theorem dX8_kindsOf_75 : decode cX8_kindsOf 75 = .ok (.aload_n 0, 1) := by decide +kernel
theorem dX8_kindsOf_76 : decode cX8_kindsOf 76 = .ok (.getfield 7, 3) := by decide +kernel
theorem dX8_kindsOf_79 : decode cX8_kindsOf 79 = .ok (.iload 6, 2) := by decide +kernel
theorem dX8_kindsOf_81 : decode cX8_kindsOf 81 = .ok (.iconst 4, 1) := by decide +kernel
theorem dX8_kindsOf_82 : decode cX8_kindsOf 82 = .ok (.iadd, 1) := by decide +kernel
theorem dX8_kindsOf_83 : decode cX8_kindsOf 83 = .ok (.iaload, 1) := by decide +kernel
theorem dX8_kindsOf_84 : decode cX8_kindsOf 84 = .ok (.if_icmp .ne 7, 3) := by decide +kernel
theorem dX8_kindsOf_87 : decode cX8_kindsOf 87 = .ok (.iconst 1, 1) := by decide +kernel
theorem dX8_kindsOf_88 : decode cX8_kindsOf 88 = .ok (.goto 4, 3) := by decide +kernel
theorem dX8_kindsOf_91 : decode cX8_kindsOf 91 = .ok (.iconst 0, 1) := by decide +kernel
theorem dX8_kindsOf_92 : decode cX8_kindsOf 92 = .ok (.istore 7, 2) := by decide +kernel
theorem dX8_kindsOf_94 : decode cX8_kindsOf 94 = .ok (.iload 4, 2) := by decide +kernel
theorem dX8_kindsOf_96 : decode cX8_kindsOf 96 = .ok (.ifCond .eq 23, 3) := by decide +kernel
theorem dX8_kindsOf_99 : decode cX8_kindsOf 99 = .ok (.aload_n 0, 1) := by decide +kernel
theorem dX8_kindsOf_100 : decode cX8_kindsOf 100 = .ok (.getfield 7, 3) := by decide +kernel
theorem dX8_kindsOf_103 : decode cX8_kindsOf 103 = .ok (.iload 6, 2) := by decide +kernel
theorem dX8_kindsOf_105 : decode cX8_kindsOf 105 = .ok (.iaload, 1) := by decide +kernel
theorem dX8_kindsOf_106 : decode cX8_kindsOf 106 = .ok (.iload_n 1, 1) := by decide +kernel
theorem dX8_kindsOf_107 : decode cX8_kindsOf 107 = .ok (.if_icmp .ne 8, 3) := by decide +kernel
theorem dX8_kindsOf_110 : decode cX8_kindsOf 110 = .ok (.iload 7, 2) := by decide +kernel
theorem dX8_kindsOf_112 : decode cX8_kindsOf 112 = .ok (.ifCond .eq 7, 3) := by decide +kernel
theorem dX8_kindsOf_115 : decode cX8_kindsOf 115 = .ok (.iconst 1, 1) := by decide +kernel
theorem dX8_kindsOf_116 : decode cX8_kindsOf 116 = .ok (.goto 4, 3) := by decide +kernel
theorem dX8_kindsOf_119 : decode cX8_kindsOf 119 = .ok (.iconst 0, 1) := by decide +kernel
theorem dX8_kindsOf_120 : decode cX8_kindsOf 120 = .ok (.istore 4, 2) := by decide +kernel
theorem dX8_kindsOf_122 : decode cX8_kindsOf 122 = .ok (.iinc 5 1, 3) := by decide +kernel
theorem dX8_kindsOf_125 : decode cX8_kindsOf 125 = .ok (.goto (-109), 3) := by decide +kernel
theorem dX8_kindsOf_128 : decode cX8_kindsOf 128 = .ok (.iload_n 2, 1) := by decide +kernel
theorem dX8_kindsOf_129 : decode cX8_kindsOf 129 = .ok (.iload 4, 2) := by decide +kernel
theorem dX8_kindsOf_131 : decode cX8_kindsOf 131 = .ok (.ifCond .eq 9, 3) := by decide +kernel
theorem dX8_kindsOf_134 : decode cX8_kindsOf 134 = .ok (.iconst 1, 1) := by decide +kernel
theorem dX8_kindsOf_135 : decode cX8_kindsOf 135 = .ok (.iload_n 3, 1) := by decide +kernel
theorem dX8_kindsOf_136 : decode cX8_kindsOf 136 = .ok (.ishl, 1) := by decide +kernel
theorem dX8_kindsOf_137 : decode cX8_kindsOf 137 = .ok (.goto 4, 3) := by decide +kernel
theorem dX8_kindsOf_140 : decode cX8_kindsOf 140 = .ok (.iconst 0, 1) := by decide +kernel
theorem dX8_kindsOf_141 : decode cX8_kindsOf 141 = .ok (.ior, 1) := by decide +kernel
theorem dX8_kindsOf_142 : decode cX8_kindsOf 142 = .ok (.istore_n 2, 1) := by decide +kernel
theorem dX8_kindsOf_143 : decode cX8_kindsOf 143 = .ok (.iinc 3 1, 3) := by decide +kernel
theorem dX8_kindsOf_146 : decode cX8_kindsOf 146 = .ok (.goto (-142), 3) := by decide +kernel
theorem dX8_kindsOf_149 : decode cX8_kindsOf 149 = .ok (.iload_n 2, 1) := by decide +kernel
theorem dX8_kindsOf_150 : decode cX8_kindsOf 150 = .ok (.ireturn, 1) := by decide +kernel
set_option maxRecDepth 20000 in
theorem dX8_is_0 : decode cX8_is 0 = .ok (.aload_n 0, 1) := by decide +kernel
theorem dX8_is_1 : decode cX8_is 1 = .ok (.iload_n 1, 1) := by decide +kernel
theorem dX8_is_2 : decode cX8_is 2 = .ok (.invokevirtual 116, 3) := by decide +kernel
theorem dX8_is_5 : decode cX8_is 5 = .ok (.ifCond .eq 11, 3) := by decide +kernel
theorem dX8_is_8 : decode cX8_is 8 = .ok (.aload_n 0, 1) := by decide +kernel
theorem dX8_is_9 : decode cX8_is 9 = .ok (.iload_n 1, 1) := by decide +kernel
theorem dX8_is_10 : decode cX8_is 10 = .ok (.invokevirtual 285, 3) := by decide +kernel
theorem dX8_is_13 : decode cX8_is 13 = .ok (.goto 7, 3) := by decide +kernel
theorem dX8_is_16 : decode cX8_is 16 = .ok (.aload_n 0, 1) := by decide +kernel
theorem dX8_is_17 : decode cX8_is 17 = .ok (.invokevirtual 103, 3) := by decide +kernel
theorem dX8_is_20 : decode cX8_is 20 = .ok (.ireturn, 1) := by decide +kernel
theorem dX8_hasKind_0 : decode cX8_hasKind 0 = .ok (.iload_n 0, 1) := by decide +kernel
theorem dX8_hasKind_1 : decode cX8_hasKind 1 = .ok (.iload_n 1, 1) := by decide +kernel
theorem dX8_hasKind_2 : decode cX8_hasKind 2 = .ok (.ishr, 1) := by decide +kernel
theorem dX8_hasKind_3 : decode cX8_hasKind 3 = .ok (.iconst 1, 1) := by decide +kernel
theorem dX8_hasKind_4 : decode cX8_hasKind 4 = .ok (.iand, 1) := by decide +kernel
theorem dX8_hasKind_5 : decode cX8_hasKind 5 = .ok (.iconst 1, 1) := by decide +kernel
theorem dX8_hasKind_6 : decode cX8_hasKind 6 = .ok (.if_icmp .ne 7, 3) := by decide +kernel
theorem dX8_hasKind_9 : decode cX8_hasKind 9 = .ok (.iconst 1, 1) := by decide +kernel
theorem dX8_hasKind_10 : decode cX8_hasKind 10 = .ok (.goto 4, 3) := by decide +kernel
theorem dX8_hasKind_13 : decode cX8_hasKind 13 = .ok (.iconst 0, 1) := by decide +kernel
theorem dX8_hasKind_14 : decode cX8_hasKind 14 = .ok (.ireturn, 1) := by decide +kernel
set_option maxRecDepth 20000 in
theorem dX8_mostAlike_0 : decode cX8_mostAlike 0 = .ok (.iconst 0, 1) := by decide +kernel
theorem dX8_mostAlike_1 : decode cX8_mostAlike 1 = .ok (.istore_n 2, 1) := by decide +kernel
theorem dX8_mostAlike_2 : decode cX8_mostAlike 2 = .ok (.iconst 0, 1) := by decide +kernel
theorem dX8_mostAlike_3 : decode cX8_mostAlike 3 = .ok (.istore_n 3, 1) := by decide +kernel
theorem dX8_mostAlike_4 : decode cX8_mostAlike 4 = .ok (.iload_n 3, 1) := by decide +kernel
theorem dX8_mostAlike_5 : decode cX8_mostAlike 5 = .ok (.bipush 6, 2) := by decide +kernel
theorem dX8_mostAlike_7 : decode cX8_mostAlike 7 = .ok (.if_icmp .ge 84, 3) := by decide +kernel
theorem dX8_mostAlike_10 : decode cX8_mostAlike 10 = .ok (.iconst 0, 1) := by decide +kernel
theorem dX8_mostAlike_11 : decode cX8_mostAlike 11 = .ok (.istore 4, 2) := by decide +kernel
theorem dX8_mostAlike_13 : decode cX8_mostAlike 13 = .ok (.iconst 0, 1) := by decide +kernel
theorem dX8_mostAlike_14 : decode cX8_mostAlike 14 = .ok (.istore 5, 2) := by decide +kernel
theorem dX8_mostAlike_16 : decode cX8_mostAlike 16 = .ok (.iload 5, 2) := by decide +kernel
theorem dX8_mostAlike_18 : decode cX8_mostAlike 18 = .ok (.bipush 6, 2) := by decide +kernel
theorem dX8_mostAlike_20 : decode cX8_mostAlike 20 = .ok (.if_icmp .ge 52, 3) := by decide +kernel
theorem dX8_mostAlike_23 : decode cX8_mostAlike 23 = .ok (.iload 4, 2) := by decide +kernel
theorem dX8_mostAlike_25 : decode cX8_mostAlike 25 = .ok (.iload_n 1, 1) := by decide +kernel
theorem dX8_mostAlike_26 : decode cX8_mostAlike 26 = .ok (.iload_n 3, 1) := by decide +kernel
theorem dX8_mostAlike_27 : decode cX8_mostAlike 27 = .ok (.invokestatic 288, 3) := by decide +kernel
theorem dX8_mostAlike_30 : decode cX8_mostAlike 30 = .ok (.ifCond .eq 32, 3) := by decide +kernel
theorem dX8_mostAlike_33 : decode cX8_mostAlike 33 = .ok (.iload_n 1, 1) := by decide +kernel
theorem dX8_mostAlike_34 : decode cX8_mostAlike 34 = .ok (.iload 5, 2) := by decide +kernel
theorem dX8_mostAlike_36 : decode cX8_mostAlike 36 = .ok (.invokestatic 288, 3) := by decide +kernel
theorem dX8_mostAlike_39 : decode cX8_mostAlike 39 = .ok (.ifCond .eq 23, 3) := by decide +kernel
theorem dX8_mostAlike_42 : decode cX8_mostAlike 42 = .ok (.aload_n 0, 1) := by decide +kernel
theorem dX8_mostAlike_43 : decode cX8_mostAlike 43 = .ok (.getfield 41, 3) := by decide +kernel
theorem dX8_mostAlike_46 : decode cX8_mostAlike 46 = .ok (.iload_n 3, 1) := by decide +kernel
theorem dX8_mostAlike_47 : decode cX8_mostAlike 47 = .ok (.iaload, 1) := by decide +kernel
theorem dX8_mostAlike_48 : decode cX8_mostAlike 48 = .ok (.aload_n 0, 1) := by decide +kernel
theorem dX8_mostAlike_49 : decode cX8_mostAlike 49 = .ok (.getfield 41, 3) := by decide +kernel
theorem dX8_mostAlike_52 : decode cX8_mostAlike 52 = .ok (.iload 5, 2) := by decide +kernel
theorem dX8_mostAlike_54 : decode cX8_mostAlike 54 = .ok (.iaload, 1) := by decide +kernel
theorem dX8_mostAlike_55 : decode cX8_mostAlike 55 = .ok (.if_icmp .ne 7, 3) := by decide +kernel
theorem dX8_mostAlike_58 : decode cX8_mostAlike 58 = .ok (.iconst 1, 1) := by decide +kernel
theorem dX8_mostAlike_59 : decode cX8_mostAlike 59 = .ok (.goto 4, 3) := by decide +kernel
theorem dX8_mostAlike_62 : decode cX8_mostAlike 62 = .ok (.iconst 0, 1) := by decide +kernel
theorem dX8_mostAlike_63 : decode cX8_mostAlike 63 = .ok (.iadd, 1) := by decide +kernel
theorem dX8_mostAlike_64 : decode cX8_mostAlike 64 = .ok (.istore 4, 2) := by decide +kernel
theorem dX8_mostAlike_66 : decode cX8_mostAlike 66 = .ok (.iinc 5 1, 3) := by decide +kernel
theorem dX8_mostAlike_69 : decode cX8_mostAlike 69 = .ok (.goto (-53), 3) := by decide +kernel
theorem dX8_mostAlike_72 : decode cX8_mostAlike 72 = .ok (.iload 4, 2) := by decide +kernel
theorem dX8_mostAlike_74 : decode cX8_mostAlike 74 = .ok (.iload_n 2, 1) := by decide +kernel
theorem dX8_mostAlike_75 : decode cX8_mostAlike 75 = .ok (.if_icmp .le 8, 3) := by decide +kernel
theorem dX8_mostAlike_78 : decode cX8_mostAlike 78 = .ok (.iload 4, 2) := by decide +kernel
theorem dX8_mostAlike_80 : decode cX8_mostAlike 80 = .ok (.goto 4, 3) := by decide +kernel
theorem dX8_mostAlike_83 : decode cX8_mostAlike 83 = .ok (.iload_n 2, 1) := by decide +kernel
theorem dX8_mostAlike_84 : decode cX8_mostAlike 84 = .ok (.istore_n 2, 1) := by decide +kernel
theorem dX8_mostAlike_85 : decode cX8_mostAlike 85 = .ok (.iinc 3 1, 3) := by decide +kernel
theorem dX8_mostAlike_88 : decode cX8_mostAlike 88 = .ok (.goto (-84), 3) := by decide +kernel
theorem dX8_mostAlike_91 : decode cX8_mostAlike 91 = .ok (.iload_n 2, 1) := by decide +kernel
theorem dX8_mostAlike_92 : decode cX8_mostAlike 92 = .ok (.ireturn, 1) := by decide +kernel
set_option maxRecDepth 20000 in
theorem dX8_watch_0 : decode cX8_watch 0 = .ok (.aload_n 0, 1) := by decide +kernel
theorem dX8_watch_1 : decode cX8_watch 1 = .ok (.iload_n 1, 1) := by decide +kernel
theorem dX8_watch_2 : decode cX8_watch 2 = .ok (.invokevirtual 116, 3) := by decide +kernel
theorem dX8_watch_5 : decode cX8_watch 5 = .ok (.ifCond .ne 8, 3) := by decide +kernel
theorem dX8_watch_8 : decode cX8_watch 8 = .ok (.aload_n 0, 1) := by decide +kernel
theorem dX8_watch_9 : decode cX8_watch 9 = .ok (.invokevirtual 103, 3) := by decide +kernel
theorem dX8_watch_12 : decode cX8_watch 12 = .ok (.ireturn, 1) := by decide +kernel
theorem dX8_watch_13 : decode cX8_watch 13 = .ok (.aload_n 0, 1) := by decide +kernel
theorem dX8_watch_14 : decode cX8_watch 14 = .ok (.iload_n 1, 1) := by decide +kernel
theorem dX8_watch_15 : decode cX8_watch 15 = .ok (.invokevirtual 285, 3) := by decide +kernel
theorem dX8_watch_18 : decode cX8_watch 18 = .ok (.istore_n 2, 1) := by decide +kernel
theorem dX8_watch_19 : decode cX8_watch 19 = .ok (.iconst (-1), 1) := by decide +kernel
theorem dX8_watch_20 : decode cX8_watch 20 = .ok (.istore_n 3, 1) := by decide +kernel
theorem dX8_watch_21 : decode cX8_watch 21 = .ok (.ldc 160, 2) := by decide +kernel
theorem dX8_watch_23 : decode cX8_watch 23 = .ok (.istore 4, 2) := by decide +kernel
theorem dX8_watch_25 : decode cX8_watch 25 = .ok (.iconst 0, 1) := by decide +kernel
theorem dX8_watch_26 : decode cX8_watch 26 = .ok (.istore 5, 2) := by decide +kernel
theorem dX8_watch_28 : decode cX8_watch 28 = .ok (.iload 5, 2) := by decide +kernel
theorem dX8_watch_30 : decode cX8_watch 30 = .ok (.bipush 12, 2) := by decide +kernel
theorem dX8_watch_32 : decode cX8_watch 32 = .ok (.if_icmp .ge 98, 3) := by decide +kernel
theorem dX8_watch_35 : decode cX8_watch 35 = .ok (.iload_n 2, 1) := by decide +kernel
theorem dX8_watch_36 : decode cX8_watch 36 = .ok (.ifCond .eq 94, 3) := by decide +kernel
theorem dX8_watch_39 : decode cX8_watch 39 = .ok (.iconst 0, 1) := by decide +kernel
theorem dX8_watch_40 : decode cX8_watch 40 = .ok (.istore 6, 2) := by decide +kernel
theorem dX8_watch_42 : decode cX8_watch 42 = .ok (.iload 6, 2) := by decide +kernel
theorem dX8_watch_44 : decode cX8_watch 44 = .ok (.bipush 6, 2) := by decide +kernel
theorem dX8_watch_46 : decode cX8_watch 46 = .ok (.if_icmp .ge 41, 3) := by decide +kernel
theorem dX8_watch_49 : decode cX8_watch 49 = .ok (.aload_n 0, 1) := by decide +kernel
theorem dX8_watch_50 : decode cX8_watch 50 = .ok (.getfield 41, 3) := by decide +kernel
theorem dX8_watch_53 : decode cX8_watch 53 = .ok (.iload 6, 2) := by decide +kernel
theorem dX8_watch_55 : decode cX8_watch 55 = .ok (.bipush 10, 2) := by decide +kernel
theorem dX8_watch_57 : decode cX8_watch 57 = .ok (.iload 6, 2) := by decide +kernel
theorem dX8_watch_59 : decode cX8_watch 59 = .ok (.iload 5, 2) := by decide +kernel
theorem dX8_watch_61 : decode cX8_watch 61 = .ok (.aload_n 0, 1) := by decide +kernel
theorem dX8_watch_62 : decode cX8_watch 62 = .ok (.getfield 7, 3) := by decide +kernel
theorem dX8_watch_65 : decode cX8_watch 65 = .ok (.bipush 13, 2) := by decide +kernel
theorem dX8_watch_67 : decode cX8_watch 67 = .ok (.iload_n 1, 1) := by decide +kernel
theorem dX8_watch_68 : decode cX8_watch 68 = .ok (.iadd, 1) := by decide +kernel
theorem dX8_watch_69 : decode cX8_watch 69 = .ok (.iaload, 1) := by decide +kernel
theorem dX8_watch_70 : decode cX8_watch 70 = .ok (.invokestatic 87, 3) := by decide +kernel
theorem dX8_watch_73 : decode cX8_watch 73 = .ok (.imul, 1) := by decide +kernel
theorem dX8_watch_74 : decode cX8_watch 74 = .ok (.iload 6, 2) := by decide +kernel
theorem dX8_watch_76 : decode cX8_watch 76 = .ok (.invokestatic 217, 3) := by decide +kernel
theorem dX8_watch_79 : decode cX8_watch 79 = .ok (.iadd, 1) := by decide +kernel
theorem dX8_watch_80 : decode cX8_watch 80 = .ok (.iastore, 1) := by decide +kernel
theorem dX8_watch_81 : decode cX8_watch 81 = .ok (.iinc 6 1, 3) := by decide +kernel
theorem dX8_watch_84 : decode cX8_watch 84 = .ok (.goto (-42), 3) := by decide +kernel
theorem dX8_watch_87 : decode cX8_watch 87 = .ok (.aload_n 0, 1) := by decide +kernel
theorem dX8_watch_88 : decode cX8_watch 88 = .ok (.iload_n 2, 1) := by decide +kernel
theorem dX8_watch_89 : decode cX8_watch 89 = .ok (.invokevirtual 292, 3) := by decide +kernel
theorem dX8_watch_92 : decode cX8_watch 92 = .ok (.istore 6, 2) := by decide +kernel
theorem dX8_watch_94 : decode cX8_watch 94 = .ok (.iload 6, 2) := by decide +kernel
theorem dX8_watch_96 : decode cX8_watch 96 = .ok (.iload 4, 2) := by decide +kernel
theorem dX8_watch_98 : decode cX8_watch 98 = .ok (.if_icmp .ge 8, 3) := by decide +kernel
theorem dX8_watch_101 : decode cX8_watch 101 = .ok (.iload 5, 2) := by decide +kernel
theorem dX8_watch_103 : decode cX8_watch 103 = .ok (.goto 4, 3) := by decide +kernel
theorem dX8_watch_106 : decode cX8_watch 106 = .ok (.iload_n 3, 1) := by decide +kernel
theorem dX8_watch_107 : decode cX8_watch 107 = .ok (.istore_n 3, 1) := by decide +kernel
theorem dX8_watch_108 : decode cX8_watch 108 = .ok (.iload 6, 2) := by decide +kernel
theorem dX8_watch_110 : decode cX8_watch 110 = .ok (.iload 4, 2) := by decide +kernel
theorem dX8_watch_112 : decode cX8_watch 112 = .ok (.if_icmp .ge 8, 3) := by decide +kernel
theorem dX8_watch_115 : decode cX8_watch 115 = .ok (.iload 6, 2) := by decide +kernel
theorem dX8_watch_117 : decode cX8_watch 117 = .ok (.goto 5, 3) := by decide +kernel
theorem dX8_watch_120 : decode cX8_watch 120 = .ok (.iload 4, 2) := by decide +kernel
theorem dX8_watch_122 : decode cX8_watch 122 = .ok (.istore 4, 2) := by decide +kernel
theorem dX8_watch_124 : decode cX8_watch 124 = .ok (.iinc 5 1, 3) := by decide +kernel
theorem dX8_watch_127 : decode cX8_watch 127 = .ok (.goto (-99), 3) := by decide +kernel
theorem dX8_watch_130 : decode cX8_watch 130 = .ok (.iload_n 3, 1) := by decide +kernel
theorem dX8_watch_131 : decode cX8_watch 131 = .ok (.ireturn, 1) := by decide +kernel
set_option maxRecDepth 20000 in
theorem dX8_sortsOf_0 : decode cX8_sortsOf 0 = .ok (.iconst 0, 1) := by decide +kernel
theorem dX8_sortsOf_1 : decode cX8_sortsOf 1 = .ok (.istore_n 2, 1) := by decide +kernel
theorem dX8_sortsOf_2 : decode cX8_sortsOf 2 = .ok (.iconst 0, 1) := by decide +kernel
theorem dX8_sortsOf_3 : decode cX8_sortsOf 3 = .ok (.istore_n 3, 1) := by decide +kernel
theorem dX8_sortsOf_4 : decode cX8_sortsOf 4 = .ok (.iload_n 3, 1) := by decide +kernel
theorem dX8_sortsOf_5 : decode cX8_sortsOf 5 = .ok (.bipush 6, 2) := by decide +kernel
theorem dX8_sortsOf_7 : decode cX8_sortsOf 7 = .ok (.if_icmp .ge 161, 3) := by decide +kernel
theorem dX8_sortsOf_10 : decode cX8_sortsOf 10 = .ok (.iconst 1, 1) := by decide +kernel
theorem dX8_sortsOf_11 : decode cX8_sortsOf 11 = .ok (.istore 4, 2) := by decide +kernel
theorem dX8_sortsOf_13 : decode cX8_sortsOf 13 = .ok (.iconst 0, 1) := by decide +kernel
theorem dX8_sortsOf_14 : decode cX8_sortsOf 14 = .ok (.istore 5, 2) := by decide +kernel
theorem dX8_sortsOf_16 : decode cX8_sortsOf 16 = .ok (.iload 5, 2) := by decide +kernel
theorem dX8_sortsOf_18 : decode cX8_sortsOf 18 = .ok (.aload_n 0, 1) := by decide +kernel
theorem dX8_sortsOf_19 : decode cX8_sortsOf 19 = .ok (.getfield 7, 3) := by decide +kernel
theorem dX8_sortsOf_22 : decode cX8_sortsOf 22 = .ok (.bipush 7, 2) := by decide +kernel
theorem dX8_sortsOf_24 : decode cX8_sortsOf 24 = .ok (.iaload, 1) := by decide +kernel
theorem dX8_sortsOf_25 : decode cX8_sortsOf 25 = .ok (.if_icmp .ge 122, 3) := by decide +kernel
theorem dX8_sortsOf_28 : decode cX8_sortsOf 28 = .ok (.sipush 138, 3) := by decide +kernel
theorem dX8_sortsOf_31 : decode cX8_sortsOf 31 = .ok (.iconst 5, 1) := by decide +kernel
theorem dX8_sortsOf_32 : decode cX8_sortsOf 32 = .ok (.iload 5, 2) := by decide +kernel
theorem dX8_sortsOf_34 : decode cX8_sortsOf 34 = .ok (.imul, 1) := by decide +kernel
theorem dX8_sortsOf_35 : decode cX8_sortsOf 35 = .ok (.iadd, 1) := by decide +kernel
theorem dX8_sortsOf_36 : decode cX8_sortsOf 36 = .ok (.istore 6, 2) := by decide +kernel
theorem dX8_sortsOf_38 : decode cX8_sortsOf 38 = .ok (.iload_n 3, 1) := by decide +kernel
theorem dX8_sortsOf_39 : decode cX8_sortsOf 39 = .ok (.aload_n 0, 1) := by decide +kernel
theorem dX8_sortsOf_40 : decode cX8_sortsOf 40 = .ok (.getfield 7, 3) := by decide +kernel
theorem dX8_sortsOf_43 : decode cX8_sortsOf 43 = .ok (.bipush 74, 2) := by decide +kernel
theorem dX8_sortsOf_45 : decode cX8_sortsOf 45 = .ok (.iload_n 1, 1) := by decide +kernel
theorem dX8_sortsOf_46 : decode cX8_sortsOf 46 = .ok (.iadd, 1) := by decide +kernel
theorem dX8_sortsOf_47 : decode cX8_sortsOf 47 = .ok (.iaload, 1) := by decide +kernel
theorem dX8_sortsOf_48 : decode cX8_sortsOf 48 = .ok (.aload_n 0, 1) := by decide +kernel
theorem dX8_sortsOf_49 : decode cX8_sortsOf 49 = .ok (.getfield 7, 3) := by decide +kernel
theorem dX8_sortsOf_52 : decode cX8_sortsOf 52 = .ok (.iload 6, 2) := by decide +kernel
theorem dX8_sortsOf_54 : decode cX8_sortsOf 54 = .ok (.iconst 1, 1) := by decide +kernel
theorem dX8_sortsOf_55 : decode cX8_sortsOf 55 = .ok (.iadd, 1) := by decide +kernel
theorem dX8_sortsOf_56 : decode cX8_sortsOf 56 = .ok (.iaload, 1) := by decide +kernel
theorem dX8_sortsOf_57 : decode cX8_sortsOf 57 = .ok (.aload_n 0, 1) := by decide +kernel
theorem dX8_sortsOf_58 : decode cX8_sortsOf 58 = .ok (.getfield 7, 3) := by decide +kernel
theorem dX8_sortsOf_61 : decode cX8_sortsOf 61 = .ok (.iload 6, 2) := by decide +kernel
theorem dX8_sortsOf_63 : decode cX8_sortsOf 63 = .ok (.iconst 2, 1) := by decide +kernel
theorem dX8_sortsOf_64 : decode cX8_sortsOf 64 = .ok (.iadd, 1) := by decide +kernel
theorem dX8_sortsOf_65 : decode cX8_sortsOf 65 = .ok (.iaload, 1) := by decide +kernel
theorem dX8_sortsOf_66 : decode cX8_sortsOf 66 = .ok (.invokestatic 71, 3) := by decide +kernel
theorem dX8_sortsOf_69 : decode cX8_sortsOf 69 = .ok (.aload_n 0, 1) := by decide +kernel
theorem dX8_sortsOf_70 : decode cX8_sortsOf 70 = .ok (.getfield 7, 3) := by decide +kernel
theorem dX8_sortsOf_73 : decode cX8_sortsOf 73 = .ok (.iload 6, 2) := by decide +kernel
theorem dX8_sortsOf_75 : decode cX8_sortsOf 75 = .ok (.iconst 3, 1) := by decide +kernel
theorem dX8_sortsOf_76 : decode cX8_sortsOf 76 = .ok (.iadd, 1) := by decide +kernel
theorem dX8_sortsOf_77 : decode cX8_sortsOf 77 = .ok (.iaload, 1) := by decide +kernel
theorem dX8_sortsOf_78 : decode cX8_sortsOf 78 = .ok (.if_icmp .ne 32, 3) := by decide +kernel
theorem dX8_sortsOf_81 : decode cX8_sortsOf 81 = .ok (.iload_n 3, 1) := by decide +kernel
theorem dX8_sortsOf_82 : decode cX8_sortsOf 82 = .ok (.aload_n 0, 1) := by decide +kernel
theorem dX8_sortsOf_83 : decode cX8_sortsOf 83 = .ok (.getfield 7, 3) := by decide +kernel
theorem dX8_sortsOf_86 : decode cX8_sortsOf 86 = .ok (.iload 6, 2) := by decide +kernel
theorem dX8_sortsOf_88 : decode cX8_sortsOf 88 = .ok (.iconst 1, 1) := by decide +kernel
theorem dX8_sortsOf_89 : decode cX8_sortsOf 89 = .ok (.iadd, 1) := by decide +kernel
theorem dX8_sortsOf_90 : decode cX8_sortsOf 90 = .ok (.iaload, 1) := by decide +kernel
theorem dX8_sortsOf_91 : decode cX8_sortsOf 91 = .ok (.invokestatic 75, 3) := by decide +kernel
theorem dX8_sortsOf_94 : decode cX8_sortsOf 94 = .ok (.aload_n 0, 1) := by decide +kernel
theorem dX8_sortsOf_95 : decode cX8_sortsOf 95 = .ok (.getfield 7, 3) := by decide +kernel
theorem dX8_sortsOf_98 : decode cX8_sortsOf 98 = .ok (.iload 6, 2) := by decide +kernel
theorem dX8_sortsOf_100 : decode cX8_sortsOf 100 = .ok (.iconst 4, 1) := by decide +kernel
theorem dX8_sortsOf_101 : decode cX8_sortsOf 101 = .ok (.iadd, 1) := by decide +kernel
theorem dX8_sortsOf_102 : decode cX8_sortsOf 102 = .ok (.iaload, 1) := by decide +kernel
theorem dX8_sortsOf_103 : decode cX8_sortsOf 103 = .ok (.if_icmp .ne 7, 3) := by decide +kernel
theorem dX8_sortsOf_106 : decode cX8_sortsOf 106 = .ok (.iconst 1, 1) := by decide +kernel
theorem dX8_sortsOf_107 : decode cX8_sortsOf 107 = .ok (.goto 4, 3) := by decide +kernel
theorem dX8_sortsOf_110 : decode cX8_sortsOf 110 = .ok (.iconst 0, 1) := by decide +kernel
theorem dX8_sortsOf_111 : decode cX8_sortsOf 111 = .ok (.istore 7, 2) := by decide +kernel
theorem dX8_sortsOf_113 : decode cX8_sortsOf 113 = .ok (.iload 4, 2) := by decide +kernel
theorem dX8_sortsOf_115 : decode cX8_sortsOf 115 = .ok (.ifCond .eq 23, 3) := by decide +kernel
theorem dX8_sortsOf_118 : decode cX8_sortsOf 118 = .ok (.aload_n 0, 1) := by decide +kernel
theorem dX8_sortsOf_119 : decode cX8_sortsOf 119 = .ok (.getfield 7, 3) := by decide +kernel
theorem dX8_sortsOf_122 : decode cX8_sortsOf 122 = .ok (.iload 6, 2) := by decide +kernel
theorem dX8_sortsOf_124 : decode cX8_sortsOf 124 = .ok (.iaload, 1) := by decide +kernel
theorem dX8_sortsOf_125 : decode cX8_sortsOf 125 = .ok (.iload_n 1, 1) := by decide +kernel
theorem dX8_sortsOf_126 : decode cX8_sortsOf 126 = .ok (.if_icmp .ne 8, 3) := by decide +kernel
theorem dX8_sortsOf_129 : decode cX8_sortsOf 129 = .ok (.iload 7, 2) := by decide +kernel
theorem dX8_sortsOf_131 : decode cX8_sortsOf 131 = .ok (.ifCond .eq 7, 3) := by decide +kernel
theorem dX8_sortsOf_134 : decode cX8_sortsOf 134 = .ok (.iconst 1, 1) := by decide +kernel
theorem dX8_sortsOf_135 : decode cX8_sortsOf 135 = .ok (.goto 4, 3) := by decide +kernel
theorem dX8_sortsOf_138 : decode cX8_sortsOf 138 = .ok (.iconst 0, 1) := by decide +kernel
theorem dX8_sortsOf_139 : decode cX8_sortsOf 139 = .ok (.istore 4, 2) := by decide +kernel
theorem dX8_sortsOf_141 : decode cX8_sortsOf 141 = .ok (.iinc 5 1, 3) := by decide +kernel
theorem dX8_sortsOf_144 : decode cX8_sortsOf 144 = .ok (.goto (-128), 3) := by decide +kernel
theorem dX8_sortsOf_147 : decode cX8_sortsOf 147 = .ok (.iload_n 2, 1) := by decide +kernel
theorem dX8_sortsOf_148 : decode cX8_sortsOf 148 = .ok (.iload 4, 2) := by decide +kernel
theorem dX8_sortsOf_150 : decode cX8_sortsOf 150 = .ok (.ifCond .eq 9, 3) := by decide +kernel
theorem dX8_sortsOf_153 : decode cX8_sortsOf 153 = .ok (.iconst 1, 1) := by decide +kernel
theorem dX8_sortsOf_154 : decode cX8_sortsOf 154 = .ok (.iload_n 3, 1) := by decide +kernel
theorem dX8_sortsOf_155 : decode cX8_sortsOf 155 = .ok (.ishl, 1) := by decide +kernel
theorem dX8_sortsOf_156 : decode cX8_sortsOf 156 = .ok (.goto 4, 3) := by decide +kernel
theorem dX8_sortsOf_159 : decode cX8_sortsOf 159 = .ok (.iconst 0, 1) := by decide +kernel
theorem dX8_sortsOf_160 : decode cX8_sortsOf 160 = .ok (.ior, 1) := by decide +kernel
theorem dX8_sortsOf_161 : decode cX8_sortsOf 161 = .ok (.istore_n 2, 1) := by decide +kernel
theorem dX8_sortsOf_162 : decode cX8_sortsOf 162 = .ok (.iinc 3 1, 3) := by decide +kernel
theorem dX8_sortsOf_165 : decode cX8_sortsOf 165 = .ok (.goto (-161), 3) := by decide +kernel
theorem dX8_sortsOf_168 : decode cX8_sortsOf 168 = .ok (.iload_n 2, 1) := by decide +kernel
theorem dX8_sortsOf_169 : decode cX8_sortsOf 169 = .ok (.ireturn, 1) := by decide +kernel
set_option maxRecDepth 20000 in
theorem dX8_who_0 : decode cX8_who 0 = .ok (.aload_n 0, 1) := by decide +kernel
theorem dX8_who_1 : decode cX8_who 1 = .ok (.iload_n 1, 1) := by decide +kernel
theorem dX8_who_2 : decode cX8_who 2 = .ok (.invokevirtual 223, 3) := by decide +kernel
theorem dX8_who_5 : decode cX8_who 5 = .ok (.ifCond .eq 11, 3) := by decide +kernel
theorem dX8_who_8 : decode cX8_who 8 = .ok (.aload_n 0, 1) := by decide +kernel
theorem dX8_who_9 : decode cX8_who 9 = .ok (.iload_n 1, 1) := by decide +kernel
theorem dX8_who_10 : decode cX8_who 10 = .ok (.invokevirtual 295, 3) := by decide +kernel
theorem dX8_who_13 : decode cX8_who 13 = .ok (.goto 7, 3) := by decide +kernel
theorem dX8_who_16 : decode cX8_who 16 = .ok (.aload_n 0, 1) := by decide +kernel
theorem dX8_who_17 : decode cX8_who 17 = .ok (.invokevirtual 103, 3) := by decide +kernel
theorem dX8_who_20 : decode cX8_who 20 = .ok (.ireturn, 1) := by decide +kernel
set_option maxRecDepth 20000 in
theorem dX8_ask_0 : decode cX8_ask 0 = .ok (.aload_n 0, 1) := by decide +kernel
theorem dX8_ask_1 : decode cX8_ask 1 = .ok (.iload_n 1, 1) := by decide +kernel
theorem dX8_ask_2 : decode cX8_ask 2 = .ok (.invokevirtual 223, 3) := by decide +kernel
theorem dX8_ask_5 : decode cX8_ask 5 = .ok (.ifCond .ne 8, 3) := by decide +kernel
theorem dX8_ask_8 : decode cX8_ask 8 = .ok (.aload_n 0, 1) := by decide +kernel
theorem dX8_ask_9 : decode cX8_ask 9 = .ok (.invokevirtual 103, 3) := by decide +kernel
theorem dX8_ask_12 : decode cX8_ask 12 = .ok (.ireturn, 1) := by decide +kernel
theorem dX8_ask_13 : decode cX8_ask 13 = .ok (.aload_n 0, 1) := by decide +kernel
theorem dX8_ask_14 : decode cX8_ask 14 = .ok (.iload_n 1, 1) := by decide +kernel
theorem dX8_ask_15 : decode cX8_ask 15 = .ok (.invokevirtual 295, 3) := by decide +kernel
theorem dX8_ask_18 : decode cX8_ask 18 = .ok (.istore_n 2, 1) := by decide +kernel
theorem dX8_ask_19 : decode cX8_ask 19 = .ok (.iconst (-1), 1) := by decide +kernel
theorem dX8_ask_20 : decode cX8_ask 20 = .ok (.istore_n 3, 1) := by decide +kernel
theorem dX8_ask_21 : decode cX8_ask 21 = .ok (.ldc 160, 2) := by decide +kernel
theorem dX8_ask_23 : decode cX8_ask 23 = .ok (.istore 4, 2) := by decide +kernel
theorem dX8_ask_25 : decode cX8_ask 25 = .ok (.bipush 10, 2) := by decide +kernel
theorem dX8_ask_27 : decode cX8_ask 27 = .ok (.istore 5, 2) := by decide +kernel
theorem dX8_ask_29 : decode cX8_ask 29 = .ok (.iload 5, 2) := by decide +kernel
theorem dX8_ask_31 : decode cX8_ask 31 = .ok (.bipush 100, 2) := by decide +kernel
theorem dX8_ask_33 : decode cX8_ask 33 = .ok (.if_icmp .ge 111, 3) := by decide +kernel
theorem dX8_ask_36 : decode cX8_ask 36 = .ok (.iload_n 2, 1) := by decide +kernel
theorem dX8_ask_37 : decode cX8_ask 37 = .ok (.ifCond .eq 107, 3) := by decide +kernel
theorem dX8_ask_40 : decode cX8_ask 40 = .ok (.iconst 0, 1) := by decide +kernel
theorem dX8_ask_41 : decode cX8_ask 41 = .ok (.istore 6, 2) := by decide +kernel
theorem dX8_ask_43 : decode cX8_ask 43 = .ok (.iload 6, 2) := by decide +kernel
theorem dX8_ask_45 : decode cX8_ask 45 = .ok (.bipush 6, 2) := by decide +kernel
theorem dX8_ask_47 : decode cX8_ask 47 = .ok (.if_icmp .ge 54, 3) := by decide +kernel
theorem dX8_ask_50 : decode cX8_ask 50 = .ok (.aload_n 0, 1) := by decide +kernel
theorem dX8_ask_51 : decode cX8_ask 51 = .ok (.getfield 41, 3) := by decide +kernel
theorem dX8_ask_54 : decode cX8_ask 54 = .ok (.iload 6, 2) := by decide +kernel
theorem dX8_ask_56 : decode cX8_ask 56 = .ok (.bipush 100, 2) := by decide +kernel
theorem dX8_ask_58 : decode cX8_ask 58 = .ok (.iload 6, 2) := by decide +kernel
theorem dX8_ask_60 : decode cX8_ask 60 = .ok (.aload_n 0, 1) := by decide +kernel
theorem dX8_ask_61 : decode cX8_ask 61 = .ok (.getfield 7, 3) := by decide +kernel
theorem dX8_ask_64 : decode cX8_ask 64 = .ok (.bipush 74, 2) := by decide +kernel
theorem dX8_ask_66 : decode cX8_ask 66 = .ok (.iload_n 1, 1) := by decide +kernel
theorem dX8_ask_67 : decode cX8_ask 67 = .ok (.iadd, 1) := by decide +kernel
theorem dX8_ask_68 : decode cX8_ask 68 = .ok (.iaload, 1) := by decide +kernel
theorem dX8_ask_69 : decode cX8_ask 69 = .ok (.iload 5, 2) := by decide +kernel
theorem dX8_ask_71 : decode cX8_ask 71 = .ok (.bipush 10, 2) := by decide +kernel
theorem dX8_ask_73 : decode cX8_ask 73 = .ok (.idiv, 1) := by decide +kernel
theorem dX8_ask_74 : decode cX8_ask 74 = .ok (.iload 5, 2) := by decide +kernel
theorem dX8_ask_76 : decode cX8_ask 76 = .ok (.bipush 10, 2) := by decide +kernel
theorem dX8_ask_78 : decode cX8_ask 78 = .ok (.irem, 1) := by decide +kernel
theorem dX8_ask_79 : decode cX8_ask 79 = .ok (.invokestatic 71, 3) := by decide +kernel
theorem dX8_ask_82 : decode cX8_ask 82 = .ok (.imul, 1) := by decide +kernel
theorem dX8_ask_83 : decode cX8_ask 83 = .ok (.iload 6, 2) := by decide +kernel
theorem dX8_ask_85 : decode cX8_ask 85 = .ok (.iload 5, 2) := by decide +kernel
theorem dX8_ask_87 : decode cX8_ask 87 = .ok (.bipush 10, 2) := by decide +kernel
theorem dX8_ask_89 : decode cX8_ask 89 = .ok (.idiv, 1) := by decide +kernel
theorem dX8_ask_90 : decode cX8_ask 90 = .ok (.invokestatic 75, 3) := by decide +kernel
theorem dX8_ask_93 : decode cX8_ask 93 = .ok (.iadd, 1) := by decide +kernel
theorem dX8_ask_94 : decode cX8_ask 94 = .ok (.iastore, 1) := by decide +kernel
theorem dX8_ask_95 : decode cX8_ask 95 = .ok (.iinc 6 1, 3) := by decide +kernel
theorem dX8_ask_98 : decode cX8_ask 98 = .ok (.goto (-55), 3) := by decide +kernel
theorem dX8_ask_101 : decode cX8_ask 101 = .ok (.aload_n 0, 1) := by decide +kernel
theorem dX8_ask_102 : decode cX8_ask 102 = .ok (.iload_n 2, 1) := by decide +kernel
theorem dX8_ask_103 : decode cX8_ask 103 = .ok (.invokevirtual 292, 3) := by decide +kernel
theorem dX8_ask_106 : decode cX8_ask 106 = .ok (.istore 6, 2) := by decide +kernel
theorem dX8_ask_108 : decode cX8_ask 108 = .ok (.iload 6, 2) := by decide +kernel
theorem dX8_ask_110 : decode cX8_ask 110 = .ok (.iload 4, 2) := by decide +kernel
theorem dX8_ask_112 : decode cX8_ask 112 = .ok (.if_icmp .ge 8, 3) := by decide +kernel
theorem dX8_ask_115 : decode cX8_ask 115 = .ok (.iload 5, 2) := by decide +kernel
theorem dX8_ask_117 : decode cX8_ask 117 = .ok (.goto 4, 3) := by decide +kernel
theorem dX8_ask_120 : decode cX8_ask 120 = .ok (.iload_n 3, 1) := by decide +kernel
theorem dX8_ask_121 : decode cX8_ask 121 = .ok (.istore_n 3, 1) := by decide +kernel
theorem dX8_ask_122 : decode cX8_ask 122 = .ok (.iload 6, 2) := by decide +kernel
theorem dX8_ask_124 : decode cX8_ask 124 = .ok (.iload 4, 2) := by decide +kernel
theorem dX8_ask_126 : decode cX8_ask 126 = .ok (.if_icmp .ge 8, 3) := by decide +kernel
theorem dX8_ask_129 : decode cX8_ask 129 = .ok (.iload 6, 2) := by decide +kernel
theorem dX8_ask_131 : decode cX8_ask 131 = .ok (.goto 5, 3) := by decide +kernel
theorem dX8_ask_134 : decode cX8_ask 134 = .ok (.iload 4, 2) := by decide +kernel
theorem dX8_ask_136 : decode cX8_ask 136 = .ok (.istore 4, 2) := by decide +kernel
theorem dX8_ask_138 : decode cX8_ask 138 = .ok (.iinc 5 1, 3) := by decide +kernel
theorem dX8_ask_141 : decode cX8_ask 141 = .ok (.goto (-112), 3) := by decide +kernel
theorem dX8_ask_144 : decode cX8_ask 144 = .ok (.iload_n 3, 1) := by decide +kernel
theorem dX8_ask_145 : decode cX8_ask 145 = .ok (.ireturn, 1) := by decide +kernel
set_option maxRecDepth 20000 in
theorem dX8_parishes_0 : decode cX8_parishes 0 = .ok (.aload_n 0, 1) := by decide +kernel
theorem dX8_parishes_1 : decode cX8_parishes 1 = .ok (.iload_n 1, 1) := by decide +kernel
theorem dX8_parishes_2 : decode cX8_parishes 2 = .ok (.invokevirtual 223, 3) := by decide +kernel
theorem dX8_parishes_5 : decode cX8_parishes 5 = .ok (.ifCond .eq 37, 3) := by decide +kernel
theorem dX8_parishes_8 : decode cX8_parishes 8 = .ok (.aload_n 0, 1) := by decide +kernel
theorem dX8_parishes_9 : decode cX8_parishes 9 = .ok (.iload_n 2, 1) := by decide +kernel
theorem dX8_parishes_10 : decode cX8_parishes 10 = .ok (.invokevirtual 223, 3) := by decide +kernel
theorem dX8_parishes_13 : decode cX8_parishes 13 = .ok (.ifCond .eq 29, 3) := by decide +kernel
theorem dX8_parishes_16 : decode cX8_parishes 16 = .ok (.iload_n 1, 1) := by decide +kernel
theorem dX8_parishes_17 : decode cX8_parishes 17 = .ok (.iload_n 2, 1) := by decide +kernel
theorem dX8_parishes_18 : decode cX8_parishes 18 = .ok (.if_icmp .eq 24, 3) := by decide +kernel
theorem dX8_parishes_21 : decode cX8_parishes 21 = .ok (.aload_n 0, 1) := by decide +kernel
theorem dX8_parishes_22 : decode cX8_parishes 22 = .ok (.iload_n 3, 1) := by decide +kernel
theorem dX8_parishes_23 : decode cX8_parishes 23 = .ok (.invokevirtual 226, 3) := by decide +kernel
theorem dX8_parishes_26 : decode cX8_parishes 26 = .ok (.ifCond .eq 16, 3) := by decide +kernel
theorem dX8_parishes_29 : decode cX8_parishes 29 = .ok (.iload 4, 2) := by decide +kernel
theorem dX8_parishes_31 : decode cX8_parishes 31 = .ok (.i2l, 1) := by decide +kernel
theorem dX8_parishes_32 : decode cX8_parishes 32 = .ok (.lconst 1, 1) := by decide +kernel
theorem dX8_parishes_33 : decode cX8_parishes 33 = .ok (.ldc2_w 101, 3) := by decide +kernel
theorem dX8_parishes_36 : decode cX8_parishes 36 = .ok (.invokestatic 60, 3) := by decide +kernel
theorem dX8_parishes_39 : decode cX8_parishes 39 = .ok (.ifCond .ne 8, 3) := by decide +kernel
theorem dX8_parishes_42 : decode cX8_parishes 42 = .ok (.aload_n 0, 1) := by decide +kernel
theorem dX8_parishes_43 : decode cX8_parishes 43 = .ok (.invokevirtual 103, 3) := by decide +kernel
theorem dX8_parishes_46 : decode cX8_parishes 46 = .ok (.ireturn, 1) := by decide +kernel
theorem dX8_parishes_47 : decode cX8_parishes 47 = .ok (.aload_n 0, 1) := by decide +kernel
theorem dX8_parishes_48 : decode cX8_parishes 48 = .ok (.iload_n 1, 1) := by decide +kernel
theorem dX8_parishes_49 : decode cX8_parishes 49 = .ok (.iload 4, 2) := by decide +kernel
theorem dX8_parishes_51 : decode cX8_parishes 51 = .ok (.iload_n 3, 1) := by decide +kernel
theorem dX8_parishes_52 : decode cX8_parishes 52 = .ok (.aload_n 0, 1) := by decide +kernel
theorem dX8_parishes_53 : decode cX8_parishes 53 = .ok (.getfield 7, 3) := by decide +kernel
theorem dX8_parishes_56 : decode cX8_parishes 56 = .ok (.iconst 4, 1) := by decide +kernel
theorem dX8_parishes_57 : decode cX8_parishes 57 = .ok (.iaload, 1) := by decide +kernel
theorem dX8_parishes_58 : decode cX8_parishes 58 = .ok (.invokevirtual 232, 3) := by decide +kernel
theorem dX8_parishes_61 : decode cX8_parishes 61 = .ok (.ifCond .eq 13, 3) := by decide +kernel
theorem dX8_parishes_64 : decode cX8_parishes 64 = .ok (.aload_n 0, 1) := by decide +kernel
theorem dX8_parishes_65 : decode cX8_parishes 65 = .ok (.iload_n 1, 1) := by decide +kernel
theorem dX8_parishes_66 : decode cX8_parishes 66 = .ok (.iload 4, 2) := by decide +kernel
theorem dX8_parishes_68 : decode cX8_parishes 68 = .ok (.invokevirtual 236, 3) := by decide +kernel
theorem dX8_parishes_71 : decode cX8_parishes 71 = .ok (.goto 4, 3) := by decide +kernel
theorem dX8_parishes_74 : decode cX8_parishes 74 = .ok (.iconst 0, 1) := by decide +kernel
theorem dX8_parishes_75 : decode cX8_parishes 75 = .ok (.istore 5, 2) := by decide +kernel
theorem dX8_parishes_77 : decode cX8_parishes 77 = .ok (.aload_n 0, 1) := by decide +kernel
theorem dX8_parishes_78 : decode cX8_parishes 78 = .ok (.iload_n 2, 1) := by decide +kernel
theorem dX8_parishes_79 : decode cX8_parishes 79 = .ok (.iload 4, 2) := by decide +kernel
theorem dX8_parishes_81 : decode cX8_parishes 81 = .ok (.iload_n 3, 1) := by decide +kernel
theorem dX8_parishes_82 : decode cX8_parishes 82 = .ok (.aload_n 0, 1) := by decide +kernel
theorem dX8_parishes_83 : decode cX8_parishes 83 = .ok (.getfield 7, 3) := by decide +kernel
theorem dX8_parishes_86 : decode cX8_parishes 86 = .ok (.iconst 4, 1) := by decide +kernel
theorem dX8_parishes_87 : decode cX8_parishes 87 = .ok (.iaload, 1) := by decide +kernel
theorem dX8_parishes_88 : decode cX8_parishes 88 = .ok (.invokevirtual 232, 3) := by decide +kernel
theorem dX8_parishes_91 : decode cX8_parishes 91 = .ok (.ifCond .eq 13, 3) := by decide +kernel
theorem dX8_parishes_94 : decode cX8_parishes 94 = .ok (.aload_n 0, 1) := by decide +kernel
theorem dX8_parishes_95 : decode cX8_parishes 95 = .ok (.iload_n 2, 1) := by decide +kernel
theorem dX8_parishes_96 : decode cX8_parishes 96 = .ok (.iload 4, 2) := by decide +kernel
theorem dX8_parishes_98 : decode cX8_parishes 98 = .ok (.invokevirtual 236, 3) := by decide +kernel
theorem dX8_parishes_101 : decode cX8_parishes 101 = .ok (.goto 4, 3) := by decide +kernel
theorem dX8_parishes_104 : decode cX8_parishes 104 = .ok (.iconst 0, 1) := by decide +kernel
theorem dX8_parishes_105 : decode cX8_parishes 105 = .ok (.istore 6, 2) := by decide +kernel
theorem dX8_parishes_107 : decode cX8_parishes 107 = .ok (.aload_n 0, 1) := by decide +kernel
theorem dX8_parishes_108 : decode cX8_parishes 108 = .ok (.getfield 7, 3) := by decide +kernel
theorem dX8_parishes_111 : decode cX8_parishes 111 = .ok (.bipush 84, 2) := by decide +kernel
theorem dX8_parishes_113 : decode cX8_parishes 113 = .ok (.iload_n 3, 1) := by decide +kernel
theorem dX8_parishes_114 : decode cX8_parishes 114 = .ok (.iadd, 1) := by decide +kernel
theorem dX8_parishes_115 : decode cX8_parishes 115 = .ok (.iaload, 1) := by decide +kernel
theorem dX8_parishes_116 : decode cX8_parishes 116 = .ok (.aload_n 0, 1) := by decide +kernel
theorem dX8_parishes_117 : decode cX8_parishes 117 = .ok (.getfield 7, 3) := by decide +kernel
theorem dX8_parishes_120 : decode cX8_parishes 120 = .ok (.bipush 88, 2) := by decide +kernel
theorem dX8_parishes_122 : decode cX8_parishes 122 = .ok (.iload_n 3, 1) := by decide +kernel
theorem dX8_parishes_123 : decode cX8_parishes 123 = .ok (.iadd, 1) := by decide +kernel
theorem dX8_parishes_124 : decode cX8_parishes 124 = .ok (.iaload, 1) := by decide +kernel
theorem dX8_parishes_125 : decode cX8_parishes 125 = .ok (.isub, 1) := by decide +kernel
theorem dX8_parishes_126 : decode cX8_parishes 126 = .ok (.istore 7, 2) := by decide +kernel
theorem dX8_parishes_128 : decode cX8_parishes 128 = .ok (.iconst 0, 1) := by decide +kernel
theorem dX8_parishes_129 : decode cX8_parishes 129 = .ok (.istore 8, 2) := by decide +kernel
theorem dX8_parishes_131 : decode cX8_parishes 131 = .ok (.iconst 0, 1) := by decide +kernel
theorem dX8_parishes_132 : decode cX8_parishes 132 = .ok (.istore 9, 2) := by decide +kernel
theorem dX8_parishes_134 : decode cX8_parishes 134 = .ok (.iload 9, 2) := by decide +kernel
theorem dX8_parishes_136 : decode cX8_parishes 136 = .ok (.iconst 4, 1) := by decide +kernel
theorem dX8_parishes_137 : decode cX8_parishes 137 = .ok (.if_icmp .ge 141, 3) := by decide +kernel
theorem dX8_parishes_140 : decode cX8_parishes 140 = .ok (.iload 9, 2) := by decide +kernel
theorem dX8_parishes_142 : decode cX8_parishes 142 = .ok (.iconst 2, 1) := by decide +kernel
theorem dX8_parishes_143 : decode cX8_parishes 143 = .ok (.irem, 1) := by decide +kernel
theorem dX8_parishes_144 : decode cX8_parishes 144 = .ok (.istore 10, 2) := by decide +kernel
theorem dX8_parishes_146 : decode cX8_parishes 146 = .ok (.iload 9, 2) := by decide +kernel
theorem dX8_parishes_148 : decode cX8_parishes 148 = .ok (.iconst 2, 1) := by decide +kernel
theorem dX8_parishes_149 : decode cX8_parishes 149 = .ok (.idiv, 1) := by decide +kernel
theorem dX8_parishes_150 : decode cX8_parishes 150 = .ok (.istore 11, 2) := by decide +kernel
theorem dX8_parishes_152 : decode cX8_parishes 152 = .ok (.iload 7, 2) := by decide +kernel
theorem dX8_parishes_154 : decode cX8_parishes 154 = .ok (.iload 10, 2) := by decide +kernel
theorem dX8_parishes_156 : decode cX8_parishes 156 = .ok (.iload 5, 2) := by decide +kernel
theorem dX8_parishes_158 : decode cX8_parishes 158 = .ok (.imul, 1) := by decide +kernel
theorem dX8_parishes_159 : decode cX8_parishes 159 = .ok (.isub, 1) := by decide +kernel
theorem dX8_parishes_160 : decode cX8_parishes 160 = .ok (.iload 11, 2) := by decide +kernel
theorem dX8_parishes_162 : decode cX8_parishes 162 = .ok (.iload 6, 2) := by decide +kernel
theorem dX8_parishes_164 : decode cX8_parishes 164 = .ok (.imul, 1) := by decide +kernel
theorem dX8_parishes_165 : decode cX8_parishes 165 = .ok (.isub, 1) := by decide +kernel
theorem dX8_parishes_166 : decode cX8_parishes 166 = .ok (.invokestatic 64, 3) := by decide +kernel
theorem dX8_parishes_169 : decode cX8_parishes 169 = .ok (.istore 12, 2) := by decide +kernel
theorem dX8_parishes_171 : decode cX8_parishes 171 = .ok (.iload 12, 2) := by decide +kernel
theorem dX8_parishes_173 : decode cX8_parishes 173 = .ok (.iconst 2, 1) := by decide +kernel
theorem dX8_parishes_174 : decode cX8_parishes 174 = .ok (.iload 10, 2) := by decide +kernel
theorem dX8_parishes_176 : decode cX8_parishes 176 = .ok (.imul, 1) := by decide +kernel
theorem dX8_parishes_177 : decode cX8_parishes 177 = .ok (.iadd, 1) := by decide +kernel
theorem dX8_parishes_178 : decode cX8_parishes 178 = .ok (.istore 13, 2) := by decide +kernel
theorem dX8_parishes_180 : decode cX8_parishes 180 = .ok (.iload 12, 2) := by decide +kernel
theorem dX8_parishes_182 : decode cX8_parishes 182 = .ok (.iconst 2, 1) := by decide +kernel
theorem dX8_parishes_183 : decode cX8_parishes 183 = .ok (.iload 11, 2) := by decide +kernel
theorem dX8_parishes_185 : decode cX8_parishes 185 = .ok (.imul, 1) := by decide +kernel
theorem dX8_parishes_186 : decode cX8_parishes 186 = .ok (.iadd, 1) := by decide +kernel
theorem dX8_parishes_187 : decode cX8_parishes 187 = .ok (.istore 14, 2) := by decide +kernel
theorem dX8_parishes_189 : decode cX8_parishes 189 = .ok (.iload 7, 2) := by decide +kernel
theorem dX8_parishes_191 : decode cX8_parishes 191 = .ok (.iconst 1, 1) := by decide +kernel
theorem dX8_parishes_192 : decode cX8_parishes 192 = .ok (.iload 10, 2) := by decide +kernel
theorem dX8_parishes_194 : decode cX8_parishes 194 = .ok (.isub, 1) := by decide +kernel
theorem dX8_parishes_195 : decode cX8_parishes 195 = .ok (.iload 5, 2) := by decide +kernel
theorem dX8_parishes_197 : decode cX8_parishes 197 = .ok (.imul, 1) := by decide +kernel
theorem dX8_parishes_198 : decode cX8_parishes 198 = .ok (.isub, 1) := by decide +kernel
theorem dX8_parishes_199 : decode cX8_parishes 199 = .ok (.iload 11, 2) := by decide +kernel
theorem dX8_parishes_201 : decode cX8_parishes 201 = .ok (.iload 6, 2) := by decide +kernel
theorem dX8_parishes_203 : decode cX8_parishes 203 = .ok (.imul, 1) := by decide +kernel
theorem dX8_parishes_204 : decode cX8_parishes 204 = .ok (.isub, 1) := by decide +kernel
theorem dX8_parishes_205 : decode cX8_parishes 205 = .ok (.invokestatic 64, 3) := by decide +kernel
theorem dX8_parishes_208 : decode cX8_parishes 208 = .ok (.iconst 2, 1) := by decide +kernel
theorem dX8_parishes_209 : decode cX8_parishes 209 = .ok (.iconst 1, 1) := by decide +kernel
theorem dX8_parishes_210 : decode cX8_parishes 210 = .ok (.iload 10, 2) := by decide +kernel
theorem dX8_parishes_212 : decode cX8_parishes 212 = .ok (.isub, 1) := by decide +kernel
theorem dX8_parishes_213 : decode cX8_parishes 213 = .ok (.imul, 1) := by decide +kernel
theorem dX8_parishes_214 : decode cX8_parishes 214 = .ok (.iadd, 1) := by decide +kernel
theorem dX8_parishes_215 : decode cX8_parishes 215 = .ok (.istore 15, 2) := by decide +kernel
theorem dX8_parishes_217 : decode cX8_parishes 217 = .ok (.iload 7, 2) := by decide +kernel
theorem dX8_parishes_219 : decode cX8_parishes 219 = .ok (.iload 10, 2) := by decide +kernel
theorem dX8_parishes_221 : decode cX8_parishes 221 = .ok (.iload 5, 2) := by decide +kernel
theorem dX8_parishes_223 : decode cX8_parishes 223 = .ok (.imul, 1) := by decide +kernel
theorem dX8_parishes_224 : decode cX8_parishes 224 = .ok (.isub, 1) := by decide +kernel
theorem dX8_parishes_225 : decode cX8_parishes 225 = .ok (.iconst 1, 1) := by decide +kernel
theorem dX8_parishes_226 : decode cX8_parishes 226 = .ok (.iload 11, 2) := by decide +kernel
theorem dX8_parishes_228 : decode cX8_parishes 228 = .ok (.isub, 1) := by decide +kernel
theorem dX8_parishes_229 : decode cX8_parishes 229 = .ok (.iload 6, 2) := by decide +kernel
theorem dX8_parishes_231 : decode cX8_parishes 231 = .ok (.imul, 1) := by decide +kernel
theorem dX8_parishes_232 : decode cX8_parishes 232 = .ok (.isub, 1) := by decide +kernel
theorem dX8_parishes_233 : decode cX8_parishes 233 = .ok (.invokestatic 64, 3) := by decide +kernel
theorem dX8_parishes_236 : decode cX8_parishes 236 = .ok (.iconst 2, 1) := by decide +kernel
theorem dX8_parishes_237 : decode cX8_parishes 237 = .ok (.iconst 1, 1) := by decide +kernel
theorem dX8_parishes_238 : decode cX8_parishes 238 = .ok (.iload 11, 2) := by decide +kernel
theorem dX8_parishes_240 : decode cX8_parishes 240 = .ok (.isub, 1) := by decide +kernel
theorem dX8_parishes_241 : decode cX8_parishes 241 = .ok (.imul, 1) := by decide +kernel
theorem dX8_parishes_242 : decode cX8_parishes 242 = .ok (.iadd, 1) := by decide +kernel
theorem dX8_parishes_243 : decode cX8_parishes 243 = .ok (.istore 16, 2) := by decide +kernel
theorem dX8_parishes_245 : decode cX8_parishes 245 = .ok (.iload 8, 2) := by decide +kernel
theorem dX8_parishes_247 : decode cX8_parishes 247 = .ok (.iload 13, 2) := by decide +kernel
theorem dX8_parishes_249 : decode cX8_parishes 249 = .ok (.iload 15, 2) := by decide +kernel
theorem dX8_parishes_251 : decode cX8_parishes 251 = .ok (.if_icmp .gt 17, 3) := by decide +kernel
theorem dX8_parishes_254 : decode cX8_parishes 254 = .ok (.iload 14, 2) := by decide +kernel
theorem dX8_parishes_256 : decode cX8_parishes 256 = .ok (.iload 16, 2) := by decide +kernel
theorem dX8_parishes_258 : decode cX8_parishes 258 = .ok (.if_icmp .gt 10, 3) := by decide +kernel
theorem dX8_parishes_261 : decode cX8_parishes 261 = .ok (.iconst 1, 1) := by decide +kernel
theorem dX8_parishes_262 : decode cX8_parishes 262 = .ok (.iload 9, 2) := by decide +kernel
theorem dX8_parishes_264 : decode cX8_parishes 264 = .ok (.ishl, 1) := by decide +kernel
theorem dX8_parishes_265 : decode cX8_parishes 265 = .ok (.goto 4, 3) := by decide +kernel
theorem dX8_parishes_268 : decode cX8_parishes 268 = .ok (.iconst 0, 1) := by decide +kernel
theorem dX8_parishes_269 : decode cX8_parishes 269 = .ok (.ior, 1) := by decide +kernel
theorem dX8_parishes_270 : decode cX8_parishes 270 = .ok (.istore 8, 2) := by decide +kernel
theorem dX8_parishes_272 : decode cX8_parishes 272 = .ok (.iinc 9 1, 3) := by decide +kernel
theorem dX8_parishes_275 : decode cX8_parishes 275 = .ok (.goto (-141), 3) := by decide +kernel
theorem dX8_parishes_278 : decode cX8_parishes 278 = .ok (.iload 8, 2) := by decide +kernel
theorem dX8_parishes_280 : decode cX8_parishes 280 = .ok (.ireturn, 1) := by decide +kernel
theorem dX8_common_0 : decode cX8_common 0 = .ok (.iload_n 0, 1) := by decide +kernel
theorem dX8_common_1 : decode cX8_common 1 = .ok (.istore_n 2, 1) := by decide +kernel
theorem dX8_common_2 : decode cX8_common 2 = .ok (.iload_n 1, 1) := by decide +kernel
theorem dX8_common_3 : decode cX8_common 3 = .ok (.istore_n 3, 1) := by decide +kernel
theorem dX8_common_4 : decode cX8_common 4 = .ok (.iload_n 3, 1) := by decide +kernel
theorem dX8_common_5 : decode cX8_common 5 = .ok (.ifCond .le 16, 3) := by decide +kernel
theorem dX8_common_8 : decode cX8_common 8 = .ok (.iload_n 2, 1) := by decide +kernel
theorem dX8_common_9 : decode cX8_common 9 = .ok (.iload_n 3, 1) := by decide +kernel
theorem dX8_common_10 : decode cX8_common 10 = .ok (.irem, 1) := by decide +kernel
theorem dX8_common_11 : decode cX8_common 11 = .ok (.istore 4, 2) := by decide +kernel
theorem dX8_common_13 : decode cX8_common 13 = .ok (.iload_n 3, 1) := by decide +kernel
theorem dX8_common_14 : decode cX8_common 14 = .ok (.istore_n 2, 1) := by decide +kernel
theorem dX8_common_15 : decode cX8_common 15 = .ok (.iload 4, 2) := by decide +kernel
theorem dX8_common_17 : decode cX8_common 17 = .ok (.istore_n 3, 1) := by decide +kernel
theorem dX8_common_18 : decode cX8_common 18 = .ok (.goto (-14), 3) := by decide +kernel
theorem dX8_common_21 : decode cX8_common 21 = .ok (.iload_n 2, 1) := by decide +kernel
theorem dX8_common_22 : decode cX8_common 22 = .ok (.ireturn, 1) := by decide +kernel
set_option maxRecDepth 20000 in
theorem dX8_gusts_0 : decode cX8_gusts 0 = .ok (.aload_n 0, 1) := by decide +kernel
theorem dX8_gusts_1 : decode cX8_gusts 1 = .ok (.iload_n 1, 1) := by decide +kernel
theorem dX8_gusts_2 : decode cX8_gusts 2 = .ok (.invokevirtual 223, 3) := by decide +kernel
theorem dX8_gusts_5 : decode cX8_gusts 5 = .ok (.ifCond .eq 49, 3) := by decide +kernel
theorem dX8_gusts_8 : decode cX8_gusts 8 = .ok (.aload_n 0, 1) := by decide +kernel
theorem dX8_gusts_9 : decode cX8_gusts 9 = .ok (.iload_n 2, 1) := by decide +kernel
theorem dX8_gusts_10 : decode cX8_gusts 10 = .ok (.invokevirtual 226, 3) := by decide +kernel
theorem dX8_gusts_13 : decode cX8_gusts 13 = .ok (.ifCond .eq 41, 3) := by decide +kernel
theorem dX8_gusts_16 : decode cX8_gusts 16 = .ok (.iload_n 3, 1) := by decide +kernel
theorem dX8_gusts_17 : decode cX8_gusts 17 = .ok (.i2l, 1) := by decide +kernel
theorem dX8_gusts_18 : decode cX8_gusts 18 = .ok (.lconst 1, 1) := by decide +kernel
theorem dX8_gusts_19 : decode cX8_gusts 19 = .ok (.ldc2_w 101, 3) := by decide +kernel
theorem dX8_gusts_22 : decode cX8_gusts 22 = .ok (.invokestatic 60, 3) := by decide +kernel
theorem dX8_gusts_25 : decode cX8_gusts 25 = .ok (.ifCond .eq 29, 3) := by decide +kernel
theorem dX8_gusts_28 : decode cX8_gusts 28 = .ok (.iload 4, 2) := by decide +kernel
theorem dX8_gusts_30 : decode cX8_gusts 30 = .ok (.i2l, 1) := by decide +kernel
theorem dX8_gusts_31 : decode cX8_gusts 31 = .ok (.lconst 0, 1) := by decide +kernel
theorem dX8_gusts_32 : decode cX8_gusts 32 = .ok (.ldc2_w 101, 3) := by decide +kernel
theorem dX8_gusts_35 : decode cX8_gusts 35 = .ok (.invokestatic 60, 3) := by decide +kernel
theorem dX8_gusts_38 : decode cX8_gusts 38 = .ok (.ifCond .eq 16, 3) := by decide +kernel
theorem dX8_gusts_41 : decode cX8_gusts 41 = .ok (.iload 5, 2) := by decide +kernel
theorem dX8_gusts_43 : decode cX8_gusts 43 = .ok (.i2l, 1) := by decide +kernel
theorem dX8_gusts_44 : decode cX8_gusts 44 = .ok (.lconst 0, 1) := by decide +kernel
theorem dX8_gusts_45 : decode cX8_gusts 45 = .ok (.ldc2_w 298, 3) := by decide +kernel
theorem dX8_gusts_48 : decode cX8_gusts 48 = .ok (.invokestatic 60, 3) := by decide +kernel
theorem dX8_gusts_51 : decode cX8_gusts 51 = .ok (.ifCond .ne 8, 3) := by decide +kernel
theorem dX8_gusts_54 : decode cX8_gusts 54 = .ok (.aload_n 0, 1) := by decide +kernel
theorem dX8_gusts_55 : decode cX8_gusts 55 = .ok (.invokevirtual 103, 3) := by decide +kernel
theorem dX8_gusts_58 : decode cX8_gusts 58 = .ok (.ireturn, 1) := by decide +kernel
theorem dX8_gusts_59 : decode cX8_gusts 59 = .ok (.aload_n 0, 1) := by decide +kernel
theorem dX8_gusts_60 : decode cX8_gusts 60 = .ok (.getfield 7, 3) := by decide +kernel
theorem dX8_gusts_63 : decode cX8_gusts 63 = .ok (.iconst 4, 1) := by decide +kernel
theorem dX8_gusts_64 : decode cX8_gusts 64 = .ok (.iaload, 1) := by decide +kernel
theorem dX8_gusts_65 : decode cX8_gusts 65 = .ok (.iconst 4, 1) := by decide +kernel
theorem dX8_gusts_66 : decode cX8_gusts 66 = .ok (.iadd, 1) := by decide +kernel
theorem dX8_gusts_67 : decode cX8_gusts 67 = .ok (.bipush 9, 2) := by decide +kernel
theorem dX8_gusts_69 : decode cX8_gusts 69 = .ok (.if_icmp .ge 14, 3) := by decide +kernel
theorem dX8_gusts_72 : decode cX8_gusts 72 = .ok (.aload_n 0, 1) := by decide +kernel
theorem dX8_gusts_73 : decode cX8_gusts 73 = .ok (.getfield 7, 3) := by decide +kernel
theorem dX8_gusts_76 : decode cX8_gusts 76 = .ok (.iconst 4, 1) := by decide +kernel
theorem dX8_gusts_77 : decode cX8_gusts 77 = .ok (.iaload, 1) := by decide +kernel
theorem dX8_gusts_78 : decode cX8_gusts 78 = .ok (.iconst 4, 1) := by decide +kernel
theorem dX8_gusts_79 : decode cX8_gusts 79 = .ok (.iadd, 1) := by decide +kernel
theorem dX8_gusts_80 : decode cX8_gusts 80 = .ok (.goto 5, 3) := by decide +kernel
theorem dX8_gusts_83 : decode cX8_gusts 83 = .ok (.bipush 9, 2) := by decide +kernel
theorem dX8_gusts_85 : decode cX8_gusts 85 = .ok (.istore 6, 2) := by decide +kernel
theorem dX8_gusts_87 : decode cX8_gusts 87 = .ok (.aload_n 0, 1) := by decide +kernel
theorem dX8_gusts_88 : decode cX8_gusts 88 = .ok (.iload_n 1, 1) := by decide +kernel
theorem dX8_gusts_89 : decode cX8_gusts 89 = .ok (.iload_n 3, 1) := by decide +kernel
theorem dX8_gusts_90 : decode cX8_gusts 90 = .ok (.iload_n 2, 1) := by decide +kernel
theorem dX8_gusts_91 : decode cX8_gusts 91 = .ok (.aload_n 0, 1) := by decide +kernel
theorem dX8_gusts_92 : decode cX8_gusts 92 = .ok (.getfield 7, 3) := by decide +kernel
theorem dX8_gusts_95 : decode cX8_gusts 95 = .ok (.iconst 4, 1) := by decide +kernel
theorem dX8_gusts_96 : decode cX8_gusts 96 = .ok (.iaload, 1) := by decide +kernel
theorem dX8_gusts_97 : decode cX8_gusts 97 = .ok (.invokevirtual 232, 3) := by decide +kernel
theorem dX8_gusts_100 : decode cX8_gusts 100 = .ok (.ifCond .eq 12, 3) := by decide +kernel
theorem dX8_gusts_103 : decode cX8_gusts 103 = .ok (.aload_n 0, 1) := by decide +kernel
theorem dX8_gusts_104 : decode cX8_gusts 104 = .ok (.iload_n 1, 1) := by decide +kernel
theorem dX8_gusts_105 : decode cX8_gusts 105 = .ok (.iload_n 3, 1) := by decide +kernel
theorem dX8_gusts_106 : decode cX8_gusts 106 = .ok (.invokevirtual 236, 3) := by decide +kernel
theorem dX8_gusts_109 : decode cX8_gusts 109 = .ok (.goto 4, 3) := by decide +kernel
theorem dX8_gusts_112 : decode cX8_gusts 112 = .ok (.iconst 0, 1) := by decide +kernel
theorem dX8_gusts_113 : decode cX8_gusts 113 = .ok (.istore 7, 2) := by decide +kernel
theorem dX8_gusts_115 : decode cX8_gusts 115 = .ok (.aload_n 0, 1) := by decide +kernel
theorem dX8_gusts_116 : decode cX8_gusts 116 = .ok (.iload_n 1, 1) := by decide +kernel
theorem dX8_gusts_117 : decode cX8_gusts 117 = .ok (.iload_n 3, 1) := by decide +kernel
theorem dX8_gusts_118 : decode cX8_gusts 118 = .ok (.iload_n 2, 1) := by decide +kernel
theorem dX8_gusts_119 : decode cX8_gusts 119 = .ok (.iload 6, 2) := by decide +kernel
theorem dX8_gusts_121 : decode cX8_gusts 121 = .ok (.invokevirtual 232, 3) := by decide +kernel
theorem dX8_gusts_124 : decode cX8_gusts 124 = .ok (.ifCond .eq 12, 3) := by decide +kernel
theorem dX8_gusts_127 : decode cX8_gusts 127 = .ok (.aload_n 0, 1) := by decide +kernel
theorem dX8_gusts_128 : decode cX8_gusts 128 = .ok (.iload_n 1, 1) := by decide +kernel
theorem dX8_gusts_129 : decode cX8_gusts 129 = .ok (.iload_n 3, 1) := by decide +kernel
theorem dX8_gusts_130 : decode cX8_gusts 130 = .ok (.invokevirtual 236, 3) := by decide +kernel
theorem dX8_gusts_133 : decode cX8_gusts 133 = .ok (.goto 4, 3) := by decide +kernel
theorem dX8_gusts_136 : decode cX8_gusts 136 = .ok (.iconst 0, 1) := by decide +kernel
theorem dX8_gusts_137 : decode cX8_gusts 137 = .ok (.istore 8, 2) := by decide +kernel
theorem dX8_gusts_139 : decode cX8_gusts 139 = .ok (.iload 4, 2) := by decide +kernel
theorem dX8_gusts_141 : decode cX8_gusts 141 = .ok (.bipush 10, 2) := by decide +kernel
theorem dX8_gusts_143 : decode cX8_gusts 143 = .ok (.iload 5, 2) := by decide +kernel
theorem dX8_gusts_145 : decode cX8_gusts 145 = .ok (.isub, 1) := by decide +kernel
theorem dX8_gusts_146 : decode cX8_gusts 146 = .ok (.iload 7, 2) := by decide +kernel
theorem dX8_gusts_148 : decode cX8_gusts 148 = .ok (.imul, 1) := by decide +kernel
theorem dX8_gusts_149 : decode cX8_gusts 149 = .ok (.iload 5, 2) := by decide +kernel
theorem dX8_gusts_151 : decode cX8_gusts 151 = .ok (.iload 8, 2) := by decide +kernel
theorem dX8_gusts_153 : decode cX8_gusts 153 = .ok (.imul, 1) := by decide +kernel
theorem dX8_gusts_154 : decode cX8_gusts 154 = .ok (.iadd, 1) := by decide +kernel
theorem dX8_gusts_155 : decode cX8_gusts 155 = .ok (.imul, 1) := by decide +kernel
theorem dX8_gusts_156 : decode cX8_gusts 156 = .ok (.istore 9, 2) := by decide +kernel
theorem dX8_gusts_158 : decode cX8_gusts 158 = .ok (.bipush 10, 2) := by decide +kernel
theorem dX8_gusts_160 : decode cX8_gusts 160 = .ok (.iload 9, 2) := by decide +kernel
theorem dX8_gusts_162 : decode cX8_gusts 162 = .ok (.invokestatic 300, 3) := by decide +kernel
theorem dX8_gusts_165 : decode cX8_gusts 165 = .ok (.istore 10, 2) := by decide +kernel
theorem dX8_gusts_167 : decode cX8_gusts 167 = .ok (.aload_n 0, 1) := by decide +kernel
theorem dX8_gusts_168 : decode cX8_gusts 168 = .ok (.iload 9, 2) := by decide +kernel
theorem dX8_gusts_170 : decode cX8_gusts 170 = .ok (.iload 10, 2) := by decide +kernel
theorem dX8_gusts_172 : decode cX8_gusts 172 = .ok (.idiv, 1) := by decide +kernel
theorem dX8_gusts_173 : decode cX8_gusts 173 = .ok (.i2l, 1) := by decide +kernel
theorem dX8_gusts_174 : decode cX8_gusts 174 = .ok (.putfield 303, 3) := by decide +kernel
theorem dX8_gusts_177 : decode cX8_gusts 177 = .ok (.aload_n 0, 1) := by decide +kernel
theorem dX8_gusts_178 : decode cX8_gusts 178 = .ok (.bipush 10, 2) := by decide +kernel
theorem dX8_gusts_180 : decode cX8_gusts 180 = .ok (.iload 10, 2) := by decide +kernel
theorem dX8_gusts_182 : decode cX8_gusts 182 = .ok (.idiv, 1) := by decide +kernel
theorem dX8_gusts_183 : decode cX8_gusts 183 = .ok (.i2l, 1) := by decide +kernel
theorem dX8_gusts_184 : decode cX8_gusts 184 = .ok (.putfield 16, 3) := by decide +kernel
theorem dX8_gusts_187 : decode cX8_gusts 187 = .ok (.iconst 1, 1) := by decide +kernel
theorem dX8_gusts_188 : decode cX8_gusts 188 = .ok (.ireturn, 1) := by decide +kernel
set_option maxRecDepth 20000 in
theorem dX8_summers_0 : decode cX8_summers 0 = .ok (.iload_n 1, 1) := by decide +kernel
theorem dX8_summers_1 : decode cX8_summers 1 = .ok (.i2l, 1) := by decide +kernel
theorem dX8_summers_2 : decode cX8_summers 2 = .ok (.lconst 0, 1) := by decide +kernel
theorem dX8_summers_3 : decode cX8_summers 3 = .ok (.ldc2_w 306, 3) := by decide +kernel
theorem dX8_summers_6 : decode cX8_summers 6 = .ok (.invokestatic 60, 3) := by decide +kernel
theorem dX8_summers_9 : decode cX8_summers 9 = .ok (.ifCond .eq 15, 3) := by decide +kernel
theorem dX8_summers_12 : decode cX8_summers 12 = .ok (.iload_n 2, 1) := by decide +kernel
theorem dX8_summers_13 : decode cX8_summers 13 = .ok (.i2l, 1) := by decide +kernel
theorem dX8_summers_14 : decode cX8_summers 14 = .ok (.lconst 0, 1) := by decide +kernel
theorem dX8_summers_15 : decode cX8_summers 15 = .ok (.ldc2_w 209, 3) := by decide +kernel
theorem dX8_summers_18 : decode cX8_summers 18 = .ok (.invokestatic 60, 3) := by decide +kernel
theorem dX8_summers_21 : decode cX8_summers 21 = .ok (.ifCond .ne 8, 3) := by decide +kernel
theorem dX8_summers_24 : decode cX8_summers 24 = .ok (.aload_n 0, 1) := by decide +kernel
theorem dX8_summers_25 : decode cX8_summers 25 = .ok (.invokevirtual 103, 3) := by decide +kernel
theorem dX8_summers_28 : decode cX8_summers 28 = .ok (.ireturn, 1) := by decide +kernel
theorem dX8_summers_29 : decode cX8_summers 29 = .ok (.iconst 0, 1) := by decide +kernel
theorem dX8_summers_30 : decode cX8_summers 30 = .ok (.istore_n 3, 1) := by decide +kernel
theorem dX8_summers_31 : decode cX8_summers 31 = .ok (.iload_n 3, 1) := by decide +kernel
theorem dX8_summers_32 : decode cX8_summers 32 = .ok (.sipush 168, 3) := by decide +kernel
theorem dX8_summers_35 : decode cX8_summers 35 = .ok (.if_icmp .ge 21, 3) := by decide +kernel
theorem dX8_summers_38 : decode cX8_summers 38 = .ok (.aload_n 0, 1) := by decide +kernel
theorem dX8_summers_39 : decode cX8_summers 39 = .ok (.getfield 44, 3) := by decide +kernel
theorem dX8_summers_42 : decode cX8_summers 42 = .ok (.iload_n 3, 1) := by decide +kernel
theorem dX8_summers_43 : decode cX8_summers 43 = .ok (.aload_n 0, 1) := by decide +kernel
theorem dX8_summers_44 : decode cX8_summers 44 = .ok (.getfield 7, 3) := by decide +kernel
theorem dX8_summers_47 : decode cX8_summers 47 = .ok (.iload_n 3, 1) := by decide +kernel
theorem dX8_summers_48 : decode cX8_summers 48 = .ok (.iaload, 1) := by decide +kernel
theorem dX8_summers_49 : decode cX8_summers 49 = .ok (.iastore, 1) := by decide +kernel
theorem dX8_summers_50 : decode cX8_summers 50 = .ok (.iinc 3 1, 3) := by decide +kernel
theorem dX8_summers_53 : decode cX8_summers 53 = .ok (.goto (-22), 3) := by decide +kernel
theorem dX8_summers_56 : decode cX8_summers 56 = .ok (.iload_n 1, 1) := by decide +kernel
theorem dX8_summers_57 : decode cX8_summers 57 = .ok (.i2l, 1) := by decide +kernel
theorem dX8_summers_58 : decode cX8_summers 58 = .ok (.lstore_n 3, 1) := by decide +kernel
theorem dX8_summers_59 : decode cX8_summers 59 = .ok (.iconst 0, 1) := by decide +kernel
theorem dX8_summers_60 : decode cX8_summers 60 = .ok (.istore 5, 2) := by decide +kernel
theorem dX8_summers_62 : decode cX8_summers 62 = .ok (.iload 5, 2) := by decide +kernel
theorem dX8_summers_64 : decode cX8_summers 64 = .ok (.iload_n 2, 1) := by decide +kernel
theorem dX8_summers_65 : decode cX8_summers 65 = .ok (.if_icmp .ge 81, 3) := by decide +kernel
theorem dX8_summers_68 : decode cX8_summers 68 = .ok (.lload_n 3, 1) := by decide +kernel
theorem dX8_summers_69 : decode cX8_summers 69 = .ok (.ldc2_w 308, 3) := by decide +kernel
theorem dX8_summers_72 : decode cX8_summers 72 = .ok (.lmul, 1) := by decide +kernel
theorem dX8_summers_73 : decode cX8_summers 73 = .ok (.ldc2_w 310, 3) := by decide +kernel
theorem dX8_summers_76 : decode cX8_summers 76 = .ok (.ladd, 1) := by decide +kernel
theorem dX8_summers_77 : decode cX8_summers 77 = .ok (.ldc2_w 312, 3) := by decide +kernel
theorem dX8_summers_80 : decode cX8_summers 80 = .ok (.lrem, 1) := by decide +kernel
theorem dX8_summers_81 : decode cX8_summers 81 = .ok (.lstore_n 3, 1) := by decide +kernel
theorem dX8_summers_82 : decode cX8_summers 82 = .ok (.lload_n 3, 1) := by decide +kernel
theorem dX8_summers_83 : decode cX8_summers 83 = .ok (.ldc2_w 314, 3) := by decide +kernel
theorem dX8_summers_86 : decode cX8_summers 86 = .ok (.ldiv, 1) := by decide +kernel
theorem dX8_summers_87 : decode cX8_summers 87 = .ok (.ldc2_w 111, 3) := by decide +kernel
theorem dX8_summers_90 : decode cX8_summers 90 = .ok (.lrem, 1) := by decide +kernel
theorem dX8_summers_91 : decode cX8_summers 91 = .ok (.l2i, 1) := by decide +kernel
theorem dX8_summers_92 : decode cX8_summers 92 = .ok (.istore 6, 2) := by decide +kernel
theorem dX8_summers_94 : decode cX8_summers 94 = .ok (.iload 6, 2) := by decide +kernel
theorem dX8_summers_96 : decode cX8_summers 96 = .ok (.aload_n 0, 1) := by decide +kernel
theorem dX8_summers_97 : decode cX8_summers 97 = .ok (.getfield 44, 3) := by decide +kernel
theorem dX8_summers_100 : decode cX8_summers 100 = .ok (.iconst 0, 1) := by decide +kernel
theorem dX8_summers_101 : decode cX8_summers 101 = .ok (.iaload, 1) := by decide +kernel
theorem dX8_summers_102 : decode cX8_summers 102 = .ok (.if_icmp .ge 31, 3) := by decide +kernel
theorem dX8_summers_105 : decode cX8_summers 105 = .ok (.aload_n 0, 1) := by decide +kernel
theorem dX8_summers_106 : decode cX8_summers 106 = .ok (.getfield 44, 3) := by decide +kernel
theorem dX8_summers_109 : decode cX8_summers 109 = .ok (.bipush 18, 2) := by decide +kernel
theorem dX8_summers_111 : decode cX8_summers 111 = .ok (.bipush 10, 2) := by decide +kernel
theorem dX8_summers_113 : decode cX8_summers 113 = .ok (.iload 6, 2) := by decide +kernel
theorem dX8_summers_115 : decode cX8_summers 115 = .ok (.imul, 1) := by decide +kernel
theorem dX8_summers_116 : decode cX8_summers 116 = .ok (.iadd, 1) := by decide +kernel
theorem dX8_summers_117 : decode cX8_summers 117 = .ok (.aload_n 0, 1) := by decide +kernel
theorem dX8_summers_118 : decode cX8_summers 118 = .ok (.getfield 44, 3) := by decide +kernel
theorem dX8_summers_121 : decode cX8_summers 121 = .ok (.bipush 8, 2) := by decide +kernel
theorem dX8_summers_123 : decode cX8_summers 123 = .ok (.iload 6, 2) := by decide +kernel
theorem dX8_summers_125 : decode cX8_summers 125 = .ok (.iadd, 1) := by decide +kernel
theorem dX8_summers_126 : decode cX8_summers 126 = .ok (.iaload, 1) := by decide +kernel
theorem dX8_summers_127 : decode cX8_summers 127 = .ok (.invokestatic 217, 3) := by decide +kernel
theorem dX8_summers_130 : decode cX8_summers 130 = .ok (.invokestatic 90, 3) := by decide +kernel
theorem dX8_summers_133 : decode cX8_summers 133 = .ok (.aload_n 0, 1) := by decide +kernel
theorem dX8_summers_134 : decode cX8_summers 134 = .ok (.getfield 44, 3) := by decide +kernel
theorem dX8_summers_137 : decode cX8_summers 137 = .ok (.invokestatic 172, 3) := by decide +kernel
theorem dX8_summers_140 : decode cX8_summers 140 = .ok (.iinc 5 1, 3) := by decide +kernel
theorem dX8_summers_143 : decode cX8_summers 143 = .ok (.goto (-81), 3) := by decide +kernel
theorem dX8_summers_146 : decode cX8_summers 146 = .ok (.iconst 0, 1) := by decide +kernel
theorem dX8_summers_147 : decode cX8_summers 147 = .ok (.istore 5, 2) := by decide +kernel
theorem dX8_summers_149 : decode cX8_summers 149 = .ok (.iconst 0, 1) := by decide +kernel
theorem dX8_summers_150 : decode cX8_summers 150 = .ok (.istore 6, 2) := by decide +kernel
theorem dX8_summers_152 : decode cX8_summers 152 = .ok (.iload 6, 2) := by decide +kernel
theorem dX8_summers_154 : decode cX8_summers 154 = .ok (.aload_n 0, 1) := by decide +kernel
theorem dX8_summers_155 : decode cX8_summers 155 = .ok (.getfield 44, 3) := by decide +kernel
theorem dX8_summers_158 : decode cX8_summers 158 = .ok (.iconst 0, 1) := by decide +kernel
theorem dX8_summers_159 : decode cX8_summers 159 = .ok (.iaload, 1) := by decide +kernel
theorem dX8_summers_160 : decode cX8_summers 160 = .ok (.if_icmp .ge 29, 3) := by decide +kernel
theorem dX8_summers_163 : decode cX8_summers 163 = .ok (.iload 5, 2) := by decide +kernel
theorem dX8_summers_165 : decode cX8_summers 165 = .ok (.aload_n 0, 1) := by decide +kernel
theorem dX8_summers_166 : decode cX8_summers 166 = .ok (.getfield 44, 3) := by decide +kernel
theorem dX8_summers_169 : decode cX8_summers 169 = .ok (.bipush 18, 2) := by decide +kernel
theorem dX8_summers_171 : decode cX8_summers 171 = .ok (.bipush 10, 2) := by decide +kernel
theorem dX8_summers_173 : decode cX8_summers 173 = .ok (.iload 6, 2) := by decide +kernel
theorem dX8_summers_175 : decode cX8_summers 175 = .ok (.imul, 1) := by decide +kernel
theorem dX8_summers_176 : decode cX8_summers 176 = .ok (.iadd, 1) := by decide +kernel
theorem dX8_summers_177 : decode cX8_summers 177 = .ok (.invokestatic 83, 3) := by decide +kernel
theorem dX8_summers_180 : decode cX8_summers 180 = .ok (.iadd, 1) := by decide +kernel
theorem dX8_summers_181 : decode cX8_summers 181 = .ok (.istore 5, 2) := by decide +kernel
theorem dX8_summers_183 : decode cX8_summers 183 = .ok (.iinc 6 1, 3) := by decide +kernel
theorem dX8_summers_186 : decode cX8_summers 186 = .ok (.goto (-34), 3) := by decide +kernel
theorem dX8_summers_189 : decode cX8_summers 189 = .ok (.iload 5, 2) := by decide +kernel
theorem dX8_summers_191 : decode cX8_summers 191 = .ok (.ireturn, 1) := by decide +kernel
set_option maxRecDepth 20000 in
theorem dX8_part_0 : decode cX8_part 0 = .ok (.iload_n 1, 1) := by decide +kernel
theorem dX8_part_1 : decode cX8_part 1 = .ok (.ifCond .ne 10, 3) := by decide +kernel
theorem dX8_part_4 : decode cX8_part 4 = .ok (.aload_n 0, 1) := by decide +kernel
theorem dX8_part_5 : decode cX8_part 5 = .ok (.getfield 303, 3) := by decide +kernel
theorem dX8_part_8 : decode cX8_part 8 = .ok (.goto 20, 3) := by decide +kernel
theorem dX8_part_11 : decode cX8_part 11 = .ok (.iload_n 1, 1) := by decide +kernel
theorem dX8_part_12 : decode cX8_part 12 = .ok (.iconst 1, 1) := by decide +kernel
theorem dX8_part_13 : decode cX8_part 13 = .ok (.if_icmp .ne 10, 3) := by decide +kernel
theorem dX8_part_16 : decode cX8_part 16 = .ok (.aload_n 0, 1) := by decide +kernel
theorem dX8_part_17 : decode cX8_part 17 = .ok (.getfield 16, 3) := by decide +kernel
theorem dX8_part_20 : decode cX8_part 20 = .ok (.goto 8, 3) := by decide +kernel
theorem dX8_part_23 : decode cX8_part 23 = .ok (.aload_n 0, 1) := by decide +kernel
theorem dX8_part_24 : decode cX8_part 24 = .ok (.invokevirtual 103, 3) := by decide +kernel
theorem dX8_part_27 : decode cX8_part 27 = .ok (.i2l, 1) := by decide +kernel
theorem dX8_part_28 : decode cX8_part 28 = .ok (.lreturn, 1) := by decide +kernel
set_option maxRecDepth 20000 in
theorem dX8_image_0 : decode cX8_image 0 = .ok (.iload_n 1, 1) := by decide +kernel
theorem dX8_image_1 : decode cX8_image 1 = .ok (.i2l, 1) := by decide +kernel
theorem dX8_image_2 : decode cX8_image 2 = .ok (.lconst 0, 1) := by decide +kernel
theorem dX8_image_3 : decode cX8_image 3 = .ok (.lconst 1, 1) := by decide +kernel
theorem dX8_image_4 : decode cX8_image 4 = .ok (.invokestatic 60, 3) := by decide +kernel
theorem dX8_image_7 : decode cX8_image 7 = .ok (.ifCond .ne 8, 3) := by decide +kernel
theorem dX8_image_10 : decode cX8_image 10 = .ok (.aload_n 0, 1) := by decide +kernel
theorem dX8_image_11 : decode cX8_image 11 = .ok (.invokevirtual 103, 3) := by decide +kernel
theorem dX8_image_14 : decode cX8_image 14 = .ok (.ireturn, 1) := by decide +kernel
theorem dX8_image_15 : decode cX8_image 15 = .ok (.iconst 0, 1) := by decide +kernel
theorem dX8_image_16 : decode cX8_image 16 = .ok (.istore_n 2, 1) := by decide +kernel
theorem dX8_image_17 : decode cX8_image 17 = .ok (.iload_n 2, 1) := by decide +kernel
theorem dX8_image_18 : decode cX8_image 18 = .ok (.sipush 168, 3) := by decide +kernel
theorem dX8_image_21 : decode cX8_image 21 = .ok (.if_icmp .ge 27, 3) := by decide +kernel
theorem dX8_image_24 : decode cX8_image 24 = .ok (.aload_n 0, 1) := by decide +kernel
theorem dX8_image_25 : decode cX8_image 25 = .ok (.getfield 47, 3) := by decide +kernel
theorem dX8_image_28 : decode cX8_image 28 = .ok (.sipush 168, 3) := by decide +kernel
theorem dX8_image_31 : decode cX8_image 31 = .ok (.iload_n 1, 1) := by decide +kernel
theorem dX8_image_32 : decode cX8_image 32 = .ok (.imul, 1) := by decide +kernel
theorem dX8_image_33 : decode cX8_image 33 = .ok (.iload_n 2, 1) := by decide +kernel
theorem dX8_image_34 : decode cX8_image 34 = .ok (.iadd, 1) := by decide +kernel
theorem dX8_image_35 : decode cX8_image 35 = .ok (.aload_n 0, 1) := by decide +kernel
theorem dX8_image_36 : decode cX8_image 36 = .ok (.getfield 7, 3) := by decide +kernel
theorem dX8_image_39 : decode cX8_image 39 = .ok (.iload_n 2, 1) := by decide +kernel
theorem dX8_image_40 : decode cX8_image 40 = .ok (.iaload, 1) := by decide +kernel
theorem dX8_image_41 : decode cX8_image 41 = .ok (.iastore, 1) := by decide +kernel
theorem dX8_image_42 : decode cX8_image 42 = .ok (.iinc 2 1, 3) := by decide +kernel
theorem dX8_image_45 : decode cX8_image 45 = .ok (.goto (-28), 3) := by decide +kernel
theorem dX8_image_48 : decode cX8_image 48 = .ok (.aload_n 0, 1) := by decide +kernel
theorem dX8_image_49 : decode cX8_image 49 = .ok (.getfield 50, 3) := by decide +kernel
theorem dX8_image_52 : decode cX8_image 52 = .ok (.iload_n 1, 1) := by decide +kernel
theorem dX8_image_53 : decode cX8_image 53 = .ok (.iconst 1, 1) := by decide +kernel
theorem dX8_image_54 : decode cX8_image 54 = .ok (.bastore, 1) := by decide +kernel
theorem dX8_image_55 : decode cX8_image 55 = .ok (.aload_n 0, 1) := by decide +kernel
theorem dX8_image_56 : decode cX8_image 56 = .ok (.iload_n 1, 1) := by decide +kernel
theorem dX8_image_57 : decode cX8_image 57 = .ok (.invokevirtual 316, 3) := by decide +kernel
theorem dX8_image_60 : decode cX8_image 60 = .ok (.iconst 1, 1) := by decide +kernel
theorem dX8_image_61 : decode cX8_image 61 = .ok (.ireturn, 1) := by decide +kernel
theorem dX8_keepPast_0 : decode cX8_keepPast 0 = .ok (.aload_n 0, 1) := by decide +kernel
theorem dX8_keepPast_1 : decode cX8_keepPast 1 = .ok (.getfield 54, 3) := by decide +kernel
theorem dX8_keepPast_4 : decode cX8_keepPast 4 = .ok (.iload_n 1, 1) := by decide +kernel
theorem dX8_keepPast_5 : decode cX8_keepPast 5 = .ok (.aload_n 0, 1) := by decide +kernel
theorem dX8_keepPast_6 : decode cX8_keepPast 6 = .ok (.getfield 94, 3) := by decide +kernel
theorem dX8_keepPast_9 : decode cX8_keepPast 9 = .ok (.iastore, 1) := by decide +kernel
theorem dX8_keepPast_10 : decode cX8_keepPast 10 = .ok (.iconst 0, 1) := by decide +kernel
theorem dX8_keepPast_11 : decode cX8_keepPast 11 = .ok (.istore_n 2, 1) := by decide +kernel
theorem dX8_keepPast_12 : decode cX8_keepPast 12 = .ok (.iload_n 2, 1) := by decide +kernel
theorem dX8_keepPast_13 : decode cX8_keepPast 13 = .ok (.sipush 480, 3) := by decide +kernel
theorem dX8_keepPast_16 : decode cX8_keepPast 16 = .ok (.if_icmp .ge 27, 3) := by decide +kernel
theorem dX8_keepPast_19 : decode cX8_keepPast 19 = .ok (.aload_n 0, 1) := by decide +kernel
theorem dX8_keepPast_20 : decode cX8_keepPast 20 = .ok (.getfield 57, 3) := by decide +kernel
theorem dX8_keepPast_23 : decode cX8_keepPast 23 = .ok (.sipush 480, 3) := by decide +kernel
theorem dX8_keepPast_26 : decode cX8_keepPast 26 = .ok (.iload_n 1, 1) := by decide +kernel
theorem dX8_keepPast_27 : decode cX8_keepPast 27 = .ok (.imul, 1) := by decide +kernel
theorem dX8_keepPast_28 : decode cX8_keepPast 28 = .ok (.iload_n 2, 1) := by decide +kernel
theorem dX8_keepPast_29 : decode cX8_keepPast 29 = .ok (.iadd, 1) := by decide +kernel
theorem dX8_keepPast_30 : decode cX8_keepPast 30 = .ok (.aload_n 0, 1) := by decide +kernel
theorem dX8_keepPast_31 : decode cX8_keepPast 31 = .ok (.getfield 20, 3) := by decide +kernel
theorem dX8_keepPast_34 : decode cX8_keepPast 34 = .ok (.iload_n 2, 1) := by decide +kernel
theorem dX8_keepPast_35 : decode cX8_keepPast 35 = .ok (.iaload, 1) := by decide +kernel
theorem dX8_keepPast_36 : decode cX8_keepPast 36 = .ok (.iastore, 1) := by decide +kernel
theorem dX8_keepPast_37 : decode cX8_keepPast 37 = .ok (.iinc 2 1, 3) := by decide +kernel
theorem dX8_keepPast_40 : decode cX8_keepPast 40 = .ok (.goto (-28), 3) := by decide +kernel
theorem dX8_keepPast_43 : decode cX8_keepPast 43 = .ok (.return_, 1) := by decide +kernel
set_option maxRecDepth 20000 in
theorem dX8_from_0 : decode cX8_from 0 = .ok (.iload_n 1, 1) := by decide +kernel
theorem dX8_from_1 : decode cX8_from 1 = .ok (.i2l, 1) := by decide +kernel
theorem dX8_from_2 : decode cX8_from 2 = .ok (.lconst 0, 1) := by decide +kernel
theorem dX8_from_3 : decode cX8_from 3 = .ok (.lconst 1, 1) := by decide +kernel
theorem dX8_from_4 : decode cX8_from 4 = .ok (.invokestatic 60, 3) := by decide +kernel
theorem dX8_from_7 : decode cX8_from 7 = .ok (.ifCond .ne 8, 3) := by decide +kernel
theorem dX8_from_10 : decode cX8_from 10 = .ok (.aload_n 0, 1) := by decide +kernel
theorem dX8_from_11 : decode cX8_from 11 = .ok (.invokevirtual 103, 3) := by decide +kernel
theorem dX8_from_14 : decode cX8_from 14 = .ok (.ireturn, 1) := by decide +kernel
theorem dX8_from_15 : decode cX8_from 15 = .ok (.aload_n 0, 1) := by decide +kernel
theorem dX8_from_16 : decode cX8_from 16 = .ok (.getfield 50, 3) := by decide +kernel
theorem dX8_from_19 : decode cX8_from 19 = .ok (.iload_n 1, 1) := by decide +kernel
theorem dX8_from_20 : decode cX8_from 20 = .ok (.baload, 1) := by decide +kernel
theorem dX8_from_21 : decode cX8_from 21 = .ok (.ifCond .ne 8, 3) := by decide +kernel
theorem dX8_from_24 : decode cX8_from 24 = .ok (.aload_n 0, 1) := by decide +kernel
theorem dX8_from_25 : decode cX8_from 25 = .ok (.invokevirtual 229, 3) := by decide +kernel
theorem dX8_from_28 : decode cX8_from 28 = .ok (.ireturn, 1) := by decide +kernel
theorem dX8_from_29 : decode cX8_from 29 = .ok (.iconst 0, 1) := by decide +kernel
theorem dX8_from_30 : decode cX8_from 30 = .ok (.istore_n 2, 1) := by decide +kernel
theorem dX8_from_31 : decode cX8_from 31 = .ok (.iload_n 2, 1) := by decide +kernel
theorem dX8_from_32 : decode cX8_from 32 = .ok (.sipush 168, 3) := by decide +kernel
theorem dX8_from_35 : decode cX8_from 35 = .ok (.if_icmp .ge 27, 3) := by decide +kernel
theorem dX8_from_38 : decode cX8_from 38 = .ok (.aload_n 0, 1) := by decide +kernel
theorem dX8_from_39 : decode cX8_from 39 = .ok (.getfield 7, 3) := by decide +kernel
theorem dX8_from_42 : decode cX8_from 42 = .ok (.iload_n 2, 1) := by decide +kernel
theorem dX8_from_43 : decode cX8_from 43 = .ok (.aload_n 0, 1) := by decide +kernel
theorem dX8_from_44 : decode cX8_from 44 = .ok (.getfield 47, 3) := by decide +kernel
theorem dX8_from_47 : decode cX8_from 47 = .ok (.sipush 168, 3) := by decide +kernel
theorem dX8_from_50 : decode cX8_from 50 = .ok (.iload_n 1, 1) := by decide +kernel
theorem dX8_from_51 : decode cX8_from 51 = .ok (.imul, 1) := by decide +kernel
theorem dX8_from_52 : decode cX8_from 52 = .ok (.iload_n 2, 1) := by decide +kernel
theorem dX8_from_53 : decode cX8_from 53 = .ok (.iadd, 1) := by decide +kernel
theorem dX8_from_54 : decode cX8_from 54 = .ok (.iaload, 1) := by decide +kernel
theorem dX8_from_55 : decode cX8_from 55 = .ok (.iastore, 1) := by decide +kernel
theorem dX8_from_56 : decode cX8_from 56 = .ok (.iinc 2 1, 3) := by decide +kernel
theorem dX8_from_59 : decode cX8_from 59 = .ok (.goto (-28), 3) := by decide +kernel
theorem dX8_from_62 : decode cX8_from 62 = .ok (.aload_n 0, 1) := by decide +kernel
theorem dX8_from_63 : decode cX8_from 63 = .ok (.aload_n 0, 1) := by decide +kernel
theorem dX8_from_64 : decode cX8_from 64 = .ok (.getfield 54, 3) := by decide +kernel
theorem dX8_from_67 : decode cX8_from 67 = .ok (.iload_n 1, 1) := by decide +kernel
theorem dX8_from_68 : decode cX8_from 68 = .ok (.iaload, 1) := by decide +kernel
theorem dX8_from_69 : decode cX8_from 69 = .ok (.putfield 94, 3) := by decide +kernel
theorem dX8_from_72 : decode cX8_from 72 = .ok (.iconst 0, 1) := by decide +kernel
theorem dX8_from_73 : decode cX8_from 73 = .ok (.istore_n 2, 1) := by decide +kernel
theorem dX8_from_74 : decode cX8_from 74 = .ok (.iload_n 2, 1) := by decide +kernel
theorem dX8_from_75 : decode cX8_from 75 = .ok (.sipush 480, 3) := by decide +kernel
theorem dX8_from_78 : decode cX8_from 78 = .ok (.if_icmp .ge 27, 3) := by decide +kernel
theorem dX8_from_81 : decode cX8_from 81 = .ok (.aload_n 0, 1) := by decide +kernel
theorem dX8_from_82 : decode cX8_from 82 = .ok (.getfield 20, 3) := by decide +kernel
theorem dX8_from_85 : decode cX8_from 85 = .ok (.iload_n 2, 1) := by decide +kernel
theorem dX8_from_86 : decode cX8_from 86 = .ok (.aload_n 0, 1) := by decide +kernel
theorem dX8_from_87 : decode cX8_from 87 = .ok (.getfield 57, 3) := by decide +kernel
theorem dX8_from_90 : decode cX8_from 90 = .ok (.sipush 480, 3) := by decide +kernel
theorem dX8_from_93 : decode cX8_from 93 = .ok (.iload_n 1, 1) := by decide +kernel
theorem dX8_from_94 : decode cX8_from 94 = .ok (.imul, 1) := by decide +kernel
theorem dX8_from_95 : decode cX8_from 95 = .ok (.iload_n 2, 1) := by decide +kernel
theorem dX8_from_96 : decode cX8_from 96 = .ok (.iadd, 1) := by decide +kernel
theorem dX8_from_97 : decode cX8_from 97 = .ok (.iaload, 1) := by decide +kernel
theorem dX8_from_98 : decode cX8_from 98 = .ok (.iastore, 1) := by decide +kernel
theorem dX8_from_99 : decode cX8_from 99 = .ok (.iinc 2 1, 3) := by decide +kernel
theorem dX8_from_102 : decode cX8_from 102 = .ok (.goto (-28), 3) := by decide +kernel
theorem dX8_from_105 : decode cX8_from 105 = .ok (.iconst 1, 1) := by decide +kernel
theorem dX8_from_106 : decode cX8_from 106 = .ok (.ireturn, 1) := by decide +kernel
set_option maxRecDepth 20000 in
theorem dX8_status_0 : decode cX8_status 0 = .ok (.iload_n 1, 1) := by decide +kernel
theorem dX8_status_1 : decode cX8_status 1 = .ok (.i2l, 1) := by decide +kernel
theorem dX8_status_2 : decode cX8_status 2 = .ok (.lconst 0, 1) := by decide +kernel
theorem dX8_status_3 : decode cX8_status 3 = .ok (.ldc2_w 283, 3) := by decide +kernel
theorem dX8_status_6 : decode cX8_status 6 = .ok (.invokestatic 60, 3) := by decide +kernel
theorem dX8_status_9 : decode cX8_status 9 = .ok (.ifCond .eq 10, 3) := by decide +kernel
theorem dX8_status_12 : decode cX8_status 12 = .ok (.aload_n 0, 1) := by decide +kernel
theorem dX8_status_13 : decode cX8_status 13 = .ok (.getfield 13, 3) := by decide +kernel
theorem dX8_status_16 : decode cX8_status 16 = .ok (.iload_n 1, 1) := by decide +kernel
theorem dX8_status_17 : decode cX8_status 17 = .ok (.iaload, 1) := by decide +kernel
theorem dX8_status_18 : decode cX8_status 18 = .ok (.ireturn, 1) := by decide +kernel
theorem dX8_status_19 : decode cX8_status 19 = .ok (.aload_n 0, 1) := by decide +kernel
theorem dX8_status_20 : decode cX8_status 20 = .ok (.getfield 13, 3) := by decide +kernel
theorem dX8_status_23 : decode cX8_status 23 = .ok (.iconst 0, 1) := by decide +kernel
theorem dX8_status_24 : decode cX8_status 24 = .ok (.dup2, 1) := by decide +kernel
theorem dX8_status_25 : decode cX8_status 25 = .ok (.iaload, 1) := by decide +kernel
theorem dX8_status_26 : decode cX8_status 26 = .ok (.iconst 1, 1) := by decide +kernel
theorem dX8_status_27 : decode cX8_status 27 = .ok (.iadd, 1) := by decide +kernel
theorem dX8_status_28 : decode cX8_status 28 = .ok (.iastore, 1) := by decide +kernel
theorem dX8_status_29 : decode cX8_status 29 = .ok (.iconst (-1), 1) := by decide +kernel
theorem dX8_status_30 : decode cX8_status 30 = .ok (.ireturn, 1) := by decide +kernel
set_option maxRecDepth 20000 in
theorem dX8_turnedNow_0 : decode cX8_turnedNow 0 = .ok (.iconst 0, 1) := by decide +kernel
theorem dX8_turnedNow_1 : decode cX8_turnedNow 1 = .ok (.istore_n 1, 1) := by decide +kernel
theorem dX8_turnedNow_2 : decode cX8_turnedNow 2 = .ok (.iconst 0, 1) := by decide +kernel
theorem dX8_turnedNow_3 : decode cX8_turnedNow 3 = .ok (.istore_n 2, 1) := by decide +kernel
theorem dX8_turnedNow_4 : decode cX8_turnedNow 4 = .ok (.iload_n 2, 1) := by decide +kernel
theorem dX8_turnedNow_5 : decode cX8_turnedNow 5 = .ok (.aload_n 0, 1) := by decide +kernel
theorem dX8_turnedNow_6 : decode cX8_turnedNow 6 = .ok (.getfield 7, 3) := by decide +kernel
theorem dX8_turnedNow_9 : decode cX8_turnedNow 9 = .ok (.iconst 2, 1) := by decide +kernel
theorem dX8_turnedNow_10 : decode cX8_turnedNow 10 = .ok (.iaload, 1) := by decide +kernel
theorem dX8_turnedNow_11 : decode cX8_turnedNow 11 = .ok (.if_icmp .ge 25, 3) := by decide +kernel
theorem dX8_turnedNow_14 : decode cX8_turnedNow 14 = .ok (.iload_n 1, 1) := by decide +kernel
theorem dX8_turnedNow_15 : decode cX8_turnedNow 15 = .ok (.aload_n 0, 1) := by decide +kernel
theorem dX8_turnedNow_16 : decode cX8_turnedNow 16 = .ok (.iload_n 2, 1) := by decide +kernel
theorem dX8_turnedNow_17 : decode cX8_turnedNow 17 = .ok (.invokevirtual 239, 3) := by decide +kernel
theorem dX8_turnedNow_20 : decode cX8_turnedNow 20 = .ok (.ifCond .eq 7, 3) := by decide +kernel
theorem dX8_turnedNow_23 : decode cX8_turnedNow 23 = .ok (.iconst 1, 1) := by decide +kernel
theorem dX8_turnedNow_24 : decode cX8_turnedNow 24 = .ok (.goto 4, 3) := by decide +kernel
theorem dX8_turnedNow_27 : decode cX8_turnedNow 27 = .ok (.iconst 0, 1) := by decide +kernel
theorem dX8_turnedNow_28 : decode cX8_turnedNow 28 = .ok (.iadd, 1) := by decide +kernel
theorem dX8_turnedNow_29 : decode cX8_turnedNow 29 = .ok (.istore_n 1, 1) := by decide +kernel
theorem dX8_turnedNow_30 : decode cX8_turnedNow 30 = .ok (.iinc 2 1, 3) := by decide +kernel
theorem dX8_turnedNow_33 : decode cX8_turnedNow 33 = .ok (.goto (-29), 3) := by decide +kernel
theorem dX8_turnedNow_36 : decode cX8_turnedNow 36 = .ok (.iload_n 1, 1) := by decide +kernel
theorem dX8_turnedNow_37 : decode cX8_turnedNow 37 = .ok (.ireturn, 1) := by decide +kernel
set_option maxRecDepth 20000 in
theorem dX8_countOf_0 : decode cX8_countOf 0 = .ok (.iload_n 1, 1) := by decide +kernel
theorem dX8_countOf_1 : decode cX8_countOf 1 = .ok (.tableswitch 132 0 10 #[59, 66, 73, 80, 87, 94, 99, 104, 111, 119, 127], 59) := by decide +kernel
theorem dX8_countOf_60 : decode cX8_countOf 60 = .ok (.aload_n 0, 1) := by decide +kernel
theorem dX8_countOf_61 : decode cX8_countOf 61 = .ok (.getfield 7, 3) := by decide +kernel
theorem dX8_countOf_64 : decode cX8_countOf 64 = .ok (.iconst 0, 1) := by decide +kernel
theorem dX8_countOf_65 : decode cX8_countOf 65 = .ok (.iaload, 1) := by decide +kernel
theorem dX8_countOf_66 : decode cX8_countOf 66 = .ok (.ireturn, 1) := by decide +kernel
theorem dX8_countOf_67 : decode cX8_countOf 67 = .ok (.aload_n 0, 1) := by decide +kernel
theorem dX8_countOf_68 : decode cX8_countOf 68 = .ok (.getfield 7, 3) := by decide +kernel
theorem dX8_countOf_71 : decode cX8_countOf 71 = .ok (.iconst 1, 1) := by decide +kernel
theorem dX8_countOf_72 : decode cX8_countOf 72 = .ok (.iaload, 1) := by decide +kernel
theorem dX8_countOf_73 : decode cX8_countOf 73 = .ok (.ireturn, 1) := by decide +kernel
theorem dX8_countOf_74 : decode cX8_countOf 74 = .ok (.aload_n 0, 1) := by decide +kernel
theorem dX8_countOf_75 : decode cX8_countOf 75 = .ok (.getfield 7, 3) := by decide +kernel
theorem dX8_countOf_78 : decode cX8_countOf 78 = .ok (.iconst 2, 1) := by decide +kernel
theorem dX8_countOf_79 : decode cX8_countOf 79 = .ok (.iaload, 1) := by decide +kernel
theorem dX8_countOf_80 : decode cX8_countOf 80 = .ok (.ireturn, 1) := by decide +kernel
theorem dX8_countOf_81 : decode cX8_countOf 81 = .ok (.aload_n 0, 1) := by decide +kernel
theorem dX8_countOf_82 : decode cX8_countOf 82 = .ok (.getfield 7, 3) := by decide +kernel
theorem dX8_countOf_85 : decode cX8_countOf 85 = .ok (.iconst 3, 1) := by decide +kernel
theorem dX8_countOf_86 : decode cX8_countOf 86 = .ok (.iaload, 1) := by decide +kernel
theorem dX8_countOf_87 : decode cX8_countOf 87 = .ok (.ireturn, 1) := by decide +kernel
theorem dX8_countOf_88 : decode cX8_countOf 88 = .ok (.aload_n 0, 1) := by decide +kernel
theorem dX8_countOf_89 : decode cX8_countOf 89 = .ok (.getfield 7, 3) := by decide +kernel
theorem dX8_countOf_92 : decode cX8_countOf 92 = .ok (.iconst 4, 1) := by decide +kernel
theorem dX8_countOf_93 : decode cX8_countOf 93 = .ok (.iaload, 1) := by decide +kernel
theorem dX8_countOf_94 : decode cX8_countOf 94 = .ok (.ireturn, 1) := by decide +kernel
theorem dX8_countOf_95 : decode cX8_countOf 95 = .ok (.aload_n 0, 1) := by decide +kernel
theorem dX8_countOf_96 : decode cX8_countOf 96 = .ok (.invokevirtual 214, 3) := by decide +kernel
theorem dX8_countOf_99 : decode cX8_countOf 99 = .ok (.ireturn, 1) := by decide +kernel
theorem dX8_countOf_100 : decode cX8_countOf 100 = .ok (.aload_n 0, 1) := by decide +kernel
theorem dX8_countOf_101 : decode cX8_countOf 101 = .ok (.invokevirtual 319, 3) := by decide +kernel
theorem dX8_countOf_104 : decode cX8_countOf 104 = .ok (.ireturn, 1) := by decide +kernel
theorem dX8_countOf_105 : decode cX8_countOf 105 = .ok (.aload_n 0, 1) := by decide +kernel
theorem dX8_countOf_106 : decode cX8_countOf 106 = .ok (.getfield 7, 3) := by decide +kernel
theorem dX8_countOf_109 : decode cX8_countOf 109 = .ok (.iconst 5, 1) := by decide +kernel
theorem dX8_countOf_110 : decode cX8_countOf 110 = .ok (.iaload, 1) := by decide +kernel
theorem dX8_countOf_111 : decode cX8_countOf 111 = .ok (.ireturn, 1) := by decide +kernel
theorem dX8_countOf_112 : decode cX8_countOf 112 = .ok (.aload_n 0, 1) := by decide +kernel
theorem dX8_countOf_113 : decode cX8_countOf 113 = .ok (.getfield 7, 3) := by decide +kernel
theorem dX8_countOf_116 : decode cX8_countOf 116 = .ok (.bipush 6, 2) := by decide +kernel
theorem dX8_countOf_118 : decode cX8_countOf 118 = .ok (.iaload, 1) := by decide +kernel
theorem dX8_countOf_119 : decode cX8_countOf 119 = .ok (.ireturn, 1) := by decide +kernel
theorem dX8_countOf_120 : decode cX8_countOf 120 = .ok (.aload_n 0, 1) := by decide +kernel
theorem dX8_countOf_121 : decode cX8_countOf 121 = .ok (.getfield 7, 3) := by decide +kernel
theorem dX8_countOf_124 : decode cX8_countOf 124 = .ok (.bipush 7, 2) := by decide +kernel
theorem dX8_countOf_126 : decode cX8_countOf 126 = .ok (.iaload, 1) := by decide +kernel
theorem dX8_countOf_127 : decode cX8_countOf 127 = .ok (.ireturn, 1) := by decide +kernel
theorem dX8_countOf_128 : decode cX8_countOf 128 = .ok (.aload_n 0, 1) := by decide +kernel
theorem dX8_countOf_129 : decode cX8_countOf 129 = .ok (.getfield 94, 3) := by decide +kernel
theorem dX8_countOf_132 : decode cX8_countOf 132 = .ok (.ireturn, 1) := by decide +kernel
theorem dX8_countOf_133 : decode cX8_countOf 133 = .ok (.aload_n 0, 1) := by decide +kernel
theorem dX8_countOf_134 : decode cX8_countOf 134 = .ok (.getfield 128, 3) := by decide +kernel
theorem dX8_countOf_137 : decode cX8_countOf 137 = .ok (.ireturn, 1) := by decide +kernel
set_option maxRecDepth 20000 in
theorem dX8_count_0 : decode cX8_count 0 = .ok (.iload_n 1, 1) := by decide +kernel
theorem dX8_count_1 : decode cX8_count 1 = .ok (.i2l, 1) := by decide +kernel
theorem dX8_count_2 : decode cX8_count 2 = .ok (.lconst 0, 1) := by decide +kernel
theorem dX8_count_3 : decode cX8_count 3 = .ok (.ldc2_w 322, 3) := by decide +kernel
theorem dX8_count_6 : decode cX8_count 6 = .ok (.invokestatic 60, 3) := by decide +kernel
theorem dX8_count_9 : decode cX8_count 9 = .ok (.ifCond .eq 11, 3) := by decide +kernel
theorem dX8_count_12 : decode cX8_count 12 = .ok (.aload_n 0, 1) := by decide +kernel
theorem dX8_count_13 : decode cX8_count 13 = .ok (.iload_n 1, 1) := by decide +kernel
theorem dX8_count_14 : decode cX8_count 14 = .ok (.invokevirtual 324, 3) := by decide +kernel
theorem dX8_count_17 : decode cX8_count 17 = .ok (.goto 7, 3) := by decide +kernel
theorem dX8_count_20 : decode cX8_count 20 = .ok (.aload_n 0, 1) := by decide +kernel
theorem dX8_count_21 : decode cX8_count 21 = .ok (.invokevirtual 103, 3) := by decide +kernel
theorem dX8_count_24 : decode cX8_count 24 = .ok (.ireturn, 1) := by decide +kernel
theorem dX8_add_0 : decode cX8_add 0 = .ok (.iconst 0, 1) := by decide +kernel
theorem dX8_add_1 : decode cX8_add 1 = .ok (.istore_n 3, 1) := by decide +kernel
theorem dX8_add_2 : decode cX8_add 2 = .ok (.iload_n 3, 1) := by decide +kernel
theorem dX8_add_3 : decode cX8_add 3 = .ok (.iload_n 2, 1) := by decide +kernel
theorem dX8_add_4 : decode cX8_add 4 = .ok (.if_icmp .ge 31, 3) := by decide +kernel
theorem dX8_add_7 : decode cX8_add 7 = .ok (.aload_n 0, 1) := by decide +kernel
theorem dX8_add_8 : decode cX8_add 8 = .ok (.ldc2_w 327, 3) := by decide +kernel
theorem dX8_add_11 : decode cX8_add 11 = .ok (.aload_n 0, 1) := by decide +kernel
theorem dX8_add_12 : decode cX8_add 12 = .ok (.getfield 329, 3) := by decide +kernel
theorem dX8_add_15 : decode cX8_add 15 = .ok (.lmul, 1) := by decide +kernel
theorem dX8_add_16 : decode cX8_add 16 = .ok (.aload_n 0, 1) := by decide +kernel
theorem dX8_add_17 : decode cX8_add 17 = .ok (.getfield 7, 3) := by decide +kernel
theorem dX8_add_20 : decode cX8_add 20 = .ok (.iload_n 1, 1) := by decide +kernel
theorem dX8_add_21 : decode cX8_add 21 = .ok (.iload_n 3, 1) := by decide +kernel
theorem dX8_add_22 : decode cX8_add 22 = .ok (.iadd, 1) := by decide +kernel
theorem dX8_add_23 : decode cX8_add 23 = .ok (.iaload, 1) := by decide +kernel
theorem dX8_add_24 : decode cX8_add 24 = .ok (.i2l, 1) := by decide +kernel
theorem dX8_add_25 : decode cX8_add 25 = .ok (.ladd, 1) := by decide +kernel
theorem dX8_add_26 : decode cX8_add 26 = .ok (.putfield 329, 3) := by decide +kernel
theorem dX8_add_29 : decode cX8_add 29 = .ok (.iinc 3 1, 3) := by decide +kernel
theorem dX8_add_32 : decode cX8_add 32 = .ok (.goto (-30), 3) := by decide +kernel
theorem dX8_add_35 : decode cX8_add 35 = .ok (.return_, 1) := by decide +kernel
set_option maxRecDepth 20000 in
theorem dX8_digest_0 : decode cX8_digest 0 = .ok (.aload_n 0, 1) := by decide +kernel
theorem dX8_digest_1 : decode cX8_digest 1 = .ok (.ldc2_w 332, 3) := by decide +kernel
theorem dX8_digest_4 : decode cX8_digest 4 = .ok (.putfield 329, 3) := by decide +kernel
theorem dX8_digest_7 : decode cX8_digest 7 = .ok (.iconst 0, 1) := by decide +kernel
theorem dX8_digest_8 : decode cX8_digest 8 = .ok (.istore_n 1, 1) := by decide +kernel
theorem dX8_digest_9 : decode cX8_digest 9 = .ok (.iload_n 1, 1) := by decide +kernel
theorem dX8_digest_10 : decode cX8_digest 10 = .ok (.bipush 12, 2) := by decide +kernel
theorem dX8_digest_12 : decode cX8_digest 12 = .ok (.if_icmp .ge 28, 3) := by decide +kernel
theorem dX8_digest_15 : decode cX8_digest 15 = .ok (.aload_n 0, 1) := by decide +kernel
theorem dX8_digest_16 : decode cX8_digest 16 = .ok (.ldc2_w 327, 3) := by decide +kernel
theorem dX8_digest_19 : decode cX8_digest 19 = .ok (.aload_n 0, 1) := by decide +kernel
theorem dX8_digest_20 : decode cX8_digest 20 = .ok (.getfield 329, 3) := by decide +kernel
theorem dX8_digest_23 : decode cX8_digest 23 = .ok (.lmul, 1) := by decide +kernel
theorem dX8_digest_24 : decode cX8_digest 24 = .ok (.aload_n 0, 1) := by decide +kernel
theorem dX8_digest_25 : decode cX8_digest 25 = .ok (.iload_n 1, 1) := by decide +kernel
theorem dX8_digest_26 : decode cX8_digest 26 = .ok (.invokevirtual 324, 3) := by decide +kernel
theorem dX8_digest_29 : decode cX8_digest 29 = .ok (.i2l, 1) := by decide +kernel
theorem dX8_digest_30 : decode cX8_digest 30 = .ok (.ladd, 1) := by decide +kernel
theorem dX8_digest_31 : decode cX8_digest 31 = .ok (.putfield 329, 3) := by decide +kernel
theorem dX8_digest_34 : decode cX8_digest 34 = .ok (.iinc 1 1, 3) := by decide +kernel
theorem dX8_digest_37 : decode cX8_digest 37 = .ok (.goto (-28), 3) := by decide +kernel
theorem dX8_digest_40 : decode cX8_digest 40 = .ok (.iconst 0, 1) := by decide +kernel
theorem dX8_digest_41 : decode cX8_digest 41 = .ok (.istore_n 1, 1) := by decide +kernel
theorem dX8_digest_42 : decode cX8_digest 42 = .ok (.iload_n 1, 1) := by decide +kernel
theorem dX8_digest_43 : decode cX8_digest 43 = .ok (.aload_n 0, 1) := by decide +kernel
theorem dX8_digest_44 : decode cX8_digest 44 = .ok (.getfield 7, 3) := by decide +kernel
theorem dX8_digest_47 : decode cX8_digest 47 = .ok (.iconst 0, 1) := by decide +kernel
theorem dX8_digest_48 : decode cX8_digest 48 = .ok (.iaload, 1) := by decide +kernel
theorem dX8_digest_49 : decode cX8_digest 49 = .ok (.if_icmp .ge 42, 3) := by decide +kernel
theorem dX8_digest_52 : decode cX8_digest 52 = .ok (.aload_n 0, 1) := by decide +kernel
theorem dX8_digest_53 : decode cX8_digest 53 = .ok (.bipush 8, 2) := by decide +kernel
theorem dX8_digest_55 : decode cX8_digest 55 = .ok (.iload_n 1, 1) := by decide +kernel
theorem dX8_digest_56 : decode cX8_digest 56 = .ok (.iadd, 1) := by decide +kernel
theorem dX8_digest_57 : decode cX8_digest 57 = .ok (.iconst 1, 1) := by decide +kernel
theorem dX8_digest_58 : decode cX8_digest 58 = .ok (.invokevirtual 334, 3) := by decide +kernel
theorem dX8_digest_61 : decode cX8_digest 61 = .ok (.aload_n 0, 1) := by decide +kernel
theorem dX8_digest_62 : decode cX8_digest 62 = .ok (.bipush 13, 2) := by decide +kernel
theorem dX8_digest_64 : decode cX8_digest 64 = .ok (.iload_n 1, 1) := by decide +kernel
theorem dX8_digest_65 : decode cX8_digest 65 = .ok (.iadd, 1) := by decide +kernel
theorem dX8_digest_66 : decode cX8_digest 66 = .ok (.iconst 1, 1) := by decide +kernel
theorem dX8_digest_67 : decode cX8_digest 67 = .ok (.invokevirtual 334, 3) := by decide +kernel
theorem dX8_digest_70 : decode cX8_digest 70 = .ok (.aload_n 0, 1) := by decide +kernel
theorem dX8_digest_71 : decode cX8_digest 71 = .ok (.bipush 18, 2) := by decide +kernel
theorem dX8_digest_73 : decode cX8_digest 73 = .ok (.bipush 10, 2) := by decide +kernel
theorem dX8_digest_75 : decode cX8_digest 75 = .ok (.iload_n 1, 1) := by decide +kernel
theorem dX8_digest_76 : decode cX8_digest 76 = .ok (.imul, 1) := by decide +kernel
theorem dX8_digest_77 : decode cX8_digest 77 = .ok (.iadd, 1) := by decide +kernel
theorem dX8_digest_78 : decode cX8_digest 78 = .ok (.iconst 1, 1) := by decide +kernel
theorem dX8_digest_79 : decode cX8_digest 79 = .ok (.iadd, 1) := by decide +kernel
theorem dX8_digest_80 : decode cX8_digest 80 = .ok (.bipush 9, 2) := by decide +kernel
theorem dX8_digest_82 : decode cX8_digest 82 = .ok (.invokevirtual 334, 3) := by decide +kernel
theorem dX8_digest_85 : decode cX8_digest 85 = .ok (.iinc 1 1, 3) := by decide +kernel
theorem dX8_digest_88 : decode cX8_digest 88 = .ok (.goto (-46), 3) := by decide +kernel
theorem dX8_digest_91 : decode cX8_digest 91 = .ok (.iconst 0, 1) := by decide +kernel
theorem dX8_digest_92 : decode cX8_digest 92 = .ok (.istore_n 1, 1) := by decide +kernel
theorem dX8_digest_93 : decode cX8_digest 93 = .ok (.iload_n 1, 1) := by decide +kernel
theorem dX8_digest_94 : decode cX8_digest 94 = .ok (.aload_n 0, 1) := by decide +kernel
theorem dX8_digest_95 : decode cX8_digest 95 = .ok (.getfield 7, 3) := by decide +kernel
theorem dX8_digest_98 : decode cX8_digest 98 = .ok (.iconst 1, 1) := by decide +kernel
theorem dX8_digest_99 : decode cX8_digest 99 = .ok (.iaload, 1) := by decide +kernel
theorem dX8_digest_100 : decode cX8_digest 100 = .ok (.if_icmp .ge 27, 3) := by decide +kernel
theorem dX8_digest_103 : decode cX8_digest 103 = .ok (.aload_n 0, 1) := by decide +kernel
theorem dX8_digest_104 : decode cX8_digest 104 = .ok (.bipush 68, 2) := by decide +kernel
theorem dX8_digest_106 : decode cX8_digest 106 = .ok (.iload_n 1, 1) := by decide +kernel
theorem dX8_digest_107 : decode cX8_digest 107 = .ok (.iadd, 1) := by decide +kernel
theorem dX8_digest_108 : decode cX8_digest 108 = .ok (.iconst 1, 1) := by decide +kernel
theorem dX8_digest_109 : decode cX8_digest 109 = .ok (.invokevirtual 334, 3) := by decide +kernel
theorem dX8_digest_112 : decode cX8_digest 112 = .ok (.aload_n 0, 1) := by decide +kernel
theorem dX8_digest_113 : decode cX8_digest 113 = .ok (.bipush 74, 2) := by decide +kernel
theorem dX8_digest_115 : decode cX8_digest 115 = .ok (.iload_n 1, 1) := by decide +kernel
theorem dX8_digest_116 : decode cX8_digest 116 = .ok (.iadd, 1) := by decide +kernel
theorem dX8_digest_117 : decode cX8_digest 117 = .ok (.iconst 1, 1) := by decide +kernel
theorem dX8_digest_118 : decode cX8_digest 118 = .ok (.invokevirtual 334, 3) := by decide +kernel
theorem dX8_digest_121 : decode cX8_digest 121 = .ok (.iinc 1 1, 3) := by decide +kernel
theorem dX8_digest_124 : decode cX8_digest 124 = .ok (.goto (-31), 3) := by decide +kernel
theorem dX8_digest_127 : decode cX8_digest 127 = .ok (.iconst 0, 1) := by decide +kernel
theorem dX8_digest_128 : decode cX8_digest 128 = .ok (.istore_n 1, 1) := by decide +kernel
theorem dX8_digest_129 : decode cX8_digest 129 = .ok (.iload_n 1, 1) := by decide +kernel
theorem dX8_digest_130 : decode cX8_digest 130 = .ok (.aload_n 0, 1) := by decide +kernel
theorem dX8_digest_131 : decode cX8_digest 131 = .ok (.getfield 7, 3) := by decide +kernel
theorem dX8_digest_134 : decode cX8_digest 134 = .ok (.iconst 2, 1) := by decide +kernel
theorem dX8_digest_135 : decode cX8_digest 135 = .ok (.iaload, 1) := by decide +kernel
theorem dX8_digest_136 : decode cX8_digest 136 = .ok (.if_icmp .ge 36, 3) := by decide +kernel
theorem dX8_digest_139 : decode cX8_digest 139 = .ok (.aload_n 0, 1) := by decide +kernel
theorem dX8_digest_140 : decode cX8_digest 140 = .ok (.bipush 80, 2) := by decide +kernel
theorem dX8_digest_142 : decode cX8_digest 142 = .ok (.iload_n 1, 1) := by decide +kernel
theorem dX8_digest_143 : decode cX8_digest 143 = .ok (.iadd, 1) := by decide +kernel
theorem dX8_digest_144 : decode cX8_digest 144 = .ok (.iconst 1, 1) := by decide +kernel
theorem dX8_digest_145 : decode cX8_digest 145 = .ok (.invokevirtual 334, 3) := by decide +kernel
theorem dX8_digest_148 : decode cX8_digest 148 = .ok (.aload_n 0, 1) := by decide +kernel
theorem dX8_digest_149 : decode cX8_digest 149 = .ok (.bipush 84, 2) := by decide +kernel
theorem dX8_digest_151 : decode cX8_digest 151 = .ok (.iload_n 1, 1) := by decide +kernel
theorem dX8_digest_152 : decode cX8_digest 152 = .ok (.iadd, 1) := by decide +kernel
theorem dX8_digest_153 : decode cX8_digest 153 = .ok (.iconst 1, 1) := by decide +kernel
theorem dX8_digest_154 : decode cX8_digest 154 = .ok (.invokevirtual 334, 3) := by decide +kernel
theorem dX8_digest_157 : decode cX8_digest 157 = .ok (.aload_n 0, 1) := by decide +kernel
theorem dX8_digest_158 : decode cX8_digest 158 = .ok (.bipush 88, 2) := by decide +kernel
theorem dX8_digest_160 : decode cX8_digest 160 = .ok (.iload_n 1, 1) := by decide +kernel
theorem dX8_digest_161 : decode cX8_digest 161 = .ok (.iadd, 1) := by decide +kernel
theorem dX8_digest_162 : decode cX8_digest 162 = .ok (.iconst 1, 1) := by decide +kernel
theorem dX8_digest_163 : decode cX8_digest 163 = .ok (.invokevirtual 334, 3) := by decide +kernel
theorem dX8_digest_166 : decode cX8_digest 166 = .ok (.iinc 1 1, 3) := by decide +kernel
theorem dX8_digest_169 : decode cX8_digest 169 = .ok (.goto (-40), 3) := by decide +kernel
theorem dX8_digest_172 : decode cX8_digest 172 = .ok (.aload_n 0, 1) := by decide +kernel
theorem dX8_digest_173 : decode cX8_digest 173 = .ok (.bipush 92, 2) := by decide +kernel
theorem dX8_digest_175 : decode cX8_digest 175 = .ok (.iconst 4, 1) := by decide +kernel
theorem dX8_digest_176 : decode cX8_digest 176 = .ok (.aload_n 0, 1) := by decide +kernel
theorem dX8_digest_177 : decode cX8_digest 177 = .ok (.getfield 7, 3) := by decide +kernel
theorem dX8_digest_180 : decode cX8_digest 180 = .ok (.iconst 5, 1) := by decide +kernel
theorem dX8_digest_181 : decode cX8_digest 181 = .ok (.iaload, 1) := by decide +kernel
theorem dX8_digest_182 : decode cX8_digest 182 = .ok (.imul, 1) := by decide +kernel
theorem dX8_digest_183 : decode cX8_digest 183 = .ok (.invokevirtual 334, 3) := by decide +kernel
theorem dX8_digest_186 : decode cX8_digest 186 = .ok (.aload_n 0, 1) := by decide +kernel
theorem dX8_digest_187 : decode cX8_digest 187 = .ok (.bipush 108, 2) := by decide +kernel
theorem dX8_digest_189 : decode cX8_digest 189 = .ok (.iconst 5, 1) := by decide +kernel
theorem dX8_digest_190 : decode cX8_digest 190 = .ok (.aload_n 0, 1) := by decide +kernel
theorem dX8_digest_191 : decode cX8_digest 191 = .ok (.getfield 7, 3) := by decide +kernel
theorem dX8_digest_194 : decode cX8_digest 194 = .ok (.bipush 6, 2) := by decide +kernel
theorem dX8_digest_196 : decode cX8_digest 196 = .ok (.iaload, 1) := by decide +kernel
theorem dX8_digest_197 : decode cX8_digest 197 = .ok (.imul, 1) := by decide +kernel
theorem dX8_digest_198 : decode cX8_digest 198 = .ok (.invokevirtual 334, 3) := by decide +kernel
theorem dX8_digest_201 : decode cX8_digest 201 = .ok (.aload_n 0, 1) := by decide +kernel
theorem dX8_digest_202 : decode cX8_digest 202 = .ok (.sipush 138, 3) := by decide +kernel
theorem dX8_digest_205 : decode cX8_digest 205 = .ok (.iconst 5, 1) := by decide +kernel
theorem dX8_digest_206 : decode cX8_digest 206 = .ok (.aload_n 0, 1) := by decide +kernel
theorem dX8_digest_207 : decode cX8_digest 207 = .ok (.getfield 7, 3) := by decide +kernel
theorem dX8_digest_210 : decode cX8_digest 210 = .ok (.bipush 7, 2) := by decide +kernel
theorem dX8_digest_212 : decode cX8_digest 212 = .ok (.iaload, 1) := by decide +kernel
theorem dX8_digest_213 : decode cX8_digest 213 = .ok (.imul, 1) := by decide +kernel
theorem dX8_digest_214 : decode cX8_digest 214 = .ok (.invokevirtual 334, 3) := by decide +kernel
theorem dX8_digest_217 : decode cX8_digest 217 = .ok (.ldc2_w 327, 3) := by decide +kernel
theorem dX8_digest_220 : decode cX8_digest 220 = .ok (.ldc2_w 327, 3) := by decide +kernel
theorem dX8_digest_223 : decode cX8_digest 223 = .ok (.aload_n 0, 1) := by decide +kernel
theorem dX8_digest_224 : decode cX8_digest 224 = .ok (.getfield 329, 3) := by decide +kernel
theorem dX8_digest_227 : decode cX8_digest 227 = .ok (.lmul, 1) := by decide +kernel
theorem dX8_digest_228 : decode cX8_digest 228 = .ok (.aload_n 0, 1) := by decide +kernel
theorem dX8_digest_229 : decode cX8_digest 229 = .ok (.getfield 303, 3) := by decide +kernel
theorem dX8_digest_232 : decode cX8_digest 232 = .ok (.ladd, 1) := by decide +kernel
theorem dX8_digest_233 : decode cX8_digest 233 = .ok (.lmul, 1) := by decide +kernel
theorem dX8_digest_234 : decode cX8_digest 234 = .ok (.aload_n 0, 1) := by decide +kernel
theorem dX8_digest_235 : decode cX8_digest 235 = .ok (.getfield 16, 3) := by decide +kernel
theorem dX8_digest_238 : decode cX8_digest 238 = .ok (.ladd, 1) := by decide +kernel
theorem dX8_digest_239 : decode cX8_digest 239 = .ok (.lreturn, 1) := by decide +kernel
theorem dJ9_max_7cf53_0 : decode cJ9_max_7cf53 0 = .ok (.iload_n 0, 1) := by decide +kernel
theorem dJ9_max_7cf53_1 : decode cJ9_max_7cf53 1 = .ok (.iload_n 1, 1) := by decide +kernel
theorem dJ9_max_7cf53_2 : decode cJ9_max_7cf53 2 = .ok (.if_icmp .lt 7, 3) := by decide +kernel
theorem dJ9_max_7cf53_5 : decode cJ9_max_7cf53 5 = .ok (.iload_n 0, 1) := by decide +kernel
theorem dJ9_max_7cf53_6 : decode cJ9_max_7cf53 6 = .ok (.goto 4, 3) := by decide +kernel
theorem dJ9_max_7cf53_9 : decode cJ9_max_7cf53 9 = .ok (.iload_n 1, 1) := by decide +kernel
theorem dJ9_max_7cf53_10 : decode cJ9_max_7cf53 10 = .ok (.ireturn, 1) := by decide +kernel
theorem dJ9_min_7cf53_0 : decode cJ9_min_7cf53 0 = .ok (.iload_n 0, 1) := by decide +kernel
theorem dJ9_min_7cf53_1 : decode cJ9_min_7cf53 1 = .ok (.iload_n 1, 1) := by decide +kernel
theorem dJ9_min_7cf53_2 : decode cJ9_min_7cf53 2 = .ok (.if_icmp .gt 7, 3) := by decide +kernel
theorem dJ9_min_7cf53_5 : decode cJ9_min_7cf53 5 = .ok (.iload_n 0, 1) := by decide +kernel
theorem dJ9_min_7cf53_6 : decode cJ9_min_7cf53 6 = .ok (.goto 4, 3) := by decide +kernel
theorem dJ9_min_7cf53_9 : decode cJ9_min_7cf53 9 = .ok (.iload_n 1, 1) := by decide +kernel
theorem dJ9_min_7cf53_10 : decode cJ9_min_7cf53 10 = .ok (.ireturn, 1) := by decide +kernel
set_option maxRecDepth 20000 in
theorem dJ0_length_8abf5_0 : decode cJ0_length_8abf5 0 = .ok (.aload_n 0, 1) := by decide +kernel
theorem dJ0_length_8abf5_1 : decode cJ0_length_8abf5 1 = .ok (.getfield 9, 3) := by decide +kernel
theorem dJ0_length_8abf5_4 : decode cJ0_length_8abf5 4 = .ok (.arraylength, 1) := by decide +kernel
theorem dJ0_length_8abf5_5 : decode cJ0_length_8abf5 5 = .ok (.aload_n 0, 1) := by decide +kernel
theorem dJ0_length_8abf5_6 : decode cJ0_length_8abf5 6 = .ok (.invokevirtual 335, 3) := by decide +kernel
theorem dJ0_length_8abf5_9 : decode cJ0_length_8abf5 9 = .ok (.ishr, 1) := by decide +kernel
theorem dJ0_length_8abf5_10 : decode cJ0_length_8abf5 10 = .ok (.ireturn, 1) := by decide +kernel
set_option maxRecDepth 20000 in
theorem dJ0_charAt_5068e_0 : decode cJ0_charAt_5068e 0 = .ok (.aload_n 0, 1) := by decide +kernel
theorem dJ0_charAt_5068e_1 : decode cJ0_charAt_5068e 1 = .ok (.invokevirtual 492, 3) := by decide +kernel
theorem dJ0_charAt_5068e_4 : decode cJ0_charAt_5068e 4 = .ok (.ifCond .eq 12, 3) := by decide +kernel
theorem dJ0_charAt_5068e_7 : decode cJ0_charAt_5068e 7 = .ok (.aload_n 0, 1) := by decide +kernel
theorem dJ0_charAt_5068e_8 : decode cJ0_charAt_5068e 8 = .ok (.getfield 9, 3) := by decide +kernel
theorem dJ0_charAt_5068e_11 : decode cJ0_charAt_5068e 11 = .ok (.iload_n 1, 1) := by decide +kernel
theorem dJ0_charAt_5068e_12 : decode cJ0_charAt_5068e 12 = .ok (.invokestatic 495, 3) := by decide +kernel
theorem dJ0_charAt_5068e_15 : decode cJ0_charAt_5068e 15 = .ok (.ireturn, 1) := by decide +kernel
theorem dJ0_charAt_5068e_16 : decode cJ0_charAt_5068e 16 = .ok (.aload_n 0, 1) := by decide +kernel
theorem dJ0_charAt_5068e_17 : decode cJ0_charAt_5068e 17 = .ok (.getfield 9, 3) := by decide +kernel
theorem dJ0_charAt_5068e_20 : decode cJ0_charAt_5068e 20 = .ok (.iload_n 1, 1) := by decide +kernel
theorem dJ0_charAt_5068e_21 : decode cJ0_charAt_5068e 21 = .ok (.invokestatic 498, 3) := by decide +kernel
theorem dJ0_charAt_5068e_24 : decode cJ0_charAt_5068e 24 = .ok (.ireturn, 1) := by decide +kernel
theorem dJ0_coder_7d493_0 : decode cJ0_coder_7d493 0 = .ok (.getstatic 38, 3) := by decide +kernel
theorem dJ0_coder_7d493_3 : decode cJ0_coder_7d493 3 = .ok (.ifCond .eq 10, 3) := by decide +kernel
theorem dJ0_coder_7d493_6 : decode cJ0_coder_7d493 6 = .ok (.aload_n 0, 1) := by decide +kernel
theorem dJ0_coder_7d493_7 : decode cJ0_coder_7d493 7 = .ok (.getfield 15, 3) := by decide +kernel
theorem dJ0_coder_7d493_10 : decode cJ0_coder_7d493 10 = .ok (.goto 4, 3) := by decide +kernel
theorem dJ0_coder_7d493_13 : decode cJ0_coder_7d493 13 = .ok (.iconst 1, 1) := by decide +kernel
theorem dJ0_coder_7d493_14 : decode cJ0_coder_7d493 14 = .ok (.ireturn, 1) := by decide +kernel
theorem dJ0_isLatin1_aae02_0 : decode cJ0_isLatin1_aae02 0 = .ok (.getstatic 38, 3) := by decide +kernel
theorem dJ0_isLatin1_aae02_3 : decode cJ0_isLatin1_aae02 3 = .ok (.ifCond .eq 14, 3) := by decide +kernel
theorem dJ0_isLatin1_aae02_6 : decode cJ0_isLatin1_aae02 6 = .ok (.aload_n 0, 1) := by decide +kernel
theorem dJ0_isLatin1_aae02_7 : decode cJ0_isLatin1_aae02 7 = .ok (.getfield 15, 3) := by decide +kernel
theorem dJ0_isLatin1_aae02_10 : decode cJ0_isLatin1_aae02 10 = .ok (.ifCond .ne 7, 3) := by decide +kernel
theorem dJ0_isLatin1_aae02_13 : decode cJ0_isLatin1_aae02 13 = .ok (.iconst 1, 1) := by decide +kernel
theorem dJ0_isLatin1_aae02_14 : decode cJ0_isLatin1_aae02 14 = .ok (.goto 4, 3) := by decide +kernel
theorem dJ0_isLatin1_aae02_17 : decode cJ0_isLatin1_aae02 17 = .ok (.iconst 0, 1) := by decide +kernel
theorem dJ0_isLatin1_aae02_18 : decode cJ0_isLatin1_aae02 18 = .ok (.ireturn, 1) := by decide +kernel
set_option maxRecDepth 20000 in
theorem dJ0_checkIndex_df160_0 : decode cJ0_checkIndex_df160 0 = .ok (.iload_n 0, 1) := by decide +kernel
theorem dJ0_checkIndex_df160_1 : decode cJ0_checkIndex_df160 1 = .ok (.iload_n 1, 1) := by decide +kernel
theorem dJ0_checkIndex_df160_2 : decode cJ0_checkIndex_df160 2 = .ok (.getstatic 1053, 3) := by decide +kernel
theorem dJ0_checkIndex_df160_5 : decode cJ0_checkIndex_df160 5 = .ok (.invokestatic 1059, 3) := by decide +kernel
theorem dJ0_checkIndex_df160_8 : decode cJ0_checkIndex_df160 8 = .ok (.pop, 1) := by decide +kernel
theorem dJ0_checkIndex_df160_9 : decode cJ0_checkIndex_df160 9 = .ok (.return_, 1) := by decide +kernel
set_option maxRecDepth 20000 in
theorem dJ1_charAt_3b067_0 : decode cJ1_charAt_3b067 0 = .ok (.iload_n 1, 1) := by decide +kernel
theorem dJ1_charAt_3b067_1 : decode cJ1_charAt_3b067 1 = .ok (.aload_n 0, 1) := by decide +kernel
theorem dJ1_charAt_3b067_2 : decode cJ1_charAt_3b067 2 = .ok (.arraylength, 1) := by decide +kernel
theorem dJ1_charAt_3b067_3 : decode cJ1_charAt_3b067 3 = .ok (.invokestatic 9, 3) := by decide +kernel
theorem dJ1_charAt_3b067_6 : decode cJ1_charAt_3b067 6 = .ok (.aload_n 0, 1) := by decide +kernel
theorem dJ1_charAt_3b067_7 : decode cJ1_charAt_3b067 7 = .ok (.iload_n 1, 1) := by decide +kernel
theorem dJ1_charAt_3b067_8 : decode cJ1_charAt_3b067 8 = .ok (.baload, 1) := by decide +kernel
theorem dJ1_charAt_3b067_9 : decode cJ1_charAt_3b067 9 = .ok (.sipush 255, 3) := by decide +kernel
theorem dJ1_charAt_3b067_12 : decode cJ1_charAt_3b067 12 = .ok (.iand, 1) := by decide +kernel
theorem dJ1_charAt_3b067_13 : decode cJ1_charAt_3b067 13 = .ok (.i2c, 1) := by decide +kernel
theorem dJ1_charAt_3b067_14 : decode cJ1_charAt_3b067 14 = .ok (.ireturn, 1) := by decide +kernel
set_option maxRecDepth 20000 in
theorem dJ2_getChar_3b067_0 : decode cJ2_getChar_3b067 0 = .ok (.getstatic 44, 3) := by decide +kernel
theorem dJ2_getChar_3b067_3 : decode cJ2_getChar_3b067 3 = .ok (.ifCond .ne 25, 3) := by decide +kernel
theorem dJ2_getChar_3b067_6 : decode cJ2_getChar_3b067 6 = .ok (.iload_n 1, 1) := by decide +kernel
theorem dJ2_getChar_3b067_7 : decode cJ2_getChar_3b067 7 = .ok (.ifCond .lt 11, 3) := by decide +kernel
theorem dJ2_getChar_3b067_10 : decode cJ2_getChar_3b067 10 = .ok (.iload_n 1, 1) := by decide +kernel
theorem dJ2_getChar_3b067_11 : decode cJ2_getChar_3b067 11 = .ok (.aload_n 0, 1) := by decide +kernel
theorem dJ2_getChar_3b067_12 : decode cJ2_getChar_3b067 12 = .ok (.invokestatic 48, 3) := by decide +kernel
theorem dJ2_getChar_3b067_15 : decode cJ2_getChar_3b067 15 = .ok (.if_icmp .lt 13, 3) := by decide +kernel
theorem dJ2_getChar_3b067_18 : decode cJ2_getChar_3b067 18 = .ok (.new 52, 3) := by decide +kernel
theorem dJ2_getChar_3b067_21 : decode cJ2_getChar_3b067 21 = .ok (.dup, 1) := by decide +kernel
theorem dJ2_getChar_3b067_22 : decode cJ2_getChar_3b067 22 = .ok (.ldc 54, 2) := by decide +kernel
theorem dJ2_getChar_3b067_24 : decode cJ2_getChar_3b067 24 = .ok (.invokespecial 56, 3) := by decide +kernel
theorem dJ2_getChar_3b067_27 : decode cJ2_getChar_3b067 27 = .ok (.athrow, 1) := by decide +kernel
theorem dJ2_getChar_3b067_28 : decode cJ2_getChar_3b067 28 = .ok (.iload_n 1, 1) := by decide +kernel
theorem dJ2_getChar_3b067_29 : decode cJ2_getChar_3b067 29 = .ok (.iconst 1, 1) := by decide +kernel
theorem dJ2_getChar_3b067_30 : decode cJ2_getChar_3b067 30 = .ok (.ishl, 1) := by decide +kernel
theorem dJ2_getChar_3b067_31 : decode cJ2_getChar_3b067 31 = .ok (.istore_n 1, 1) := by decide +kernel
theorem dJ2_getChar_3b067_32 : decode cJ2_getChar_3b067 32 = .ok (.aload_n 0, 1) := by decide +kernel
theorem dJ2_getChar_3b067_33 : decode cJ2_getChar_3b067 33 = .ok (.iload_n 1, 1) := by decide +kernel
theorem dJ2_getChar_3b067_34 : decode cJ2_getChar_3b067 34 = .ok (.iinc 1 1, 3) := by decide +kernel
theorem dJ2_getChar_3b067_37 : decode cJ2_getChar_3b067 37 = .ok (.baload, 1) := by decide +kernel
theorem dJ2_getChar_3b067_38 : decode cJ2_getChar_3b067 38 = .ok (.sipush 255, 3) := by decide +kernel
theorem dJ2_getChar_3b067_41 : decode cJ2_getChar_3b067 41 = .ok (.iand, 1) := by decide +kernel
theorem dJ2_getChar_3b067_42 : decode cJ2_getChar_3b067 42 = .ok (.getstatic 59, 3) := by decide +kernel
theorem dJ2_getChar_3b067_45 : decode cJ2_getChar_3b067 45 = .ok (.ishl, 1) := by decide +kernel
theorem dJ2_getChar_3b067_46 : decode cJ2_getChar_3b067 46 = .ok (.aload_n 0, 1) := by decide +kernel
theorem dJ2_getChar_3b067_47 : decode cJ2_getChar_3b067 47 = .ok (.iload_n 1, 1) := by decide +kernel
theorem dJ2_getChar_3b067_48 : decode cJ2_getChar_3b067 48 = .ok (.baload, 1) := by decide +kernel
theorem dJ2_getChar_3b067_49 : decode cJ2_getChar_3b067 49 = .ok (.sipush 255, 3) := by decide +kernel
theorem dJ2_getChar_3b067_52 : decode cJ2_getChar_3b067 52 = .ok (.iand, 1) := by decide +kernel
theorem dJ2_getChar_3b067_53 : decode cJ2_getChar_3b067 53 = .ok (.getstatic 63, 3) := by decide +kernel
theorem dJ2_getChar_3b067_56 : decode cJ2_getChar_3b067 56 = .ok (.ishl, 1) := by decide +kernel
theorem dJ2_getChar_3b067_57 : decode cJ2_getChar_3b067 57 = .ok (.ior, 1) := by decide +kernel
theorem dJ2_getChar_3b067_58 : decode cJ2_getChar_3b067 58 = .ok (.i2c, 1) := by decide +kernel
theorem dJ2_getChar_3b067_59 : decode cJ2_getChar_3b067 59 = .ok (.ireturn, 1) := by decide +kernel
theorem dJ2_length_9d52b_0 : decode cJ2_length_9d52b 0 = .ok (.aload_n 0, 1) := by decide +kernel
theorem dJ2_length_9d52b_1 : decode cJ2_length_9d52b 1 = .ok (.arraylength, 1) := by decide +kernel
theorem dJ2_length_9d52b_2 : decode cJ2_length_9d52b 2 = .ok (.iconst 1, 1) := by decide +kernel
theorem dJ2_length_9d52b_3 : decode cJ2_length_9d52b 3 = .ok (.ishr, 1) := by decide +kernel
theorem dJ2_length_9d52b_4 : decode cJ2_length_9d52b 4 = .ok (.ireturn, 1) := by decide +kernel
set_option maxRecDepth 20000 in
theorem dJ2_charAt_3b067_0 : decode cJ2_charAt_3b067 0 = .ok (.iload_n 1, 1) := by decide +kernel
theorem dJ2_charAt_3b067_1 : decode cJ2_charAt_3b067 1 = .ok (.aload_n 0, 1) := by decide +kernel
theorem dJ2_charAt_3b067_2 : decode cJ2_charAt_3b067 2 = .ok (.invokestatic 67, 3) := by decide +kernel
theorem dJ2_charAt_3b067_5 : decode cJ2_charAt_3b067 5 = .ok (.aload_n 0, 1) := by decide +kernel
theorem dJ2_charAt_3b067_6 : decode cJ2_charAt_3b067 6 = .ok (.iload_n 1, 1) := by decide +kernel
theorem dJ2_charAt_3b067_7 : decode cJ2_charAt_3b067 7 = .ok (.invokestatic 71, 3) := by decide +kernel
theorem dJ2_charAt_3b067_10 : decode cJ2_charAt_3b067 10 = .ok (.ireturn, 1) := by decide +kernel
set_option maxRecDepth 20000 in
theorem dJ2_checkIndex_2214a_0 : decode cJ2_checkIndex_2214a 0 = .ok (.iload_n 0, 1) := by decide +kernel
theorem dJ2_checkIndex_2214a_1 : decode cJ2_checkIndex_2214a 1 = .ok (.aload_n 1, 1) := by decide +kernel
theorem dJ2_checkIndex_2214a_2 : decode cJ2_checkIndex_2214a 2 = .ok (.invokestatic 48, 3) := by decide +kernel
theorem dJ2_checkIndex_2214a_5 : decode cJ2_checkIndex_2214a 5 = .ok (.invokestatic 414, 3) := by decide +kernel
theorem dJ2_checkIndex_2214a_8 : decode cJ2_checkIndex_2214a 8 = .ok (.return_, 1) := by decide +kernel
theorem dJ3_checkIndex_8e157_0 : decode cJ3_checkIndex_8e157 0 = .ok (.iload_n 0, 1) := by decide +kernel
theorem dJ3_checkIndex_8e157_1 : decode cJ3_checkIndex_8e157 1 = .ok (.ifCond .lt 8, 3) := by decide +kernel
theorem dJ3_checkIndex_8e157_4 : decode cJ3_checkIndex_8e157 4 = .ok (.iload_n 0, 1) := by decide +kernel
theorem dJ3_checkIndex_8e157_5 : decode cJ3_checkIndex_8e157 5 = .ok (.iload_n 1, 1) := by decide +kernel
theorem dJ3_checkIndex_8e157_6 : decode cJ3_checkIndex_8e157 6 = .ok (.if_icmp .lt 10, 3) := by decide +kernel
theorem dJ3_checkIndex_8e157_9 : decode cJ3_checkIndex_8e157 9 = .ok (.aload_n 2, 1) := by decide +kernel
theorem dJ3_checkIndex_8e157_10 : decode cJ3_checkIndex_8e157 10 = .ok (.iload_n 0, 1) := by decide +kernel
theorem dJ3_checkIndex_8e157_11 : decode cJ3_checkIndex_8e157 11 = .ok (.iload_n 1, 1) := by decide +kernel
theorem dJ3_checkIndex_8e157_12 : decode cJ3_checkIndex_8e157 12 = .ok (.invokestatic 95, 3) := by decide +kernel
theorem dJ3_checkIndex_8e157_15 : decode cJ3_checkIndex_8e157 15 = .ok (.athrow, 1) := by decide +kernel
theorem dJ3_checkIndex_8e157_16 : decode cJ3_checkIndex_8e157 16 = .ok (.iload_n 0, 1) := by decide +kernel
theorem dJ3_checkIndex_8e157_17 : decode cJ3_checkIndex_8e157 17 = .ok (.ireturn, 1) := by decide +kernel
set_option maxRecDepth 20000 in
theorem dL_law_0 : decode cL_law 0 = .ok (.new 7, 3) := by decide +kernel
theorem dL_law_3 : decode cL_law 3 = .ok (.dup, 1) := by decide +kernel
theorem dL_law_4 : decode cL_law 4 = .ok (.invokespecial 9, 3) := by decide +kernel
theorem dL_law_7 : decode cL_law 7 = .ok (.astore_n 1, 1) := by decide +kernel
theorem dL_law_8 : decode cL_law 8 = .ok (.new 10, 3) := by decide +kernel
theorem dL_law_11 : decode cL_law 11 = .ok (.dup, 1) := by decide +kernel
theorem dL_law_12 : decode cL_law 12 = .ok (.invokespecial 12, 3) := by decide +kernel
theorem dL_law_15 : decode cL_law 15 = .ok (.astore_n 2, 1) := by decide +kernel
theorem dL_law_16 : decode cL_law 16 = .ok (.iconst 0, 1) := by decide +kernel
theorem dL_law_17 : decode cL_law 17 = .ok (.istore_n 3, 1) := by decide +kernel
theorem dL_law_18 : decode cL_law 18 = .ok (.iload_n 3, 1) := by decide +kernel
theorem dL_law_19 : decode cL_law 19 = .ok (.aload_n 0, 1) := by decide +kernel
theorem dL_law_20 : decode cL_law 20 = .ok (.arraylength, 1) := by decide +kernel
theorem dL_law_21 : decode cL_law 21 = .ok (.bipush 6, 2) := by decide +kernel
theorem dL_law_23 : decode cL_law 23 = .ok (.isub, 1) := by decide +kernel
theorem dL_law_24 : decode cL_law 24 = .ok (.if_icmp .gt 1721, 3) := by decide +kernel
theorem dL_law_27 : decode cL_law 27 = .ok (.aload_n 0, 1) := by decide +kernel
theorem dL_law_28 : decode cL_law 28 = .ok (.iload_n 3, 1) := by decide +kernel
theorem dL_law_29 : decode cL_law 29 = .ok (.iaload, 1) := by decide +kernel
theorem dL_law_30 : decode cL_law 30 = .ok (.bipush 63, 2) := by decide +kernel
theorem dL_law_32 : decode cL_law 32 = .ok (.iand, 1) := by decide +kernel
theorem dL_law_33 : decode cL_law 33 = .ok (.tableswitch 1706 0 46 #[203, 226, 259, 302, 335, 368, 401, 424, 437, 450, 473, 496, 549, 562, 585, 598, 631, 664, 697, 730, 763, 816, 849, 892, 935, 968, 1021, 1054, 1087, 1140, 1163, 1186, 1249, 1312, 1335, 1358, 1381, 1404, 1427, 1480, 1543, 1576, 1600, 1623, 1646, 1669, 1692], 203) := by decide +kernel
theorem dL_law_236 : decode cL_law 236 = .ok (.aload_n 1, 1) := by decide +kernel
theorem dL_law_237 : decode cL_law 237 = .ok (.aload_n 0, 1) := by decide +kernel
theorem dL_law_238 : decode cL_law 238 = .ok (.iload_n 3, 1) := by decide +kernel
theorem dL_law_239 : decode cL_law 239 = .ok (.iconst 1, 1) := by decide +kernel
theorem dL_law_240 : decode cL_law 240 = .ok (.iadd, 1) := by decide +kernel
theorem dL_law_241 : decode cL_law 241 = .ok (.iaload, 1) := by decide +kernel
theorem dL_law_242 : decode cL_law 242 = .ok (.invokevirtual 13, 3) := by decide +kernel
theorem dL_law_245 : decode cL_law 245 = .ok (.aload_n 2, 1) := by decide +kernel
theorem dL_law_246 : decode cL_law 246 = .ok (.aload_n 0, 1) := by decide +kernel
theorem dL_law_247 : decode cL_law 247 = .ok (.iload_n 3, 1) := by decide +kernel
theorem dL_law_248 : decode cL_law 248 = .ok (.iconst 1, 1) := by decide +kernel
theorem dL_law_249 : decode cL_law 249 = .ok (.iadd, 1) := by decide +kernel
theorem dL_law_250 : decode cL_law 250 = .ok (.iaload, 1) := by decide +kernel
theorem dL_law_251 : decode cL_law 251 = .ok (.invokevirtual 17, 3) := by decide +kernel
theorem dL_law_254 : decode cL_law 254 = .ok (.if_icmp .eq 1485, 3) := by decide +kernel
theorem dL_law_257 : decode cL_law 257 = .ok (.iconst 0, 1) := by decide +kernel
theorem dL_law_258 : decode cL_law 258 = .ok (.ireturn, 1) := by decide +kernel
theorem dL_law_259 : decode cL_law 259 = .ok (.aload_n 1, 1) := by decide +kernel
theorem dL_law_260 : decode cL_law 260 = .ok (.aload_n 0, 1) := by decide +kernel
theorem dL_law_261 : decode cL_law 261 = .ok (.iload_n 3, 1) := by decide +kernel
theorem dL_law_262 : decode cL_law 262 = .ok (.iconst 1, 1) := by decide +kernel
theorem dL_law_263 : decode cL_law 263 = .ok (.iadd, 1) := by decide +kernel
theorem dL_law_264 : decode cL_law 264 = .ok (.iaload, 1) := by decide +kernel
theorem dL_law_265 : decode cL_law 265 = .ok (.aload_n 0, 1) := by decide +kernel
theorem dL_law_266 : decode cL_law 266 = .ok (.iload_n 3, 1) := by decide +kernel
theorem dL_law_267 : decode cL_law 267 = .ok (.iconst 2, 1) := by decide +kernel
theorem dL_law_268 : decode cL_law 268 = .ok (.iadd, 1) := by decide +kernel
theorem dL_law_269 : decode cL_law 269 = .ok (.iaload, 1) := by decide +kernel
theorem dL_law_270 : decode cL_law 270 = .ok (.invokevirtual 18, 3) := by decide +kernel
theorem dL_law_273 : decode cL_law 273 = .ok (.aload_n 2, 1) := by decide +kernel
theorem dL_law_274 : decode cL_law 274 = .ok (.aload_n 0, 1) := by decide +kernel
theorem dL_law_275 : decode cL_law 275 = .ok (.iload_n 3, 1) := by decide +kernel
theorem dL_law_276 : decode cL_law 276 = .ok (.iconst 1, 1) := by decide +kernel
theorem dL_law_277 : decode cL_law 277 = .ok (.iadd, 1) := by decide +kernel
theorem dL_law_278 : decode cL_law 278 = .ok (.iaload, 1) := by decide +kernel
theorem dL_law_279 : decode cL_law 279 = .ok (.aload_n 0, 1) := by decide +kernel
theorem dL_law_280 : decode cL_law 280 = .ok (.iload_n 3, 1) := by decide +kernel
theorem dL_law_281 : decode cL_law 281 = .ok (.iconst 2, 1) := by decide +kernel
theorem dL_law_282 : decode cL_law 282 = .ok (.iadd, 1) := by decide +kernel
theorem dL_law_283 : decode cL_law 283 = .ok (.iaload, 1) := by decide +kernel
theorem dL_law_284 : decode cL_law 284 = .ok (.invokevirtual 22, 3) := by decide +kernel
theorem dL_law_287 : decode cL_law 287 = .ok (.if_icmp .eq 1452, 3) := by decide +kernel
theorem dL_law_290 : decode cL_law 290 = .ok (.iconst 0, 1) := by decide +kernel
theorem dL_law_291 : decode cL_law 291 = .ok (.ireturn, 1) := by decide +kernel
theorem dL_law_292 : decode cL_law 292 = .ok (.aload_n 1, 1) := by decide +kernel
theorem dL_law_293 : decode cL_law 293 = .ok (.aload_n 0, 1) := by decide +kernel
theorem dL_law_294 : decode cL_law 294 = .ok (.iload_n 3, 1) := by decide +kernel
theorem dL_law_295 : decode cL_law 295 = .ok (.iconst 1, 1) := by decide +kernel
theorem dL_law_296 : decode cL_law 296 = .ok (.iadd, 1) := by decide +kernel
theorem dL_law_297 : decode cL_law 297 = .ok (.iaload, 1) := by decide +kernel
theorem dL_law_298 : decode cL_law 298 = .ok (.aload_n 0, 1) := by decide +kernel
theorem dL_law_299 : decode cL_law 299 = .ok (.iload_n 3, 1) := by decide +kernel
theorem dL_law_300 : decode cL_law 300 = .ok (.iconst 2, 1) := by decide +kernel
theorem dL_law_301 : decode cL_law 301 = .ok (.iadd, 1) := by decide +kernel
theorem dL_law_302 : decode cL_law 302 = .ok (.iaload, 1) := by decide +kernel
theorem dL_law_303 : decode cL_law 303 = .ok (.aload_n 0, 1) := by decide +kernel
theorem dL_law_304 : decode cL_law 304 = .ok (.iload_n 3, 1) := by decide +kernel
theorem dL_law_305 : decode cL_law 305 = .ok (.iconst 3, 1) := by decide +kernel
theorem dL_law_306 : decode cL_law 306 = .ok (.iadd, 1) := by decide +kernel
theorem dL_law_307 : decode cL_law 307 = .ok (.iaload, 1) := by decide +kernel
theorem dL_law_308 : decode cL_law 308 = .ok (.invokevirtual 23, 3) := by decide +kernel
theorem dL_law_311 : decode cL_law 311 = .ok (.aload_n 2, 1) := by decide +kernel
theorem dL_law_312 : decode cL_law 312 = .ok (.aload_n 0, 1) := by decide +kernel
theorem dL_law_313 : decode cL_law 313 = .ok (.iload_n 3, 1) := by decide +kernel
theorem dL_law_314 : decode cL_law 314 = .ok (.iconst 1, 1) := by decide +kernel
theorem dL_law_315 : decode cL_law 315 = .ok (.iadd, 1) := by decide +kernel
theorem dL_law_316 : decode cL_law 316 = .ok (.iaload, 1) := by decide +kernel
theorem dL_law_317 : decode cL_law 317 = .ok (.aload_n 0, 1) := by decide +kernel
theorem dL_law_318 : decode cL_law 318 = .ok (.iload_n 3, 1) := by decide +kernel
theorem dL_law_319 : decode cL_law 319 = .ok (.iconst 2, 1) := by decide +kernel
theorem dL_law_320 : decode cL_law 320 = .ok (.iadd, 1) := by decide +kernel
theorem dL_law_321 : decode cL_law 321 = .ok (.iaload, 1) := by decide +kernel
theorem dL_law_322 : decode cL_law 322 = .ok (.aload_n 0, 1) := by decide +kernel
theorem dL_law_323 : decode cL_law 323 = .ok (.iload_n 3, 1) := by decide +kernel
theorem dL_law_324 : decode cL_law 324 = .ok (.iconst 3, 1) := by decide +kernel
theorem dL_law_325 : decode cL_law 325 = .ok (.iadd, 1) := by decide +kernel
theorem dL_law_326 : decode cL_law 326 = .ok (.iaload, 1) := by decide +kernel
theorem dL_law_327 : decode cL_law 327 = .ok (.invokevirtual 27, 3) := by decide +kernel
theorem dL_law_330 : decode cL_law 330 = .ok (.if_icmp .eq 1409, 3) := by decide +kernel
theorem dL_law_333 : decode cL_law 333 = .ok (.iconst 0, 1) := by decide +kernel
theorem dL_law_334 : decode cL_law 334 = .ok (.ireturn, 1) := by decide +kernel
theorem dL_law_335 : decode cL_law 335 = .ok (.aload_n 1, 1) := by decide +kernel
theorem dL_law_336 : decode cL_law 336 = .ok (.aload_n 0, 1) := by decide +kernel
theorem dL_law_337 : decode cL_law 337 = .ok (.iload_n 3, 1) := by decide +kernel
theorem dL_law_338 : decode cL_law 338 = .ok (.iconst 1, 1) := by decide +kernel
theorem dL_law_339 : decode cL_law 339 = .ok (.iadd, 1) := by decide +kernel
theorem dL_law_340 : decode cL_law 340 = .ok (.iaload, 1) := by decide +kernel
theorem dL_law_341 : decode cL_law 341 = .ok (.aload_n 0, 1) := by decide +kernel
theorem dL_law_342 : decode cL_law 342 = .ok (.iload_n 3, 1) := by decide +kernel
theorem dL_law_343 : decode cL_law 343 = .ok (.iconst 2, 1) := by decide +kernel
theorem dL_law_344 : decode cL_law 344 = .ok (.iadd, 1) := by decide +kernel
theorem dL_law_345 : decode cL_law 345 = .ok (.iaload, 1) := by decide +kernel
theorem dL_law_346 : decode cL_law 346 = .ok (.invokevirtual 28, 3) := by decide +kernel
theorem dL_law_349 : decode cL_law 349 = .ok (.aload_n 2, 1) := by decide +kernel
theorem dL_law_350 : decode cL_law 350 = .ok (.aload_n 0, 1) := by decide +kernel
theorem dL_law_351 : decode cL_law 351 = .ok (.iload_n 3, 1) := by decide +kernel
theorem dL_law_352 : decode cL_law 352 = .ok (.iconst 1, 1) := by decide +kernel
theorem dL_law_353 : decode cL_law 353 = .ok (.iadd, 1) := by decide +kernel
theorem dL_law_354 : decode cL_law 354 = .ok (.iaload, 1) := by decide +kernel
theorem dL_law_355 : decode cL_law 355 = .ok (.aload_n 0, 1) := by decide +kernel
theorem dL_law_356 : decode cL_law 356 = .ok (.iload_n 3, 1) := by decide +kernel
theorem dL_law_357 : decode cL_law 357 = .ok (.iconst 2, 1) := by decide +kernel
theorem dL_law_358 : decode cL_law 358 = .ok (.iadd, 1) := by decide +kernel
theorem dL_law_359 : decode cL_law 359 = .ok (.iaload, 1) := by decide +kernel
theorem dL_law_360 : decode cL_law 360 = .ok (.invokevirtual 31, 3) := by decide +kernel
theorem dL_law_363 : decode cL_law 363 = .ok (.if_icmp .eq 1376, 3) := by decide +kernel
theorem dL_law_366 : decode cL_law 366 = .ok (.iconst 0, 1) := by decide +kernel
theorem dL_law_367 : decode cL_law 367 = .ok (.ireturn, 1) := by decide +kernel
theorem dL_law_368 : decode cL_law 368 = .ok (.aload_n 1, 1) := by decide +kernel
theorem dL_law_369 : decode cL_law 369 = .ok (.aload_n 0, 1) := by decide +kernel
theorem dL_law_370 : decode cL_law 370 = .ok (.iload_n 3, 1) := by decide +kernel
theorem dL_law_371 : decode cL_law 371 = .ok (.iconst 1, 1) := by decide +kernel
theorem dL_law_372 : decode cL_law 372 = .ok (.iadd, 1) := by decide +kernel
theorem dL_law_373 : decode cL_law 373 = .ok (.iaload, 1) := by decide +kernel
theorem dL_law_374 : decode cL_law 374 = .ok (.aload_n 0, 1) := by decide +kernel
theorem dL_law_375 : decode cL_law 375 = .ok (.iload_n 3, 1) := by decide +kernel
theorem dL_law_376 : decode cL_law 376 = .ok (.iconst 2, 1) := by decide +kernel
theorem dL_law_377 : decode cL_law 377 = .ok (.iadd, 1) := by decide +kernel
theorem dL_law_378 : decode cL_law 378 = .ok (.iaload, 1) := by decide +kernel
theorem dL_law_379 : decode cL_law 379 = .ok (.invokevirtual 32, 3) := by decide +kernel
theorem dL_law_382 : decode cL_law 382 = .ok (.aload_n 2, 1) := by decide +kernel
theorem dL_law_383 : decode cL_law 383 = .ok (.aload_n 0, 1) := by decide +kernel
theorem dL_law_384 : decode cL_law 384 = .ok (.iload_n 3, 1) := by decide +kernel
theorem dL_law_385 : decode cL_law 385 = .ok (.iconst 1, 1) := by decide +kernel
theorem dL_law_386 : decode cL_law 386 = .ok (.iadd, 1) := by decide +kernel
theorem dL_law_387 : decode cL_law 387 = .ok (.iaload, 1) := by decide +kernel
theorem dL_law_388 : decode cL_law 388 = .ok (.aload_n 0, 1) := by decide +kernel
theorem dL_law_389 : decode cL_law 389 = .ok (.iload_n 3, 1) := by decide +kernel
theorem dL_law_390 : decode cL_law 390 = .ok (.iconst 2, 1) := by decide +kernel
theorem dL_law_391 : decode cL_law 391 = .ok (.iadd, 1) := by decide +kernel
theorem dL_law_392 : decode cL_law 392 = .ok (.iaload, 1) := by decide +kernel
theorem dL_law_393 : decode cL_law 393 = .ok (.invokevirtual 35, 3) := by decide +kernel
theorem dL_law_396 : decode cL_law 396 = .ok (.if_icmp .eq 1343, 3) := by decide +kernel
theorem dL_law_399 : decode cL_law 399 = .ok (.iconst 0, 1) := by decide +kernel
theorem dL_law_400 : decode cL_law 400 = .ok (.ireturn, 1) := by decide +kernel
theorem dL_law_401 : decode cL_law 401 = .ok (.aload_n 1, 1) := by decide +kernel
theorem dL_law_402 : decode cL_law 402 = .ok (.aload_n 0, 1) := by decide +kernel
theorem dL_law_403 : decode cL_law 403 = .ok (.iload_n 3, 1) := by decide +kernel
theorem dL_law_404 : decode cL_law 404 = .ok (.iconst 1, 1) := by decide +kernel
theorem dL_law_405 : decode cL_law 405 = .ok (.iadd, 1) := by decide +kernel
theorem dL_law_406 : decode cL_law 406 = .ok (.iaload, 1) := by decide +kernel
theorem dL_law_407 : decode cL_law 407 = .ok (.aload_n 0, 1) := by decide +kernel
theorem dL_law_408 : decode cL_law 408 = .ok (.iload_n 3, 1) := by decide +kernel
theorem dL_law_409 : decode cL_law 409 = .ok (.iconst 2, 1) := by decide +kernel
theorem dL_law_410 : decode cL_law 410 = .ok (.iadd, 1) := by decide +kernel
theorem dL_law_411 : decode cL_law 411 = .ok (.iaload, 1) := by decide +kernel
theorem dL_law_412 : decode cL_law 412 = .ok (.invokevirtual 36, 3) := by decide +kernel
theorem dL_law_415 : decode cL_law 415 = .ok (.aload_n 2, 1) := by decide +kernel
theorem dL_law_416 : decode cL_law 416 = .ok (.aload_n 0, 1) := by decide +kernel
theorem dL_law_417 : decode cL_law 417 = .ok (.iload_n 3, 1) := by decide +kernel
theorem dL_law_418 : decode cL_law 418 = .ok (.iconst 1, 1) := by decide +kernel
theorem dL_law_419 : decode cL_law 419 = .ok (.iadd, 1) := by decide +kernel
theorem dL_law_420 : decode cL_law 420 = .ok (.iaload, 1) := by decide +kernel
theorem dL_law_421 : decode cL_law 421 = .ok (.aload_n 0, 1) := by decide +kernel
theorem dL_law_422 : decode cL_law 422 = .ok (.iload_n 3, 1) := by decide +kernel
theorem dL_law_423 : decode cL_law 423 = .ok (.iconst 2, 1) := by decide +kernel
theorem dL_law_424 : decode cL_law 424 = .ok (.iadd, 1) := by decide +kernel
theorem dL_law_425 : decode cL_law 425 = .ok (.iaload, 1) := by decide +kernel
theorem dL_law_426 : decode cL_law 426 = .ok (.invokevirtual 39, 3) := by decide +kernel
theorem dL_law_429 : decode cL_law 429 = .ok (.if_icmp .eq 1310, 3) := by decide +kernel
theorem dL_law_432 : decode cL_law 432 = .ok (.iconst 0, 1) := by decide +kernel
theorem dL_law_433 : decode cL_law 433 = .ok (.ireturn, 1) := by decide +kernel
theorem dL_law_434 : decode cL_law 434 = .ok (.aload_n 1, 1) := by decide +kernel
theorem dL_law_435 : decode cL_law 435 = .ok (.aload_n 0, 1) := by decide +kernel
theorem dL_law_436 : decode cL_law 436 = .ok (.iload_n 3, 1) := by decide +kernel
theorem dL_law_437 : decode cL_law 437 = .ok (.iconst 1, 1) := by decide +kernel
theorem dL_law_438 : decode cL_law 438 = .ok (.iadd, 1) := by decide +kernel
theorem dL_law_439 : decode cL_law 439 = .ok (.iaload, 1) := by decide +kernel
theorem dL_law_440 : decode cL_law 440 = .ok (.invokevirtual 40, 3) := by decide +kernel
theorem dL_law_443 : decode cL_law 443 = .ok (.aload_n 2, 1) := by decide +kernel
theorem dL_law_444 : decode cL_law 444 = .ok (.aload_n 0, 1) := by decide +kernel
theorem dL_law_445 : decode cL_law 445 = .ok (.iload_n 3, 1) := by decide +kernel
theorem dL_law_446 : decode cL_law 446 = .ok (.iconst 1, 1) := by decide +kernel
theorem dL_law_447 : decode cL_law 447 = .ok (.iadd, 1) := by decide +kernel
theorem dL_law_448 : decode cL_law 448 = .ok (.iaload, 1) := by decide +kernel
theorem dL_law_449 : decode cL_law 449 = .ok (.invokevirtual 43, 3) := by decide +kernel
theorem dL_law_452 : decode cL_law 452 = .ok (.if_icmp .eq 1287, 3) := by decide +kernel
theorem dL_law_455 : decode cL_law 455 = .ok (.iconst 0, 1) := by decide +kernel
theorem dL_law_456 : decode cL_law 456 = .ok (.ireturn, 1) := by decide +kernel
theorem dL_law_457 : decode cL_law 457 = .ok (.aload_n 1, 1) := by decide +kernel
theorem dL_law_458 : decode cL_law 458 = .ok (.invokevirtual 44, 3) := by decide +kernel
theorem dL_law_461 : decode cL_law 461 = .ok (.aload_n 2, 1) := by decide +kernel
theorem dL_law_462 : decode cL_law 462 = .ok (.invokevirtual 48, 3) := by decide +kernel
theorem dL_law_465 : decode cL_law 465 = .ok (.if_icmp .eq 1274, 3) := by decide +kernel
theorem dL_law_468 : decode cL_law 468 = .ok (.iconst 0, 1) := by decide +kernel
theorem dL_law_469 : decode cL_law 469 = .ok (.ireturn, 1) := by decide +kernel
theorem dL_law_470 : decode cL_law 470 = .ok (.aload_n 1, 1) := by decide +kernel
theorem dL_law_471 : decode cL_law 471 = .ok (.invokevirtual 49, 3) := by decide +kernel
theorem dL_law_474 : decode cL_law 474 = .ok (.aload_n 2, 1) := by decide +kernel
theorem dL_law_475 : decode cL_law 475 = .ok (.invokevirtual 52, 3) := by decide +kernel
theorem dL_law_478 : decode cL_law 478 = .ok (.if_icmp .eq 1261, 3) := by decide +kernel
theorem dL_law_481 : decode cL_law 481 = .ok (.iconst 0, 1) := by decide +kernel
theorem dL_law_482 : decode cL_law 482 = .ok (.ireturn, 1) := by decide +kernel
theorem dL_law_483 : decode cL_law 483 = .ok (.aload_n 1, 1) := by decide +kernel
theorem dL_law_484 : decode cL_law 484 = .ok (.aload_n 0, 1) := by decide +kernel
theorem dL_law_485 : decode cL_law 485 = .ok (.iload_n 3, 1) := by decide +kernel
theorem dL_law_486 : decode cL_law 486 = .ok (.iconst 1, 1) := by decide +kernel
theorem dL_law_487 : decode cL_law 487 = .ok (.iadd, 1) := by decide +kernel
theorem dL_law_488 : decode cL_law 488 = .ok (.iaload, 1) := by decide +kernel
theorem dL_law_489 : decode cL_law 489 = .ok (.invokevirtual 53, 3) := by decide +kernel
theorem dL_law_492 : decode cL_law 492 = .ok (.aload_n 2, 1) := by decide +kernel
theorem dL_law_493 : decode cL_law 493 = .ok (.aload_n 0, 1) := by decide +kernel
theorem dL_law_494 : decode cL_law 494 = .ok (.iload_n 3, 1) := by decide +kernel
theorem dL_law_495 : decode cL_law 495 = .ok (.iconst 1, 1) := by decide +kernel
theorem dL_law_496 : decode cL_law 496 = .ok (.iadd, 1) := by decide +kernel
theorem dL_law_497 : decode cL_law 497 = .ok (.iaload, 1) := by decide +kernel
theorem dL_law_498 : decode cL_law 498 = .ok (.invokevirtual 56, 3) := by decide +kernel
theorem dL_law_501 : decode cL_law 501 = .ok (.if_icmp .eq 1238, 3) := by decide +kernel
theorem dL_law_504 : decode cL_law 504 = .ok (.iconst 0, 1) := by decide +kernel
theorem dL_law_505 : decode cL_law 505 = .ok (.ireturn, 1) := by decide +kernel
theorem dL_law_506 : decode cL_law 506 = .ok (.aload_n 1, 1) := by decide +kernel
theorem dL_law_507 : decode cL_law 507 = .ok (.aload_n 0, 1) := by decide +kernel
theorem dL_law_508 : decode cL_law 508 = .ok (.iload_n 3, 1) := by decide +kernel
theorem dL_law_509 : decode cL_law 509 = .ok (.iconst 1, 1) := by decide +kernel
theorem dL_law_510 : decode cL_law 510 = .ok (.iadd, 1) := by decide +kernel
theorem dL_law_511 : decode cL_law 511 = .ok (.iaload, 1) := by decide +kernel
theorem dL_law_512 : decode cL_law 512 = .ok (.invokevirtual 57, 3) := by decide +kernel
theorem dL_law_515 : decode cL_law 515 = .ok (.aload_n 2, 1) := by decide +kernel
theorem dL_law_516 : decode cL_law 516 = .ok (.aload_n 0, 1) := by decide +kernel
theorem dL_law_517 : decode cL_law 517 = .ok (.iload_n 3, 1) := by decide +kernel
theorem dL_law_518 : decode cL_law 518 = .ok (.iconst 1, 1) := by decide +kernel
theorem dL_law_519 : decode cL_law 519 = .ok (.iadd, 1) := by decide +kernel
theorem dL_law_520 : decode cL_law 520 = .ok (.iaload, 1) := by decide +kernel
theorem dL_law_521 : decode cL_law 521 = .ok (.invokevirtual 60, 3) := by decide +kernel
theorem dL_law_524 : decode cL_law 524 = .ok (.if_icmp .eq 1215, 3) := by decide +kernel
theorem dL_law_527 : decode cL_law 527 = .ok (.iconst 0, 1) := by decide +kernel
theorem dL_law_528 : decode cL_law 528 = .ok (.ireturn, 1) := by decide +kernel
theorem dL_law_529 : decode cL_law 529 = .ok (.aload_n 1, 1) := by decide +kernel
theorem dL_law_530 : decode cL_law 530 = .ok (.aload_n 0, 1) := by decide +kernel
theorem dL_law_531 : decode cL_law 531 = .ok (.iload_n 3, 1) := by decide +kernel
theorem dL_law_532 : decode cL_law 532 = .ok (.iconst 1, 1) := by decide +kernel
theorem dL_law_533 : decode cL_law 533 = .ok (.iadd, 1) := by decide +kernel
theorem dL_law_534 : decode cL_law 534 = .ok (.iaload, 1) := by decide +kernel
theorem dL_law_535 : decode cL_law 535 = .ok (.aload_n 0, 1) := by decide +kernel
theorem dL_law_536 : decode cL_law 536 = .ok (.iload_n 3, 1) := by decide +kernel
theorem dL_law_537 : decode cL_law 537 = .ok (.iconst 2, 1) := by decide +kernel
theorem dL_law_538 : decode cL_law 538 = .ok (.iadd, 1) := by decide +kernel
theorem dL_law_539 : decode cL_law 539 = .ok (.iaload, 1) := by decide +kernel
theorem dL_law_540 : decode cL_law 540 = .ok (.aload_n 0, 1) := by decide +kernel
theorem dL_law_541 : decode cL_law 541 = .ok (.iload_n 3, 1) := by decide +kernel
theorem dL_law_542 : decode cL_law 542 = .ok (.iconst 3, 1) := by decide +kernel
theorem dL_law_543 : decode cL_law 543 = .ok (.iadd, 1) := by decide +kernel
theorem dL_law_544 : decode cL_law 544 = .ok (.iaload, 1) := by decide +kernel
theorem dL_law_545 : decode cL_law 545 = .ok (.aload_n 0, 1) := by decide +kernel
theorem dL_law_546 : decode cL_law 546 = .ok (.iload_n 3, 1) := by decide +kernel
theorem dL_law_547 : decode cL_law 547 = .ok (.iconst 4, 1) := by decide +kernel
theorem dL_law_548 : decode cL_law 548 = .ok (.iadd, 1) := by decide +kernel
theorem dL_law_549 : decode cL_law 549 = .ok (.iaload, 1) := by decide +kernel
theorem dL_law_550 : decode cL_law 550 = .ok (.invokevirtual 61, 3) := by decide +kernel
theorem dL_law_553 : decode cL_law 553 = .ok (.aload_n 2, 1) := by decide +kernel
theorem dL_law_554 : decode cL_law 554 = .ok (.aload_n 0, 1) := by decide +kernel
theorem dL_law_555 : decode cL_law 555 = .ok (.iload_n 3, 1) := by decide +kernel
theorem dL_law_556 : decode cL_law 556 = .ok (.iconst 1, 1) := by decide +kernel
theorem dL_law_557 : decode cL_law 557 = .ok (.iadd, 1) := by decide +kernel
theorem dL_law_558 : decode cL_law 558 = .ok (.iaload, 1) := by decide +kernel
theorem dL_law_559 : decode cL_law 559 = .ok (.aload_n 0, 1) := by decide +kernel
theorem dL_law_560 : decode cL_law 560 = .ok (.iload_n 3, 1) := by decide +kernel
theorem dL_law_561 : decode cL_law 561 = .ok (.iconst 2, 1) := by decide +kernel
theorem dL_law_562 : decode cL_law 562 = .ok (.iadd, 1) := by decide +kernel
theorem dL_law_563 : decode cL_law 563 = .ok (.iaload, 1) := by decide +kernel
theorem dL_law_564 : decode cL_law 564 = .ok (.aload_n 0, 1) := by decide +kernel
theorem dL_law_565 : decode cL_law 565 = .ok (.iload_n 3, 1) := by decide +kernel
theorem dL_law_566 : decode cL_law 566 = .ok (.iconst 3, 1) := by decide +kernel
theorem dL_law_567 : decode cL_law 567 = .ok (.iadd, 1) := by decide +kernel
theorem dL_law_568 : decode cL_law 568 = .ok (.iaload, 1) := by decide +kernel
theorem dL_law_569 : decode cL_law 569 = .ok (.aload_n 0, 1) := by decide +kernel
theorem dL_law_570 : decode cL_law 570 = .ok (.iload_n 3, 1) := by decide +kernel
theorem dL_law_571 : decode cL_law 571 = .ok (.iconst 4, 1) := by decide +kernel
theorem dL_law_572 : decode cL_law 572 = .ok (.iadd, 1) := by decide +kernel
theorem dL_law_573 : decode cL_law 573 = .ok (.iaload, 1) := by decide +kernel
theorem dL_law_574 : decode cL_law 574 = .ok (.invokevirtual 65, 3) := by decide +kernel
theorem dL_law_577 : decode cL_law 577 = .ok (.if_icmp .eq 1162, 3) := by decide +kernel
theorem dL_law_580 : decode cL_law 580 = .ok (.iconst 0, 1) := by decide +kernel
theorem dL_law_581 : decode cL_law 581 = .ok (.ireturn, 1) := by decide +kernel
theorem dL_law_582 : decode cL_law 582 = .ok (.aload_n 1, 1) := by decide +kernel
theorem dL_law_583 : decode cL_law 583 = .ok (.invokevirtual 66, 3) := by decide +kernel
theorem dL_law_586 : decode cL_law 586 = .ok (.aload_n 2, 1) := by decide +kernel
theorem dL_law_587 : decode cL_law 587 = .ok (.invokevirtual 69, 3) := by decide +kernel
theorem dL_law_590 : decode cL_law 590 = .ok (.if_icmp .eq 1149, 3) := by decide +kernel
theorem dL_law_593 : decode cL_law 593 = .ok (.iconst 0, 1) := by decide +kernel
theorem dL_law_594 : decode cL_law 594 = .ok (.ireturn, 1) := by decide +kernel
theorem dL_law_595 : decode cL_law 595 = .ok (.aload_n 1, 1) := by decide +kernel
theorem dL_law_596 : decode cL_law 596 = .ok (.aload_n 0, 1) := by decide +kernel
theorem dL_law_597 : decode cL_law 597 = .ok (.iload_n 3, 1) := by decide +kernel
theorem dL_law_598 : decode cL_law 598 = .ok (.iconst 1, 1) := by decide +kernel
theorem dL_law_599 : decode cL_law 599 = .ok (.iadd, 1) := by decide +kernel
theorem dL_law_600 : decode cL_law 600 = .ok (.iaload, 1) := by decide +kernel
theorem dL_law_601 : decode cL_law 601 = .ok (.invokevirtual 70, 3) := by decide +kernel
theorem dL_law_604 : decode cL_law 604 = .ok (.aload_n 2, 1) := by decide +kernel
theorem dL_law_605 : decode cL_law 605 = .ok (.aload_n 0, 1) := by decide +kernel
theorem dL_law_606 : decode cL_law 606 = .ok (.iload_n 3, 1) := by decide +kernel
theorem dL_law_607 : decode cL_law 607 = .ok (.iconst 1, 1) := by decide +kernel
theorem dL_law_608 : decode cL_law 608 = .ok (.iadd, 1) := by decide +kernel
theorem dL_law_609 : decode cL_law 609 = .ok (.iaload, 1) := by decide +kernel
theorem dL_law_610 : decode cL_law 610 = .ok (.invokevirtual 73, 3) := by decide +kernel
theorem dL_law_613 : decode cL_law 613 = .ok (.if_icmp .eq 1126, 3) := by decide +kernel
theorem dL_law_616 : decode cL_law 616 = .ok (.iconst 0, 1) := by decide +kernel
theorem dL_law_617 : decode cL_law 617 = .ok (.ireturn, 1) := by decide +kernel
theorem dL_law_618 : decode cL_law 618 = .ok (.aload_n 1, 1) := by decide +kernel
theorem dL_law_619 : decode cL_law 619 = .ok (.invokevirtual 74, 3) := by decide +kernel
theorem dL_law_622 : decode cL_law 622 = .ok (.aload_n 2, 1) := by decide +kernel
theorem dL_law_623 : decode cL_law 623 = .ok (.invokevirtual 77, 3) := by decide +kernel
theorem dL_law_626 : decode cL_law 626 = .ok (.if_icmp .eq 1113, 3) := by decide +kernel
theorem dL_law_629 : decode cL_law 629 = .ok (.iconst 0, 1) := by decide +kernel
theorem dL_law_630 : decode cL_law 630 = .ok (.ireturn, 1) := by decide +kernel
theorem dL_law_631 : decode cL_law 631 = .ok (.aload_n 1, 1) := by decide +kernel
theorem dL_law_632 : decode cL_law 632 = .ok (.aload_n 0, 1) := by decide +kernel
theorem dL_law_633 : decode cL_law 633 = .ok (.iload_n 3, 1) := by decide +kernel
theorem dL_law_634 : decode cL_law 634 = .ok (.iconst 1, 1) := by decide +kernel
theorem dL_law_635 : decode cL_law 635 = .ok (.iadd, 1) := by decide +kernel
theorem dL_law_636 : decode cL_law 636 = .ok (.iaload, 1) := by decide +kernel
theorem dL_law_637 : decode cL_law 637 = .ok (.aload_n 0, 1) := by decide +kernel
theorem dL_law_638 : decode cL_law 638 = .ok (.iload_n 3, 1) := by decide +kernel
theorem dL_law_639 : decode cL_law 639 = .ok (.iconst 2, 1) := by decide +kernel
theorem dL_law_640 : decode cL_law 640 = .ok (.iadd, 1) := by decide +kernel
theorem dL_law_641 : decode cL_law 641 = .ok (.iaload, 1) := by decide +kernel
theorem dL_law_642 : decode cL_law 642 = .ok (.invokevirtual 78, 3) := by decide +kernel
theorem dL_law_645 : decode cL_law 645 = .ok (.aload_n 2, 1) := by decide +kernel
theorem dL_law_646 : decode cL_law 646 = .ok (.aload_n 0, 1) := by decide +kernel
theorem dL_law_647 : decode cL_law 647 = .ok (.iload_n 3, 1) := by decide +kernel
theorem dL_law_648 : decode cL_law 648 = .ok (.iconst 1, 1) := by decide +kernel
theorem dL_law_649 : decode cL_law 649 = .ok (.iadd, 1) := by decide +kernel
theorem dL_law_650 : decode cL_law 650 = .ok (.iaload, 1) := by decide +kernel
theorem dL_law_651 : decode cL_law 651 = .ok (.aload_n 0, 1) := by decide +kernel
theorem dL_law_652 : decode cL_law 652 = .ok (.iload_n 3, 1) := by decide +kernel
theorem dL_law_653 : decode cL_law 653 = .ok (.iconst 2, 1) := by decide +kernel
theorem dL_law_654 : decode cL_law 654 = .ok (.iadd, 1) := by decide +kernel
theorem dL_law_655 : decode cL_law 655 = .ok (.iaload, 1) := by decide +kernel
theorem dL_law_656 : decode cL_law 656 = .ok (.invokevirtual 81, 3) := by decide +kernel
theorem dL_law_659 : decode cL_law 659 = .ok (.if_icmp .eq 1080, 3) := by decide +kernel
theorem dL_law_662 : decode cL_law 662 = .ok (.iconst 0, 1) := by decide +kernel
theorem dL_law_663 : decode cL_law 663 = .ok (.ireturn, 1) := by decide +kernel
theorem dL_law_664 : decode cL_law 664 = .ok (.aload_n 1, 1) := by decide +kernel
theorem dL_law_665 : decode cL_law 665 = .ok (.aload_n 0, 1) := by decide +kernel
theorem dL_law_666 : decode cL_law 666 = .ok (.iload_n 3, 1) := by decide +kernel
theorem dL_law_667 : decode cL_law 667 = .ok (.iconst 1, 1) := by decide +kernel
theorem dL_law_668 : decode cL_law 668 = .ok (.iadd, 1) := by decide +kernel
theorem dL_law_669 : decode cL_law 669 = .ok (.iaload, 1) := by decide +kernel
theorem dL_law_670 : decode cL_law 670 = .ok (.aload_n 0, 1) := by decide +kernel
theorem dL_law_671 : decode cL_law 671 = .ok (.iload_n 3, 1) := by decide +kernel
theorem dL_law_672 : decode cL_law 672 = .ok (.iconst 2, 1) := by decide +kernel
theorem dL_law_673 : decode cL_law 673 = .ok (.iadd, 1) := by decide +kernel
theorem dL_law_674 : decode cL_law 674 = .ok (.iaload, 1) := by decide +kernel
theorem dL_law_675 : decode cL_law 675 = .ok (.invokevirtual 82, 3) := by decide +kernel
theorem dL_law_678 : decode cL_law 678 = .ok (.aload_n 2, 1) := by decide +kernel
theorem dL_law_679 : decode cL_law 679 = .ok (.aload_n 0, 1) := by decide +kernel
theorem dL_law_680 : decode cL_law 680 = .ok (.iload_n 3, 1) := by decide +kernel
theorem dL_law_681 : decode cL_law 681 = .ok (.iconst 1, 1) := by decide +kernel
theorem dL_law_682 : decode cL_law 682 = .ok (.iadd, 1) := by decide +kernel
theorem dL_law_683 : decode cL_law 683 = .ok (.iaload, 1) := by decide +kernel
theorem dL_law_684 : decode cL_law 684 = .ok (.aload_n 0, 1) := by decide +kernel
theorem dL_law_685 : decode cL_law 685 = .ok (.iload_n 3, 1) := by decide +kernel
theorem dL_law_686 : decode cL_law 686 = .ok (.iconst 2, 1) := by decide +kernel
theorem dL_law_687 : decode cL_law 687 = .ok (.iadd, 1) := by decide +kernel
theorem dL_law_688 : decode cL_law 688 = .ok (.iaload, 1) := by decide +kernel
theorem dL_law_689 : decode cL_law 689 = .ok (.invokevirtual 85, 3) := by decide +kernel
theorem dL_law_692 : decode cL_law 692 = .ok (.if_icmp .eq 1047, 3) := by decide +kernel
theorem dL_law_695 : decode cL_law 695 = .ok (.iconst 0, 1) := by decide +kernel
theorem dL_law_696 : decode cL_law 696 = .ok (.ireturn, 1) := by decide +kernel
theorem dL_law_697 : decode cL_law 697 = .ok (.aload_n 1, 1) := by decide +kernel
theorem dL_law_698 : decode cL_law 698 = .ok (.aload_n 0, 1) := by decide +kernel
theorem dL_law_699 : decode cL_law 699 = .ok (.iload_n 3, 1) := by decide +kernel
theorem dL_law_700 : decode cL_law 700 = .ok (.iconst 1, 1) := by decide +kernel
theorem dL_law_701 : decode cL_law 701 = .ok (.iadd, 1) := by decide +kernel
theorem dL_law_702 : decode cL_law 702 = .ok (.iaload, 1) := by decide +kernel
theorem dL_law_703 : decode cL_law 703 = .ok (.aload_n 0, 1) := by decide +kernel
theorem dL_law_704 : decode cL_law 704 = .ok (.iload_n 3, 1) := by decide +kernel
theorem dL_law_705 : decode cL_law 705 = .ok (.iconst 2, 1) := by decide +kernel
theorem dL_law_706 : decode cL_law 706 = .ok (.iadd, 1) := by decide +kernel
theorem dL_law_707 : decode cL_law 707 = .ok (.iaload, 1) := by decide +kernel
theorem dL_law_708 : decode cL_law 708 = .ok (.invokevirtual 86, 3) := by decide +kernel
theorem dL_law_711 : decode cL_law 711 = .ok (.aload_n 2, 1) := by decide +kernel
theorem dL_law_712 : decode cL_law 712 = .ok (.aload_n 0, 1) := by decide +kernel
theorem dL_law_713 : decode cL_law 713 = .ok (.iload_n 3, 1) := by decide +kernel
theorem dL_law_714 : decode cL_law 714 = .ok (.iconst 1, 1) := by decide +kernel
theorem dL_law_715 : decode cL_law 715 = .ok (.iadd, 1) := by decide +kernel
theorem dL_law_716 : decode cL_law 716 = .ok (.iaload, 1) := by decide +kernel
theorem dL_law_717 : decode cL_law 717 = .ok (.aload_n 0, 1) := by decide +kernel
theorem dL_law_718 : decode cL_law 718 = .ok (.iload_n 3, 1) := by decide +kernel
theorem dL_law_719 : decode cL_law 719 = .ok (.iconst 2, 1) := by decide +kernel
theorem dL_law_720 : decode cL_law 720 = .ok (.iadd, 1) := by decide +kernel
theorem dL_law_721 : decode cL_law 721 = .ok (.iaload, 1) := by decide +kernel
theorem dL_law_722 : decode cL_law 722 = .ok (.invokevirtual 89, 3) := by decide +kernel
theorem dL_law_725 : decode cL_law 725 = .ok (.if_icmp .eq 1014, 3) := by decide +kernel
theorem dL_law_728 : decode cL_law 728 = .ok (.iconst 0, 1) := by decide +kernel
theorem dL_law_729 : decode cL_law 729 = .ok (.ireturn, 1) := by decide +kernel
theorem dL_law_730 : decode cL_law 730 = .ok (.aload_n 1, 1) := by decide +kernel
theorem dL_law_731 : decode cL_law 731 = .ok (.aload_n 0, 1) := by decide +kernel
theorem dL_law_732 : decode cL_law 732 = .ok (.iload_n 3, 1) := by decide +kernel
theorem dL_law_733 : decode cL_law 733 = .ok (.iconst 1, 1) := by decide +kernel
theorem dL_law_734 : decode cL_law 734 = .ok (.iadd, 1) := by decide +kernel
theorem dL_law_735 : decode cL_law 735 = .ok (.iaload, 1) := by decide +kernel
theorem dL_law_736 : decode cL_law 736 = .ok (.aload_n 0, 1) := by decide +kernel
theorem dL_law_737 : decode cL_law 737 = .ok (.iload_n 3, 1) := by decide +kernel
theorem dL_law_738 : decode cL_law 738 = .ok (.iconst 2, 1) := by decide +kernel
theorem dL_law_739 : decode cL_law 739 = .ok (.iadd, 1) := by decide +kernel
theorem dL_law_740 : decode cL_law 740 = .ok (.iaload, 1) := by decide +kernel
theorem dL_law_741 : decode cL_law 741 = .ok (.invokevirtual 90, 3) := by decide +kernel
theorem dL_law_744 : decode cL_law 744 = .ok (.aload_n 2, 1) := by decide +kernel
theorem dL_law_745 : decode cL_law 745 = .ok (.aload_n 0, 1) := by decide +kernel
theorem dL_law_746 : decode cL_law 746 = .ok (.iload_n 3, 1) := by decide +kernel
theorem dL_law_747 : decode cL_law 747 = .ok (.iconst 1, 1) := by decide +kernel
theorem dL_law_748 : decode cL_law 748 = .ok (.iadd, 1) := by decide +kernel
theorem dL_law_749 : decode cL_law 749 = .ok (.iaload, 1) := by decide +kernel
theorem dL_law_750 : decode cL_law 750 = .ok (.aload_n 0, 1) := by decide +kernel
theorem dL_law_751 : decode cL_law 751 = .ok (.iload_n 3, 1) := by decide +kernel
theorem dL_law_752 : decode cL_law 752 = .ok (.iconst 2, 1) := by decide +kernel
theorem dL_law_753 : decode cL_law 753 = .ok (.iadd, 1) := by decide +kernel
theorem dL_law_754 : decode cL_law 754 = .ok (.iaload, 1) := by decide +kernel
theorem dL_law_755 : decode cL_law 755 = .ok (.invokevirtual 93, 3) := by decide +kernel
theorem dL_law_758 : decode cL_law 758 = .ok (.if_icmp .eq 981, 3) := by decide +kernel
theorem dL_law_761 : decode cL_law 761 = .ok (.iconst 0, 1) := by decide +kernel
theorem dL_law_762 : decode cL_law 762 = .ok (.ireturn, 1) := by decide +kernel
theorem dL_law_763 : decode cL_law 763 = .ok (.aload_n 1, 1) := by decide +kernel
theorem dL_law_764 : decode cL_law 764 = .ok (.aload_n 0, 1) := by decide +kernel
theorem dL_law_765 : decode cL_law 765 = .ok (.iload_n 3, 1) := by decide +kernel
theorem dL_law_766 : decode cL_law 766 = .ok (.iconst 1, 1) := by decide +kernel
theorem dL_law_767 : decode cL_law 767 = .ok (.iadd, 1) := by decide +kernel
theorem dL_law_768 : decode cL_law 768 = .ok (.iaload, 1) := by decide +kernel
theorem dL_law_769 : decode cL_law 769 = .ok (.aload_n 0, 1) := by decide +kernel
theorem dL_law_770 : decode cL_law 770 = .ok (.iload_n 3, 1) := by decide +kernel
theorem dL_law_771 : decode cL_law 771 = .ok (.iconst 2, 1) := by decide +kernel
theorem dL_law_772 : decode cL_law 772 = .ok (.iadd, 1) := by decide +kernel
theorem dL_law_773 : decode cL_law 773 = .ok (.iaload, 1) := by decide +kernel
theorem dL_law_774 : decode cL_law 774 = .ok (.invokevirtual 94, 3) := by decide +kernel
theorem dL_law_777 : decode cL_law 777 = .ok (.aload_n 2, 1) := by decide +kernel
theorem dL_law_778 : decode cL_law 778 = .ok (.aload_n 0, 1) := by decide +kernel
theorem dL_law_779 : decode cL_law 779 = .ok (.iload_n 3, 1) := by decide +kernel
theorem dL_law_780 : decode cL_law 780 = .ok (.iconst 1, 1) := by decide +kernel
theorem dL_law_781 : decode cL_law 781 = .ok (.iadd, 1) := by decide +kernel
theorem dL_law_782 : decode cL_law 782 = .ok (.iaload, 1) := by decide +kernel
theorem dL_law_783 : decode cL_law 783 = .ok (.aload_n 0, 1) := by decide +kernel
theorem dL_law_784 : decode cL_law 784 = .ok (.iload_n 3, 1) := by decide +kernel
theorem dL_law_785 : decode cL_law 785 = .ok (.iconst 2, 1) := by decide +kernel
theorem dL_law_786 : decode cL_law 786 = .ok (.iadd, 1) := by decide +kernel
theorem dL_law_787 : decode cL_law 787 = .ok (.iaload, 1) := by decide +kernel
theorem dL_law_788 : decode cL_law 788 = .ok (.invokevirtual 97, 3) := by decide +kernel
theorem dL_law_791 : decode cL_law 791 = .ok (.if_icmp .eq 948, 3) := by decide +kernel
theorem dL_law_794 : decode cL_law 794 = .ok (.iconst 0, 1) := by decide +kernel
theorem dL_law_795 : decode cL_law 795 = .ok (.ireturn, 1) := by decide +kernel
theorem dL_law_796 : decode cL_law 796 = .ok (.aload_n 1, 1) := by decide +kernel
theorem dL_law_797 : decode cL_law 797 = .ok (.aload_n 0, 1) := by decide +kernel
theorem dL_law_798 : decode cL_law 798 = .ok (.iload_n 3, 1) := by decide +kernel
theorem dL_law_799 : decode cL_law 799 = .ok (.iconst 1, 1) := by decide +kernel
theorem dL_law_800 : decode cL_law 800 = .ok (.iadd, 1) := by decide +kernel
theorem dL_law_801 : decode cL_law 801 = .ok (.iaload, 1) := by decide +kernel
theorem dL_law_802 : decode cL_law 802 = .ok (.aload_n 0, 1) := by decide +kernel
theorem dL_law_803 : decode cL_law 803 = .ok (.iload_n 3, 1) := by decide +kernel
theorem dL_law_804 : decode cL_law 804 = .ok (.iconst 2, 1) := by decide +kernel
theorem dL_law_805 : decode cL_law 805 = .ok (.iadd, 1) := by decide +kernel
theorem dL_law_806 : decode cL_law 806 = .ok (.iaload, 1) := by decide +kernel
theorem dL_law_807 : decode cL_law 807 = .ok (.aload_n 0, 1) := by decide +kernel
theorem dL_law_808 : decode cL_law 808 = .ok (.iload_n 3, 1) := by decide +kernel
theorem dL_law_809 : decode cL_law 809 = .ok (.iconst 3, 1) := by decide +kernel
theorem dL_law_810 : decode cL_law 810 = .ok (.iadd, 1) := by decide +kernel
theorem dL_law_811 : decode cL_law 811 = .ok (.iaload, 1) := by decide +kernel
theorem dL_law_812 : decode cL_law 812 = .ok (.aload_n 0, 1) := by decide +kernel
theorem dL_law_813 : decode cL_law 813 = .ok (.iload_n 3, 1) := by decide +kernel
theorem dL_law_814 : decode cL_law 814 = .ok (.iconst 4, 1) := by decide +kernel
theorem dL_law_815 : decode cL_law 815 = .ok (.iadd, 1) := by decide +kernel
theorem dL_law_816 : decode cL_law 816 = .ok (.iaload, 1) := by decide +kernel
theorem dL_law_817 : decode cL_law 817 = .ok (.invokevirtual 98, 3) := by decide +kernel
theorem dL_law_820 : decode cL_law 820 = .ok (.aload_n 2, 1) := by decide +kernel
theorem dL_law_821 : decode cL_law 821 = .ok (.aload_n 0, 1) := by decide +kernel
theorem dL_law_822 : decode cL_law 822 = .ok (.iload_n 3, 1) := by decide +kernel
theorem dL_law_823 : decode cL_law 823 = .ok (.iconst 1, 1) := by decide +kernel
theorem dL_law_824 : decode cL_law 824 = .ok (.iadd, 1) := by decide +kernel
theorem dL_law_825 : decode cL_law 825 = .ok (.iaload, 1) := by decide +kernel
theorem dL_law_826 : decode cL_law 826 = .ok (.aload_n 0, 1) := by decide +kernel
theorem dL_law_827 : decode cL_law 827 = .ok (.iload_n 3, 1) := by decide +kernel
theorem dL_law_828 : decode cL_law 828 = .ok (.iconst 2, 1) := by decide +kernel
theorem dL_law_829 : decode cL_law 829 = .ok (.iadd, 1) := by decide +kernel
theorem dL_law_830 : decode cL_law 830 = .ok (.iaload, 1) := by decide +kernel
theorem dL_law_831 : decode cL_law 831 = .ok (.aload_n 0, 1) := by decide +kernel
theorem dL_law_832 : decode cL_law 832 = .ok (.iload_n 3, 1) := by decide +kernel
theorem dL_law_833 : decode cL_law 833 = .ok (.iconst 3, 1) := by decide +kernel
theorem dL_law_834 : decode cL_law 834 = .ok (.iadd, 1) := by decide +kernel
theorem dL_law_835 : decode cL_law 835 = .ok (.iaload, 1) := by decide +kernel
theorem dL_law_836 : decode cL_law 836 = .ok (.aload_n 0, 1) := by decide +kernel
theorem dL_law_837 : decode cL_law 837 = .ok (.iload_n 3, 1) := by decide +kernel
theorem dL_law_838 : decode cL_law 838 = .ok (.iconst 4, 1) := by decide +kernel
theorem dL_law_839 : decode cL_law 839 = .ok (.iadd, 1) := by decide +kernel
theorem dL_law_840 : decode cL_law 840 = .ok (.iaload, 1) := by decide +kernel
theorem dL_law_841 : decode cL_law 841 = .ok (.invokevirtual 101, 3) := by decide +kernel
theorem dL_law_844 : decode cL_law 844 = .ok (.if_icmp .eq 895, 3) := by decide +kernel
theorem dL_law_847 : decode cL_law 847 = .ok (.iconst 0, 1) := by decide +kernel
theorem dL_law_848 : decode cL_law 848 = .ok (.ireturn, 1) := by decide +kernel
theorem dL_law_849 : decode cL_law 849 = .ok (.aload_n 1, 1) := by decide +kernel
theorem dL_law_850 : decode cL_law 850 = .ok (.aload_n 0, 1) := by decide +kernel
theorem dL_law_851 : decode cL_law 851 = .ok (.iload_n 3, 1) := by decide +kernel
theorem dL_law_852 : decode cL_law 852 = .ok (.iconst 1, 1) := by decide +kernel
theorem dL_law_853 : decode cL_law 853 = .ok (.iadd, 1) := by decide +kernel
theorem dL_law_854 : decode cL_law 854 = .ok (.iaload, 1) := by decide +kernel
theorem dL_law_855 : decode cL_law 855 = .ok (.aload_n 0, 1) := by decide +kernel
theorem dL_law_856 : decode cL_law 856 = .ok (.iload_n 3, 1) := by decide +kernel
theorem dL_law_857 : decode cL_law 857 = .ok (.iconst 2, 1) := by decide +kernel
theorem dL_law_858 : decode cL_law 858 = .ok (.iadd, 1) := by decide +kernel
theorem dL_law_859 : decode cL_law 859 = .ok (.iaload, 1) := by decide +kernel
theorem dL_law_860 : decode cL_law 860 = .ok (.invokevirtual 102, 3) := by decide +kernel
theorem dL_law_863 : decode cL_law 863 = .ok (.aload_n 2, 1) := by decide +kernel
theorem dL_law_864 : decode cL_law 864 = .ok (.aload_n 0, 1) := by decide +kernel
theorem dL_law_865 : decode cL_law 865 = .ok (.iload_n 3, 1) := by decide +kernel
theorem dL_law_866 : decode cL_law 866 = .ok (.iconst 1, 1) := by decide +kernel
theorem dL_law_867 : decode cL_law 867 = .ok (.iadd, 1) := by decide +kernel
theorem dL_law_868 : decode cL_law 868 = .ok (.iaload, 1) := by decide +kernel
theorem dL_law_869 : decode cL_law 869 = .ok (.aload_n 0, 1) := by decide +kernel
theorem dL_law_870 : decode cL_law 870 = .ok (.iload_n 3, 1) := by decide +kernel
theorem dL_law_871 : decode cL_law 871 = .ok (.iconst 2, 1) := by decide +kernel
theorem dL_law_872 : decode cL_law 872 = .ok (.iadd, 1) := by decide +kernel
theorem dL_law_873 : decode cL_law 873 = .ok (.iaload, 1) := by decide +kernel
theorem dL_law_874 : decode cL_law 874 = .ok (.invokevirtual 105, 3) := by decide +kernel
theorem dL_law_877 : decode cL_law 877 = .ok (.if_icmp .eq 862, 3) := by decide +kernel
theorem dL_law_880 : decode cL_law 880 = .ok (.iconst 0, 1) := by decide +kernel
theorem dL_law_881 : decode cL_law 881 = .ok (.ireturn, 1) := by decide +kernel
theorem dL_law_882 : decode cL_law 882 = .ok (.aload_n 1, 1) := by decide +kernel
theorem dL_law_883 : decode cL_law 883 = .ok (.aload_n 0, 1) := by decide +kernel
theorem dL_law_884 : decode cL_law 884 = .ok (.iload_n 3, 1) := by decide +kernel
theorem dL_law_885 : decode cL_law 885 = .ok (.iconst 1, 1) := by decide +kernel
theorem dL_law_886 : decode cL_law 886 = .ok (.iadd, 1) := by decide +kernel
theorem dL_law_887 : decode cL_law 887 = .ok (.iaload, 1) := by decide +kernel
theorem dL_law_888 : decode cL_law 888 = .ok (.aload_n 0, 1) := by decide +kernel
theorem dL_law_889 : decode cL_law 889 = .ok (.iload_n 3, 1) := by decide +kernel
theorem dL_law_890 : decode cL_law 890 = .ok (.iconst 2, 1) := by decide +kernel
theorem dL_law_891 : decode cL_law 891 = .ok (.iadd, 1) := by decide +kernel
theorem dL_law_892 : decode cL_law 892 = .ok (.iaload, 1) := by decide +kernel
theorem dL_law_893 : decode cL_law 893 = .ok (.aload_n 0, 1) := by decide +kernel
theorem dL_law_894 : decode cL_law 894 = .ok (.iload_n 3, 1) := by decide +kernel
theorem dL_law_895 : decode cL_law 895 = .ok (.iconst 3, 1) := by decide +kernel
theorem dL_law_896 : decode cL_law 896 = .ok (.iadd, 1) := by decide +kernel
theorem dL_law_897 : decode cL_law 897 = .ok (.iaload, 1) := by decide +kernel
theorem dL_law_898 : decode cL_law 898 = .ok (.invokevirtual 106, 3) := by decide +kernel
theorem dL_law_901 : decode cL_law 901 = .ok (.aload_n 2, 1) := by decide +kernel
theorem dL_law_902 : decode cL_law 902 = .ok (.aload_n 0, 1) := by decide +kernel
theorem dL_law_903 : decode cL_law 903 = .ok (.iload_n 3, 1) := by decide +kernel
theorem dL_law_904 : decode cL_law 904 = .ok (.iconst 1, 1) := by decide +kernel
theorem dL_law_905 : decode cL_law 905 = .ok (.iadd, 1) := by decide +kernel
theorem dL_law_906 : decode cL_law 906 = .ok (.iaload, 1) := by decide +kernel
theorem dL_law_907 : decode cL_law 907 = .ok (.aload_n 0, 1) := by decide +kernel
theorem dL_law_908 : decode cL_law 908 = .ok (.iload_n 3, 1) := by decide +kernel
theorem dL_law_909 : decode cL_law 909 = .ok (.iconst 2, 1) := by decide +kernel
theorem dL_law_910 : decode cL_law 910 = .ok (.iadd, 1) := by decide +kernel
theorem dL_law_911 : decode cL_law 911 = .ok (.iaload, 1) := by decide +kernel
theorem dL_law_912 : decode cL_law 912 = .ok (.aload_n 0, 1) := by decide +kernel
theorem dL_law_913 : decode cL_law 913 = .ok (.iload_n 3, 1) := by decide +kernel
theorem dL_law_914 : decode cL_law 914 = .ok (.iconst 3, 1) := by decide +kernel
theorem dL_law_915 : decode cL_law 915 = .ok (.iadd, 1) := by decide +kernel
theorem dL_law_916 : decode cL_law 916 = .ok (.iaload, 1) := by decide +kernel
theorem dL_law_917 : decode cL_law 917 = .ok (.invokevirtual 109, 3) := by decide +kernel
theorem dL_law_920 : decode cL_law 920 = .ok (.if_icmp .eq 819, 3) := by decide +kernel
theorem dL_law_923 : decode cL_law 923 = .ok (.iconst 0, 1) := by decide +kernel
theorem dL_law_924 : decode cL_law 924 = .ok (.ireturn, 1) := by decide +kernel
theorem dL_law_925 : decode cL_law 925 = .ok (.aload_n 1, 1) := by decide +kernel
theorem dL_law_926 : decode cL_law 926 = .ok (.aload_n 0, 1) := by decide +kernel
theorem dL_law_927 : decode cL_law 927 = .ok (.iload_n 3, 1) := by decide +kernel
theorem dL_law_928 : decode cL_law 928 = .ok (.iconst 1, 1) := by decide +kernel
theorem dL_law_929 : decode cL_law 929 = .ok (.iadd, 1) := by decide +kernel
theorem dL_law_930 : decode cL_law 930 = .ok (.iaload, 1) := by decide +kernel
theorem dL_law_931 : decode cL_law 931 = .ok (.aload_n 0, 1) := by decide +kernel
theorem dL_law_932 : decode cL_law 932 = .ok (.iload_n 3, 1) := by decide +kernel
theorem dL_law_933 : decode cL_law 933 = .ok (.iconst 2, 1) := by decide +kernel
theorem dL_law_934 : decode cL_law 934 = .ok (.iadd, 1) := by decide +kernel
theorem dL_law_935 : decode cL_law 935 = .ok (.iaload, 1) := by decide +kernel
theorem dL_law_936 : decode cL_law 936 = .ok (.aload_n 0, 1) := by decide +kernel
theorem dL_law_937 : decode cL_law 937 = .ok (.iload_n 3, 1) := by decide +kernel
theorem dL_law_938 : decode cL_law 938 = .ok (.iconst 3, 1) := by decide +kernel
theorem dL_law_939 : decode cL_law 939 = .ok (.iadd, 1) := by decide +kernel
theorem dL_law_940 : decode cL_law 940 = .ok (.iaload, 1) := by decide +kernel
theorem dL_law_941 : decode cL_law 941 = .ok (.invokevirtual 110, 3) := by decide +kernel
theorem dL_law_944 : decode cL_law 944 = .ok (.aload_n 2, 1) := by decide +kernel
theorem dL_law_945 : decode cL_law 945 = .ok (.aload_n 0, 1) := by decide +kernel
theorem dL_law_946 : decode cL_law 946 = .ok (.iload_n 3, 1) := by decide +kernel
theorem dL_law_947 : decode cL_law 947 = .ok (.iconst 1, 1) := by decide +kernel
theorem dL_law_948 : decode cL_law 948 = .ok (.iadd, 1) := by decide +kernel
theorem dL_law_949 : decode cL_law 949 = .ok (.iaload, 1) := by decide +kernel
theorem dL_law_950 : decode cL_law 950 = .ok (.aload_n 0, 1) := by decide +kernel
theorem dL_law_951 : decode cL_law 951 = .ok (.iload_n 3, 1) := by decide +kernel
theorem dL_law_952 : decode cL_law 952 = .ok (.iconst 2, 1) := by decide +kernel
theorem dL_law_953 : decode cL_law 953 = .ok (.iadd, 1) := by decide +kernel
theorem dL_law_954 : decode cL_law 954 = .ok (.iaload, 1) := by decide +kernel
theorem dL_law_955 : decode cL_law 955 = .ok (.aload_n 0, 1) := by decide +kernel
theorem dL_law_956 : decode cL_law 956 = .ok (.iload_n 3, 1) := by decide +kernel
theorem dL_law_957 : decode cL_law 957 = .ok (.iconst 3, 1) := by decide +kernel
theorem dL_law_958 : decode cL_law 958 = .ok (.iadd, 1) := by decide +kernel
theorem dL_law_959 : decode cL_law 959 = .ok (.iaload, 1) := by decide +kernel
theorem dL_law_960 : decode cL_law 960 = .ok (.invokevirtual 113, 3) := by decide +kernel
theorem dL_law_963 : decode cL_law 963 = .ok (.if_icmp .eq 776, 3) := by decide +kernel
theorem dL_law_966 : decode cL_law 966 = .ok (.iconst 0, 1) := by decide +kernel
theorem dL_law_967 : decode cL_law 967 = .ok (.ireturn, 1) := by decide +kernel
theorem dL_law_968 : decode cL_law 968 = .ok (.aload_n 1, 1) := by decide +kernel
theorem dL_law_969 : decode cL_law 969 = .ok (.aload_n 0, 1) := by decide +kernel
theorem dL_law_970 : decode cL_law 970 = .ok (.iload_n 3, 1) := by decide +kernel
theorem dL_law_971 : decode cL_law 971 = .ok (.iconst 1, 1) := by decide +kernel
theorem dL_law_972 : decode cL_law 972 = .ok (.iadd, 1) := by decide +kernel
theorem dL_law_973 : decode cL_law 973 = .ok (.iaload, 1) := by decide +kernel
theorem dL_law_974 : decode cL_law 974 = .ok (.aload_n 0, 1) := by decide +kernel
theorem dL_law_975 : decode cL_law 975 = .ok (.iload_n 3, 1) := by decide +kernel
theorem dL_law_976 : decode cL_law 976 = .ok (.iconst 2, 1) := by decide +kernel
theorem dL_law_977 : decode cL_law 977 = .ok (.iadd, 1) := by decide +kernel
theorem dL_law_978 : decode cL_law 978 = .ok (.iaload, 1) := by decide +kernel
theorem dL_law_979 : decode cL_law 979 = .ok (.invokevirtual 114, 3) := by decide +kernel
theorem dL_law_982 : decode cL_law 982 = .ok (.aload_n 2, 1) := by decide +kernel
theorem dL_law_983 : decode cL_law 983 = .ok (.aload_n 0, 1) := by decide +kernel
theorem dL_law_984 : decode cL_law 984 = .ok (.iload_n 3, 1) := by decide +kernel
theorem dL_law_985 : decode cL_law 985 = .ok (.iconst 1, 1) := by decide +kernel
theorem dL_law_986 : decode cL_law 986 = .ok (.iadd, 1) := by decide +kernel
theorem dL_law_987 : decode cL_law 987 = .ok (.iaload, 1) := by decide +kernel
theorem dL_law_988 : decode cL_law 988 = .ok (.aload_n 0, 1) := by decide +kernel
theorem dL_law_989 : decode cL_law 989 = .ok (.iload_n 3, 1) := by decide +kernel
theorem dL_law_990 : decode cL_law 990 = .ok (.iconst 2, 1) := by decide +kernel
theorem dL_law_991 : decode cL_law 991 = .ok (.iadd, 1) := by decide +kernel
theorem dL_law_992 : decode cL_law 992 = .ok (.iaload, 1) := by decide +kernel
theorem dL_law_993 : decode cL_law 993 = .ok (.invokevirtual 117, 3) := by decide +kernel
theorem dL_law_996 : decode cL_law 996 = .ok (.if_icmp .eq 743, 3) := by decide +kernel
theorem dL_law_999 : decode cL_law 999 = .ok (.iconst 0, 1) := by decide +kernel
theorem dL_law_1000 : decode cL_law 1000 = .ok (.ireturn, 1) := by decide +kernel
theorem dL_law_1001 : decode cL_law 1001 = .ok (.aload_n 1, 1) := by decide +kernel
theorem dL_law_1002 : decode cL_law 1002 = .ok (.aload_n 0, 1) := by decide +kernel
theorem dL_law_1003 : decode cL_law 1003 = .ok (.iload_n 3, 1) := by decide +kernel
theorem dL_law_1004 : decode cL_law 1004 = .ok (.iconst 1, 1) := by decide +kernel
theorem dL_law_1005 : decode cL_law 1005 = .ok (.iadd, 1) := by decide +kernel
theorem dL_law_1006 : decode cL_law 1006 = .ok (.iaload, 1) := by decide +kernel
theorem dL_law_1007 : decode cL_law 1007 = .ok (.aload_n 0, 1) := by decide +kernel
theorem dL_law_1008 : decode cL_law 1008 = .ok (.iload_n 3, 1) := by decide +kernel
theorem dL_law_1009 : decode cL_law 1009 = .ok (.iconst 2, 1) := by decide +kernel
theorem dL_law_1010 : decode cL_law 1010 = .ok (.iadd, 1) := by decide +kernel
theorem dL_law_1011 : decode cL_law 1011 = .ok (.iaload, 1) := by decide +kernel
theorem dL_law_1012 : decode cL_law 1012 = .ok (.aload_n 0, 1) := by decide +kernel
theorem dL_law_1013 : decode cL_law 1013 = .ok (.iload_n 3, 1) := by decide +kernel
theorem dL_law_1014 : decode cL_law 1014 = .ok (.iconst 3, 1) := by decide +kernel
theorem dL_law_1015 : decode cL_law 1015 = .ok (.iadd, 1) := by decide +kernel
theorem dL_law_1016 : decode cL_law 1016 = .ok (.iaload, 1) := by decide +kernel
theorem dL_law_1017 : decode cL_law 1017 = .ok (.aload_n 0, 1) := by decide +kernel
theorem dL_law_1018 : decode cL_law 1018 = .ok (.iload_n 3, 1) := by decide +kernel
theorem dL_law_1019 : decode cL_law 1019 = .ok (.iconst 4, 1) := by decide +kernel
theorem dL_law_1020 : decode cL_law 1020 = .ok (.iadd, 1) := by decide +kernel
theorem dL_law_1021 : decode cL_law 1021 = .ok (.iaload, 1) := by decide +kernel
theorem dL_law_1022 : decode cL_law 1022 = .ok (.invokevirtual 118, 3) := by decide +kernel
theorem dL_law_1025 : decode cL_law 1025 = .ok (.aload_n 2, 1) := by decide +kernel
theorem dL_law_1026 : decode cL_law 1026 = .ok (.aload_n 0, 1) := by decide +kernel
theorem dL_law_1027 : decode cL_law 1027 = .ok (.iload_n 3, 1) := by decide +kernel
theorem dL_law_1028 : decode cL_law 1028 = .ok (.iconst 1, 1) := by decide +kernel
theorem dL_law_1029 : decode cL_law 1029 = .ok (.iadd, 1) := by decide +kernel
theorem dL_law_1030 : decode cL_law 1030 = .ok (.iaload, 1) := by decide +kernel
theorem dL_law_1031 : decode cL_law 1031 = .ok (.aload_n 0, 1) := by decide +kernel
theorem dL_law_1032 : decode cL_law 1032 = .ok (.iload_n 3, 1) := by decide +kernel
theorem dL_law_1033 : decode cL_law 1033 = .ok (.iconst 2, 1) := by decide +kernel
theorem dL_law_1034 : decode cL_law 1034 = .ok (.iadd, 1) := by decide +kernel
theorem dL_law_1035 : decode cL_law 1035 = .ok (.iaload, 1) := by decide +kernel
theorem dL_law_1036 : decode cL_law 1036 = .ok (.aload_n 0, 1) := by decide +kernel
theorem dL_law_1037 : decode cL_law 1037 = .ok (.iload_n 3, 1) := by decide +kernel
theorem dL_law_1038 : decode cL_law 1038 = .ok (.iconst 3, 1) := by decide +kernel
theorem dL_law_1039 : decode cL_law 1039 = .ok (.iadd, 1) := by decide +kernel
theorem dL_law_1040 : decode cL_law 1040 = .ok (.iaload, 1) := by decide +kernel
theorem dL_law_1041 : decode cL_law 1041 = .ok (.aload_n 0, 1) := by decide +kernel
theorem dL_law_1042 : decode cL_law 1042 = .ok (.iload_n 3, 1) := by decide +kernel
theorem dL_law_1043 : decode cL_law 1043 = .ok (.iconst 4, 1) := by decide +kernel
theorem dL_law_1044 : decode cL_law 1044 = .ok (.iadd, 1) := by decide +kernel
theorem dL_law_1045 : decode cL_law 1045 = .ok (.iaload, 1) := by decide +kernel
theorem dL_law_1046 : decode cL_law 1046 = .ok (.invokevirtual 121, 3) := by decide +kernel
theorem dL_law_1049 : decode cL_law 1049 = .ok (.if_icmp .eq 690, 3) := by decide +kernel
theorem dL_law_1052 : decode cL_law 1052 = .ok (.iconst 0, 1) := by decide +kernel
theorem dL_law_1053 : decode cL_law 1053 = .ok (.ireturn, 1) := by decide +kernel
theorem dL_law_1054 : decode cL_law 1054 = .ok (.aload_n 1, 1) := by decide +kernel
theorem dL_law_1055 : decode cL_law 1055 = .ok (.aload_n 0, 1) := by decide +kernel
theorem dL_law_1056 : decode cL_law 1056 = .ok (.iload_n 3, 1) := by decide +kernel
theorem dL_law_1057 : decode cL_law 1057 = .ok (.iconst 1, 1) := by decide +kernel
theorem dL_law_1058 : decode cL_law 1058 = .ok (.iadd, 1) := by decide +kernel
theorem dL_law_1059 : decode cL_law 1059 = .ok (.iaload, 1) := by decide +kernel
theorem dL_law_1060 : decode cL_law 1060 = .ok (.aload_n 0, 1) := by decide +kernel
theorem dL_law_1061 : decode cL_law 1061 = .ok (.iload_n 3, 1) := by decide +kernel
theorem dL_law_1062 : decode cL_law 1062 = .ok (.iconst 2, 1) := by decide +kernel
theorem dL_law_1063 : decode cL_law 1063 = .ok (.iadd, 1) := by decide +kernel
theorem dL_law_1064 : decode cL_law 1064 = .ok (.iaload, 1) := by decide +kernel
theorem dL_law_1065 : decode cL_law 1065 = .ok (.invokevirtual 122, 3) := by decide +kernel
theorem dL_law_1068 : decode cL_law 1068 = .ok (.aload_n 2, 1) := by decide +kernel
theorem dL_law_1069 : decode cL_law 1069 = .ok (.aload_n 0, 1) := by decide +kernel
theorem dL_law_1070 : decode cL_law 1070 = .ok (.iload_n 3, 1) := by decide +kernel
theorem dL_law_1071 : decode cL_law 1071 = .ok (.iconst 1, 1) := by decide +kernel
theorem dL_law_1072 : decode cL_law 1072 = .ok (.iadd, 1) := by decide +kernel
theorem dL_law_1073 : decode cL_law 1073 = .ok (.iaload, 1) := by decide +kernel
theorem dL_law_1074 : decode cL_law 1074 = .ok (.aload_n 0, 1) := by decide +kernel
theorem dL_law_1075 : decode cL_law 1075 = .ok (.iload_n 3, 1) := by decide +kernel
theorem dL_law_1076 : decode cL_law 1076 = .ok (.iconst 2, 1) := by decide +kernel
theorem dL_law_1077 : decode cL_law 1077 = .ok (.iadd, 1) := by decide +kernel
theorem dL_law_1078 : decode cL_law 1078 = .ok (.iaload, 1) := by decide +kernel
theorem dL_law_1079 : decode cL_law 1079 = .ok (.invokevirtual 125, 3) := by decide +kernel
theorem dL_law_1082 : decode cL_law 1082 = .ok (.if_icmp .eq 657, 3) := by decide +kernel
theorem dL_law_1085 : decode cL_law 1085 = .ok (.iconst 0, 1) := by decide +kernel
theorem dL_law_1086 : decode cL_law 1086 = .ok (.ireturn, 1) := by decide +kernel
theorem dL_law_1087 : decode cL_law 1087 = .ok (.aload_n 1, 1) := by decide +kernel
theorem dL_law_1088 : decode cL_law 1088 = .ok (.aload_n 0, 1) := by decide +kernel
theorem dL_law_1089 : decode cL_law 1089 = .ok (.iload_n 3, 1) := by decide +kernel
theorem dL_law_1090 : decode cL_law 1090 = .ok (.iconst 1, 1) := by decide +kernel
theorem dL_law_1091 : decode cL_law 1091 = .ok (.iadd, 1) := by decide +kernel
theorem dL_law_1092 : decode cL_law 1092 = .ok (.iaload, 1) := by decide +kernel
theorem dL_law_1093 : decode cL_law 1093 = .ok (.aload_n 0, 1) := by decide +kernel
theorem dL_law_1094 : decode cL_law 1094 = .ok (.iload_n 3, 1) := by decide +kernel
theorem dL_law_1095 : decode cL_law 1095 = .ok (.iconst 2, 1) := by decide +kernel
theorem dL_law_1096 : decode cL_law 1096 = .ok (.iadd, 1) := by decide +kernel
theorem dL_law_1097 : decode cL_law 1097 = .ok (.iaload, 1) := by decide +kernel
theorem dL_law_1098 : decode cL_law 1098 = .ok (.invokevirtual 126, 3) := by decide +kernel
theorem dL_law_1101 : decode cL_law 1101 = .ok (.aload_n 2, 1) := by decide +kernel
theorem dL_law_1102 : decode cL_law 1102 = .ok (.aload_n 0, 1) := by decide +kernel
theorem dL_law_1103 : decode cL_law 1103 = .ok (.iload_n 3, 1) := by decide +kernel
theorem dL_law_1104 : decode cL_law 1104 = .ok (.iconst 1, 1) := by decide +kernel
theorem dL_law_1105 : decode cL_law 1105 = .ok (.iadd, 1) := by decide +kernel
theorem dL_law_1106 : decode cL_law 1106 = .ok (.iaload, 1) := by decide +kernel
theorem dL_law_1107 : decode cL_law 1107 = .ok (.aload_n 0, 1) := by decide +kernel
theorem dL_law_1108 : decode cL_law 1108 = .ok (.iload_n 3, 1) := by decide +kernel
theorem dL_law_1109 : decode cL_law 1109 = .ok (.iconst 2, 1) := by decide +kernel
theorem dL_law_1110 : decode cL_law 1110 = .ok (.iadd, 1) := by decide +kernel
theorem dL_law_1111 : decode cL_law 1111 = .ok (.iaload, 1) := by decide +kernel
theorem dL_law_1112 : decode cL_law 1112 = .ok (.invokevirtual 129, 3) := by decide +kernel
theorem dL_law_1115 : decode cL_law 1115 = .ok (.if_icmp .eq 624, 3) := by decide +kernel
theorem dL_law_1118 : decode cL_law 1118 = .ok (.iconst 0, 1) := by decide +kernel
theorem dL_law_1119 : decode cL_law 1119 = .ok (.ireturn, 1) := by decide +kernel
theorem dL_law_1120 : decode cL_law 1120 = .ok (.aload_n 1, 1) := by decide +kernel
theorem dL_law_1121 : decode cL_law 1121 = .ok (.aload_n 0, 1) := by decide +kernel
theorem dL_law_1122 : decode cL_law 1122 = .ok (.iload_n 3, 1) := by decide +kernel
theorem dL_law_1123 : decode cL_law 1123 = .ok (.iconst 1, 1) := by decide +kernel
theorem dL_law_1124 : decode cL_law 1124 = .ok (.iadd, 1) := by decide +kernel
theorem dL_law_1125 : decode cL_law 1125 = .ok (.iaload, 1) := by decide +kernel
theorem dL_law_1126 : decode cL_law 1126 = .ok (.aload_n 0, 1) := by decide +kernel
theorem dL_law_1127 : decode cL_law 1127 = .ok (.iload_n 3, 1) := by decide +kernel
theorem dL_law_1128 : decode cL_law 1128 = .ok (.iconst 2, 1) := by decide +kernel
theorem dL_law_1129 : decode cL_law 1129 = .ok (.iadd, 1) := by decide +kernel
theorem dL_law_1130 : decode cL_law 1130 = .ok (.iaload, 1) := by decide +kernel
theorem dL_law_1131 : decode cL_law 1131 = .ok (.aload_n 0, 1) := by decide +kernel
theorem dL_law_1132 : decode cL_law 1132 = .ok (.iload_n 3, 1) := by decide +kernel
theorem dL_law_1133 : decode cL_law 1133 = .ok (.iconst 3, 1) := by decide +kernel
theorem dL_law_1134 : decode cL_law 1134 = .ok (.iadd, 1) := by decide +kernel
theorem dL_law_1135 : decode cL_law 1135 = .ok (.iaload, 1) := by decide +kernel
theorem dL_law_1136 : decode cL_law 1136 = .ok (.aload_n 0, 1) := by decide +kernel
theorem dL_law_1137 : decode cL_law 1137 = .ok (.iload_n 3, 1) := by decide +kernel
theorem dL_law_1138 : decode cL_law 1138 = .ok (.iconst 4, 1) := by decide +kernel
theorem dL_law_1139 : decode cL_law 1139 = .ok (.iadd, 1) := by decide +kernel
theorem dL_law_1140 : decode cL_law 1140 = .ok (.iaload, 1) := by decide +kernel
theorem dL_law_1141 : decode cL_law 1141 = .ok (.invokevirtual 130, 3) := by decide +kernel
theorem dL_law_1144 : decode cL_law 1144 = .ok (.aload_n 2, 1) := by decide +kernel
theorem dL_law_1145 : decode cL_law 1145 = .ok (.aload_n 0, 1) := by decide +kernel
theorem dL_law_1146 : decode cL_law 1146 = .ok (.iload_n 3, 1) := by decide +kernel
theorem dL_law_1147 : decode cL_law 1147 = .ok (.iconst 1, 1) := by decide +kernel
theorem dL_law_1148 : decode cL_law 1148 = .ok (.iadd, 1) := by decide +kernel
theorem dL_law_1149 : decode cL_law 1149 = .ok (.iaload, 1) := by decide +kernel
theorem dL_law_1150 : decode cL_law 1150 = .ok (.aload_n 0, 1) := by decide +kernel
theorem dL_law_1151 : decode cL_law 1151 = .ok (.iload_n 3, 1) := by decide +kernel
theorem dL_law_1152 : decode cL_law 1152 = .ok (.iconst 2, 1) := by decide +kernel
theorem dL_law_1153 : decode cL_law 1153 = .ok (.iadd, 1) := by decide +kernel
theorem dL_law_1154 : decode cL_law 1154 = .ok (.iaload, 1) := by decide +kernel
theorem dL_law_1155 : decode cL_law 1155 = .ok (.aload_n 0, 1) := by decide +kernel
theorem dL_law_1156 : decode cL_law 1156 = .ok (.iload_n 3, 1) := by decide +kernel
theorem dL_law_1157 : decode cL_law 1157 = .ok (.iconst 3, 1) := by decide +kernel
theorem dL_law_1158 : decode cL_law 1158 = .ok (.iadd, 1) := by decide +kernel
theorem dL_law_1159 : decode cL_law 1159 = .ok (.iaload, 1) := by decide +kernel
theorem dL_law_1160 : decode cL_law 1160 = .ok (.aload_n 0, 1) := by decide +kernel
theorem dL_law_1161 : decode cL_law 1161 = .ok (.iload_n 3, 1) := by decide +kernel
theorem dL_law_1162 : decode cL_law 1162 = .ok (.iconst 4, 1) := by decide +kernel
theorem dL_law_1163 : decode cL_law 1163 = .ok (.iadd, 1) := by decide +kernel
theorem dL_law_1164 : decode cL_law 1164 = .ok (.iaload, 1) := by decide +kernel
theorem dL_law_1165 : decode cL_law 1165 = .ok (.invokevirtual 133, 3) := by decide +kernel
theorem dL_law_1168 : decode cL_law 1168 = .ok (.if_icmp .eq 571, 3) := by decide +kernel
theorem dL_law_1171 : decode cL_law 1171 = .ok (.iconst 0, 1) := by decide +kernel
theorem dL_law_1172 : decode cL_law 1172 = .ok (.ireturn, 1) := by decide +kernel
theorem dL_law_1173 : decode cL_law 1173 = .ok (.aload_n 1, 1) := by decide +kernel
theorem dL_law_1174 : decode cL_law 1174 = .ok (.aload_n 0, 1) := by decide +kernel
theorem dL_law_1175 : decode cL_law 1175 = .ok (.iload_n 3, 1) := by decide +kernel
theorem dL_law_1176 : decode cL_law 1176 = .ok (.iconst 1, 1) := by decide +kernel
theorem dL_law_1177 : decode cL_law 1177 = .ok (.iadd, 1) := by decide +kernel
theorem dL_law_1178 : decode cL_law 1178 = .ok (.iaload, 1) := by decide +kernel
theorem dL_law_1179 : decode cL_law 1179 = .ok (.invokevirtual 134, 3) := by decide +kernel
theorem dL_law_1182 : decode cL_law 1182 = .ok (.aload_n 2, 1) := by decide +kernel
theorem dL_law_1183 : decode cL_law 1183 = .ok (.aload_n 0, 1) := by decide +kernel
theorem dL_law_1184 : decode cL_law 1184 = .ok (.iload_n 3, 1) := by decide +kernel
theorem dL_law_1185 : decode cL_law 1185 = .ok (.iconst 1, 1) := by decide +kernel
theorem dL_law_1186 : decode cL_law 1186 = .ok (.iadd, 1) := by decide +kernel
theorem dL_law_1187 : decode cL_law 1187 = .ok (.iaload, 1) := by decide +kernel
theorem dL_law_1188 : decode cL_law 1188 = .ok (.invokevirtual 137, 3) := by decide +kernel
theorem dL_law_1191 : decode cL_law 1191 = .ok (.if_icmp .eq 548, 3) := by decide +kernel
theorem dL_law_1194 : decode cL_law 1194 = .ok (.iconst 0, 1) := by decide +kernel
theorem dL_law_1195 : decode cL_law 1195 = .ok (.ireturn, 1) := by decide +kernel
theorem dL_law_1196 : decode cL_law 1196 = .ok (.aload_n 1, 1) := by decide +kernel
theorem dL_law_1197 : decode cL_law 1197 = .ok (.aload_n 0, 1) := by decide +kernel
theorem dL_law_1198 : decode cL_law 1198 = .ok (.iload_n 3, 1) := by decide +kernel
theorem dL_law_1199 : decode cL_law 1199 = .ok (.iconst 1, 1) := by decide +kernel
theorem dL_law_1200 : decode cL_law 1200 = .ok (.iadd, 1) := by decide +kernel
theorem dL_law_1201 : decode cL_law 1201 = .ok (.iaload, 1) := by decide +kernel
theorem dL_law_1202 : decode cL_law 1202 = .ok (.invokevirtual 138, 3) := by decide +kernel
theorem dL_law_1205 : decode cL_law 1205 = .ok (.aload_n 2, 1) := by decide +kernel
theorem dL_law_1206 : decode cL_law 1206 = .ok (.aload_n 0, 1) := by decide +kernel
theorem dL_law_1207 : decode cL_law 1207 = .ok (.iload_n 3, 1) := by decide +kernel
theorem dL_law_1208 : decode cL_law 1208 = .ok (.iconst 1, 1) := by decide +kernel
theorem dL_law_1209 : decode cL_law 1209 = .ok (.iadd, 1) := by decide +kernel
theorem dL_law_1210 : decode cL_law 1210 = .ok (.iaload, 1) := by decide +kernel
theorem dL_law_1211 : decode cL_law 1211 = .ok (.invokevirtual 141, 3) := by decide +kernel
theorem dL_law_1214 : decode cL_law 1214 = .ok (.if_icmp .eq 525, 3) := by decide +kernel
theorem dL_law_1217 : decode cL_law 1217 = .ok (.iconst 0, 1) := by decide +kernel
theorem dL_law_1218 : decode cL_law 1218 = .ok (.ireturn, 1) := by decide +kernel
theorem dL_law_1219 : decode cL_law 1219 = .ok (.aload_n 1, 1) := by decide +kernel
theorem dL_law_1220 : decode cL_law 1220 = .ok (.aload_n 0, 1) := by decide +kernel
theorem dL_law_1221 : decode cL_law 1221 = .ok (.iload_n 3, 1) := by decide +kernel
theorem dL_law_1222 : decode cL_law 1222 = .ok (.iconst 1, 1) := by decide +kernel
theorem dL_law_1223 : decode cL_law 1223 = .ok (.iadd, 1) := by decide +kernel
theorem dL_law_1224 : decode cL_law 1224 = .ok (.iaload, 1) := by decide +kernel
theorem dL_law_1225 : decode cL_law 1225 = .ok (.aload_n 0, 1) := by decide +kernel
theorem dL_law_1226 : decode cL_law 1226 = .ok (.iload_n 3, 1) := by decide +kernel
theorem dL_law_1227 : decode cL_law 1227 = .ok (.iconst 2, 1) := by decide +kernel
theorem dL_law_1228 : decode cL_law 1228 = .ok (.iadd, 1) := by decide +kernel
theorem dL_law_1229 : decode cL_law 1229 = .ok (.iaload, 1) := by decide +kernel
theorem dL_law_1230 : decode cL_law 1230 = .ok (.aload_n 0, 1) := by decide +kernel
theorem dL_law_1231 : decode cL_law 1231 = .ok (.iload_n 3, 1) := by decide +kernel
theorem dL_law_1232 : decode cL_law 1232 = .ok (.iconst 3, 1) := by decide +kernel
theorem dL_law_1233 : decode cL_law 1233 = .ok (.iadd, 1) := by decide +kernel
theorem dL_law_1234 : decode cL_law 1234 = .ok (.iaload, 1) := by decide +kernel
theorem dL_law_1235 : decode cL_law 1235 = .ok (.aload_n 0, 1) := by decide +kernel
theorem dL_law_1236 : decode cL_law 1236 = .ok (.iload_n 3, 1) := by decide +kernel
theorem dL_law_1237 : decode cL_law 1237 = .ok (.iconst 4, 1) := by decide +kernel
theorem dL_law_1238 : decode cL_law 1238 = .ok (.iadd, 1) := by decide +kernel
theorem dL_law_1239 : decode cL_law 1239 = .ok (.iaload, 1) := by decide +kernel
theorem dL_law_1240 : decode cL_law 1240 = .ok (.aload_n 0, 1) := by decide +kernel
theorem dL_law_1241 : decode cL_law 1241 = .ok (.iload_n 3, 1) := by decide +kernel
theorem dL_law_1242 : decode cL_law 1242 = .ok (.iconst 5, 1) := by decide +kernel
theorem dL_law_1243 : decode cL_law 1243 = .ok (.iadd, 1) := by decide +kernel
theorem dL_law_1244 : decode cL_law 1244 = .ok (.iaload, 1) := by decide +kernel
theorem dL_law_1245 : decode cL_law 1245 = .ok (.invokevirtual 142, 3) := by decide +kernel
theorem dL_law_1248 : decode cL_law 1248 = .ok (.aload_n 2, 1) := by decide +kernel
theorem dL_law_1249 : decode cL_law 1249 = .ok (.aload_n 0, 1) := by decide +kernel
theorem dL_law_1250 : decode cL_law 1250 = .ok (.iload_n 3, 1) := by decide +kernel
theorem dL_law_1251 : decode cL_law 1251 = .ok (.iconst 1, 1) := by decide +kernel
theorem dL_law_1252 : decode cL_law 1252 = .ok (.iadd, 1) := by decide +kernel
theorem dL_law_1253 : decode cL_law 1253 = .ok (.iaload, 1) := by decide +kernel
theorem dL_law_1254 : decode cL_law 1254 = .ok (.aload_n 0, 1) := by decide +kernel
theorem dL_law_1255 : decode cL_law 1255 = .ok (.iload_n 3, 1) := by decide +kernel
theorem dL_law_1256 : decode cL_law 1256 = .ok (.iconst 2, 1) := by decide +kernel
theorem dL_law_1257 : decode cL_law 1257 = .ok (.iadd, 1) := by decide +kernel
theorem dL_law_1258 : decode cL_law 1258 = .ok (.iaload, 1) := by decide +kernel
theorem dL_law_1259 : decode cL_law 1259 = .ok (.aload_n 0, 1) := by decide +kernel
theorem dL_law_1260 : decode cL_law 1260 = .ok (.iload_n 3, 1) := by decide +kernel
theorem dL_law_1261 : decode cL_law 1261 = .ok (.iconst 3, 1) := by decide +kernel
theorem dL_law_1262 : decode cL_law 1262 = .ok (.iadd, 1) := by decide +kernel
theorem dL_law_1263 : decode cL_law 1263 = .ok (.iaload, 1) := by decide +kernel
theorem dL_law_1264 : decode cL_law 1264 = .ok (.aload_n 0, 1) := by decide +kernel
theorem dL_law_1265 : decode cL_law 1265 = .ok (.iload_n 3, 1) := by decide +kernel
theorem dL_law_1266 : decode cL_law 1266 = .ok (.iconst 4, 1) := by decide +kernel
theorem dL_law_1267 : decode cL_law 1267 = .ok (.iadd, 1) := by decide +kernel
theorem dL_law_1268 : decode cL_law 1268 = .ok (.iaload, 1) := by decide +kernel
theorem dL_law_1269 : decode cL_law 1269 = .ok (.aload_n 0, 1) := by decide +kernel
theorem dL_law_1270 : decode cL_law 1270 = .ok (.iload_n 3, 1) := by decide +kernel
theorem dL_law_1271 : decode cL_law 1271 = .ok (.iconst 5, 1) := by decide +kernel
theorem dL_law_1272 : decode cL_law 1272 = .ok (.iadd, 1) := by decide +kernel
theorem dL_law_1273 : decode cL_law 1273 = .ok (.iaload, 1) := by decide +kernel
theorem dL_law_1274 : decode cL_law 1274 = .ok (.invokevirtual 146, 3) := by decide +kernel
theorem dL_law_1277 : decode cL_law 1277 = .ok (.if_icmp .eq 462, 3) := by decide +kernel
theorem dL_law_1280 : decode cL_law 1280 = .ok (.iconst 0, 1) := by decide +kernel
theorem dL_law_1281 : decode cL_law 1281 = .ok (.ireturn, 1) := by decide +kernel
theorem dL_law_1282 : decode cL_law 1282 = .ok (.aload_n 1, 1) := by decide +kernel
theorem dL_law_1283 : decode cL_law 1283 = .ok (.aload_n 0, 1) := by decide +kernel
theorem dL_law_1284 : decode cL_law 1284 = .ok (.iload_n 3, 1) := by decide +kernel
theorem dL_law_1285 : decode cL_law 1285 = .ok (.iconst 1, 1) := by decide +kernel
theorem dL_law_1286 : decode cL_law 1286 = .ok (.iadd, 1) := by decide +kernel
theorem dL_law_1287 : decode cL_law 1287 = .ok (.iaload, 1) := by decide +kernel
theorem dL_law_1288 : decode cL_law 1288 = .ok (.aload_n 0, 1) := by decide +kernel
theorem dL_law_1289 : decode cL_law 1289 = .ok (.iload_n 3, 1) := by decide +kernel
theorem dL_law_1290 : decode cL_law 1290 = .ok (.iconst 2, 1) := by decide +kernel
theorem dL_law_1291 : decode cL_law 1291 = .ok (.iadd, 1) := by decide +kernel
theorem dL_law_1292 : decode cL_law 1292 = .ok (.iaload, 1) := by decide +kernel
theorem dL_law_1293 : decode cL_law 1293 = .ok (.aload_n 0, 1) := by decide +kernel
theorem dL_law_1294 : decode cL_law 1294 = .ok (.iload_n 3, 1) := by decide +kernel
theorem dL_law_1295 : decode cL_law 1295 = .ok (.iconst 3, 1) := by decide +kernel
theorem dL_law_1296 : decode cL_law 1296 = .ok (.iadd, 1) := by decide +kernel
theorem dL_law_1297 : decode cL_law 1297 = .ok (.iaload, 1) := by decide +kernel
theorem dL_law_1298 : decode cL_law 1298 = .ok (.aload_n 0, 1) := by decide +kernel
theorem dL_law_1299 : decode cL_law 1299 = .ok (.iload_n 3, 1) := by decide +kernel
theorem dL_law_1300 : decode cL_law 1300 = .ok (.iconst 4, 1) := by decide +kernel
theorem dL_law_1301 : decode cL_law 1301 = .ok (.iadd, 1) := by decide +kernel
theorem dL_law_1302 : decode cL_law 1302 = .ok (.iaload, 1) := by decide +kernel
theorem dL_law_1303 : decode cL_law 1303 = .ok (.aload_n 0, 1) := by decide +kernel
theorem dL_law_1304 : decode cL_law 1304 = .ok (.iload_n 3, 1) := by decide +kernel
theorem dL_law_1305 : decode cL_law 1305 = .ok (.iconst 5, 1) := by decide +kernel
theorem dL_law_1306 : decode cL_law 1306 = .ok (.iadd, 1) := by decide +kernel
theorem dL_law_1307 : decode cL_law 1307 = .ok (.iaload, 1) := by decide +kernel
theorem dL_law_1308 : decode cL_law 1308 = .ok (.invokevirtual 147, 3) := by decide +kernel
theorem dL_law_1311 : decode cL_law 1311 = .ok (.aload_n 2, 1) := by decide +kernel
theorem dL_law_1312 : decode cL_law 1312 = .ok (.aload_n 0, 1) := by decide +kernel
theorem dL_law_1313 : decode cL_law 1313 = .ok (.iload_n 3, 1) := by decide +kernel
theorem dL_law_1314 : decode cL_law 1314 = .ok (.iconst 1, 1) := by decide +kernel
theorem dL_law_1315 : decode cL_law 1315 = .ok (.iadd, 1) := by decide +kernel
theorem dL_law_1316 : decode cL_law 1316 = .ok (.iaload, 1) := by decide +kernel
theorem dL_law_1317 : decode cL_law 1317 = .ok (.aload_n 0, 1) := by decide +kernel
theorem dL_law_1318 : decode cL_law 1318 = .ok (.iload_n 3, 1) := by decide +kernel
theorem dL_law_1319 : decode cL_law 1319 = .ok (.iconst 2, 1) := by decide +kernel
theorem dL_law_1320 : decode cL_law 1320 = .ok (.iadd, 1) := by decide +kernel
theorem dL_law_1321 : decode cL_law 1321 = .ok (.iaload, 1) := by decide +kernel
theorem dL_law_1322 : decode cL_law 1322 = .ok (.aload_n 0, 1) := by decide +kernel
theorem dL_law_1323 : decode cL_law 1323 = .ok (.iload_n 3, 1) := by decide +kernel
theorem dL_law_1324 : decode cL_law 1324 = .ok (.iconst 3, 1) := by decide +kernel
theorem dL_law_1325 : decode cL_law 1325 = .ok (.iadd, 1) := by decide +kernel
theorem dL_law_1326 : decode cL_law 1326 = .ok (.iaload, 1) := by decide +kernel
theorem dL_law_1327 : decode cL_law 1327 = .ok (.aload_n 0, 1) := by decide +kernel
theorem dL_law_1328 : decode cL_law 1328 = .ok (.iload_n 3, 1) := by decide +kernel
theorem dL_law_1329 : decode cL_law 1329 = .ok (.iconst 4, 1) := by decide +kernel
theorem dL_law_1330 : decode cL_law 1330 = .ok (.iadd, 1) := by decide +kernel
theorem dL_law_1331 : decode cL_law 1331 = .ok (.iaload, 1) := by decide +kernel
theorem dL_law_1332 : decode cL_law 1332 = .ok (.aload_n 0, 1) := by decide +kernel
theorem dL_law_1333 : decode cL_law 1333 = .ok (.iload_n 3, 1) := by decide +kernel
theorem dL_law_1334 : decode cL_law 1334 = .ok (.iconst 5, 1) := by decide +kernel
theorem dL_law_1335 : decode cL_law 1335 = .ok (.iadd, 1) := by decide +kernel
theorem dL_law_1336 : decode cL_law 1336 = .ok (.iaload, 1) := by decide +kernel
theorem dL_law_1337 : decode cL_law 1337 = .ok (.invokevirtual 150, 3) := by decide +kernel
theorem dL_law_1340 : decode cL_law 1340 = .ok (.if_icmp .eq 399, 3) := by decide +kernel
theorem dL_law_1343 : decode cL_law 1343 = .ok (.iconst 0, 1) := by decide +kernel
theorem dL_law_1344 : decode cL_law 1344 = .ok (.ireturn, 1) := by decide +kernel
theorem dL_law_1345 : decode cL_law 1345 = .ok (.aload_n 1, 1) := by decide +kernel
theorem dL_law_1346 : decode cL_law 1346 = .ok (.aload_n 0, 1) := by decide +kernel
theorem dL_law_1347 : decode cL_law 1347 = .ok (.iload_n 3, 1) := by decide +kernel
theorem dL_law_1348 : decode cL_law 1348 = .ok (.iconst 1, 1) := by decide +kernel
theorem dL_law_1349 : decode cL_law 1349 = .ok (.iadd, 1) := by decide +kernel
theorem dL_law_1350 : decode cL_law 1350 = .ok (.iaload, 1) := by decide +kernel
theorem dL_law_1351 : decode cL_law 1351 = .ok (.invokevirtual 151, 3) := by decide +kernel
theorem dL_law_1354 : decode cL_law 1354 = .ok (.aload_n 2, 1) := by decide +kernel
theorem dL_law_1355 : decode cL_law 1355 = .ok (.aload_n 0, 1) := by decide +kernel
theorem dL_law_1356 : decode cL_law 1356 = .ok (.iload_n 3, 1) := by decide +kernel
theorem dL_law_1357 : decode cL_law 1357 = .ok (.iconst 1, 1) := by decide +kernel
theorem dL_law_1358 : decode cL_law 1358 = .ok (.iadd, 1) := by decide +kernel
theorem dL_law_1359 : decode cL_law 1359 = .ok (.iaload, 1) := by decide +kernel
theorem dL_law_1360 : decode cL_law 1360 = .ok (.invokevirtual 154, 3) := by decide +kernel
theorem dL_law_1363 : decode cL_law 1363 = .ok (.if_icmp .eq 376, 3) := by decide +kernel
theorem dL_law_1366 : decode cL_law 1366 = .ok (.iconst 0, 1) := by decide +kernel
theorem dL_law_1367 : decode cL_law 1367 = .ok (.ireturn, 1) := by decide +kernel
theorem dL_law_1368 : decode cL_law 1368 = .ok (.aload_n 1, 1) := by decide +kernel
theorem dL_law_1369 : decode cL_law 1369 = .ok (.aload_n 0, 1) := by decide +kernel
theorem dL_law_1370 : decode cL_law 1370 = .ok (.iload_n 3, 1) := by decide +kernel
theorem dL_law_1371 : decode cL_law 1371 = .ok (.iconst 1, 1) := by decide +kernel
theorem dL_law_1372 : decode cL_law 1372 = .ok (.iadd, 1) := by decide +kernel
theorem dL_law_1373 : decode cL_law 1373 = .ok (.iaload, 1) := by decide +kernel
theorem dL_law_1374 : decode cL_law 1374 = .ok (.invokevirtual 155, 3) := by decide +kernel
theorem dL_law_1377 : decode cL_law 1377 = .ok (.aload_n 2, 1) := by decide +kernel
theorem dL_law_1378 : decode cL_law 1378 = .ok (.aload_n 0, 1) := by decide +kernel
theorem dL_law_1379 : decode cL_law 1379 = .ok (.iload_n 3, 1) := by decide +kernel
theorem dL_law_1380 : decode cL_law 1380 = .ok (.iconst 1, 1) := by decide +kernel
theorem dL_law_1381 : decode cL_law 1381 = .ok (.iadd, 1) := by decide +kernel
theorem dL_law_1382 : decode cL_law 1382 = .ok (.iaload, 1) := by decide +kernel
theorem dL_law_1383 : decode cL_law 1383 = .ok (.invokevirtual 158, 3) := by decide +kernel
theorem dL_law_1386 : decode cL_law 1386 = .ok (.if_icmp .eq 353, 3) := by decide +kernel
theorem dL_law_1389 : decode cL_law 1389 = .ok (.iconst 0, 1) := by decide +kernel
theorem dL_law_1390 : decode cL_law 1390 = .ok (.ireturn, 1) := by decide +kernel
theorem dL_law_1391 : decode cL_law 1391 = .ok (.aload_n 1, 1) := by decide +kernel
theorem dL_law_1392 : decode cL_law 1392 = .ok (.aload_n 0, 1) := by decide +kernel
theorem dL_law_1393 : decode cL_law 1393 = .ok (.iload_n 3, 1) := by decide +kernel
theorem dL_law_1394 : decode cL_law 1394 = .ok (.iconst 1, 1) := by decide +kernel
theorem dL_law_1395 : decode cL_law 1395 = .ok (.iadd, 1) := by decide +kernel
theorem dL_law_1396 : decode cL_law 1396 = .ok (.iaload, 1) := by decide +kernel
theorem dL_law_1397 : decode cL_law 1397 = .ok (.invokevirtual 159, 3) := by decide +kernel
theorem dL_law_1400 : decode cL_law 1400 = .ok (.aload_n 2, 1) := by decide +kernel
theorem dL_law_1401 : decode cL_law 1401 = .ok (.aload_n 0, 1) := by decide +kernel
theorem dL_law_1402 : decode cL_law 1402 = .ok (.iload_n 3, 1) := by decide +kernel
theorem dL_law_1403 : decode cL_law 1403 = .ok (.iconst 1, 1) := by decide +kernel
theorem dL_law_1404 : decode cL_law 1404 = .ok (.iadd, 1) := by decide +kernel
theorem dL_law_1405 : decode cL_law 1405 = .ok (.iaload, 1) := by decide +kernel
theorem dL_law_1406 : decode cL_law 1406 = .ok (.invokevirtual 162, 3) := by decide +kernel
theorem dL_law_1409 : decode cL_law 1409 = .ok (.if_icmp .eq 330, 3) := by decide +kernel
theorem dL_law_1412 : decode cL_law 1412 = .ok (.iconst 0, 1) := by decide +kernel
theorem dL_law_1413 : decode cL_law 1413 = .ok (.ireturn, 1) := by decide +kernel
theorem dL_law_1414 : decode cL_law 1414 = .ok (.aload_n 1, 1) := by decide +kernel
theorem dL_law_1415 : decode cL_law 1415 = .ok (.aload_n 0, 1) := by decide +kernel
theorem dL_law_1416 : decode cL_law 1416 = .ok (.iload_n 3, 1) := by decide +kernel
theorem dL_law_1417 : decode cL_law 1417 = .ok (.iconst 1, 1) := by decide +kernel
theorem dL_law_1418 : decode cL_law 1418 = .ok (.iadd, 1) := by decide +kernel
theorem dL_law_1419 : decode cL_law 1419 = .ok (.iaload, 1) := by decide +kernel
theorem dL_law_1420 : decode cL_law 1420 = .ok (.invokevirtual 163, 3) := by decide +kernel
theorem dL_law_1423 : decode cL_law 1423 = .ok (.aload_n 2, 1) := by decide +kernel
theorem dL_law_1424 : decode cL_law 1424 = .ok (.aload_n 0, 1) := by decide +kernel
theorem dL_law_1425 : decode cL_law 1425 = .ok (.iload_n 3, 1) := by decide +kernel
theorem dL_law_1426 : decode cL_law 1426 = .ok (.iconst 1, 1) := by decide +kernel
theorem dL_law_1427 : decode cL_law 1427 = .ok (.iadd, 1) := by decide +kernel
theorem dL_law_1428 : decode cL_law 1428 = .ok (.iaload, 1) := by decide +kernel
theorem dL_law_1429 : decode cL_law 1429 = .ok (.invokevirtual 166, 3) := by decide +kernel
theorem dL_law_1432 : decode cL_law 1432 = .ok (.if_icmp .eq 307, 3) := by decide +kernel
theorem dL_law_1435 : decode cL_law 1435 = .ok (.iconst 0, 1) := by decide +kernel
theorem dL_law_1436 : decode cL_law 1436 = .ok (.ireturn, 1) := by decide +kernel
theorem dL_law_1437 : decode cL_law 1437 = .ok (.aload_n 1, 1) := by decide +kernel
theorem dL_law_1438 : decode cL_law 1438 = .ok (.aload_n 0, 1) := by decide +kernel
theorem dL_law_1439 : decode cL_law 1439 = .ok (.iload_n 3, 1) := by decide +kernel
theorem dL_law_1440 : decode cL_law 1440 = .ok (.iconst 1, 1) := by decide +kernel
theorem dL_law_1441 : decode cL_law 1441 = .ok (.iadd, 1) := by decide +kernel
theorem dL_law_1442 : decode cL_law 1442 = .ok (.iaload, 1) := by decide +kernel
theorem dL_law_1443 : decode cL_law 1443 = .ok (.invokevirtual 167, 3) := by decide +kernel
theorem dL_law_1446 : decode cL_law 1446 = .ok (.aload_n 2, 1) := by decide +kernel
theorem dL_law_1447 : decode cL_law 1447 = .ok (.aload_n 0, 1) := by decide +kernel
theorem dL_law_1448 : decode cL_law 1448 = .ok (.iload_n 3, 1) := by decide +kernel
theorem dL_law_1449 : decode cL_law 1449 = .ok (.iconst 1, 1) := by decide +kernel
theorem dL_law_1450 : decode cL_law 1450 = .ok (.iadd, 1) := by decide +kernel
theorem dL_law_1451 : decode cL_law 1451 = .ok (.iaload, 1) := by decide +kernel
theorem dL_law_1452 : decode cL_law 1452 = .ok (.invokevirtual 170, 3) := by decide +kernel
theorem dL_law_1455 : decode cL_law 1455 = .ok (.if_icmp .eq 284, 3) := by decide +kernel
theorem dL_law_1458 : decode cL_law 1458 = .ok (.iconst 0, 1) := by decide +kernel
theorem dL_law_1459 : decode cL_law 1459 = .ok (.ireturn, 1) := by decide +kernel
theorem dL_law_1460 : decode cL_law 1460 = .ok (.aload_n 1, 1) := by decide +kernel
theorem dL_law_1461 : decode cL_law 1461 = .ok (.aload_n 0, 1) := by decide +kernel
theorem dL_law_1462 : decode cL_law 1462 = .ok (.iload_n 3, 1) := by decide +kernel
theorem dL_law_1463 : decode cL_law 1463 = .ok (.iconst 1, 1) := by decide +kernel
theorem dL_law_1464 : decode cL_law 1464 = .ok (.iadd, 1) := by decide +kernel
theorem dL_law_1465 : decode cL_law 1465 = .ok (.iaload, 1) := by decide +kernel
theorem dL_law_1466 : decode cL_law 1466 = .ok (.aload_n 0, 1) := by decide +kernel
theorem dL_law_1467 : decode cL_law 1467 = .ok (.iload_n 3, 1) := by decide +kernel
theorem dL_law_1468 : decode cL_law 1468 = .ok (.iconst 2, 1) := by decide +kernel
theorem dL_law_1469 : decode cL_law 1469 = .ok (.iadd, 1) := by decide +kernel
theorem dL_law_1470 : decode cL_law 1470 = .ok (.iaload, 1) := by decide +kernel
theorem dL_law_1471 : decode cL_law 1471 = .ok (.aload_n 0, 1) := by decide +kernel
theorem dL_law_1472 : decode cL_law 1472 = .ok (.iload_n 3, 1) := by decide +kernel
theorem dL_law_1473 : decode cL_law 1473 = .ok (.iconst 3, 1) := by decide +kernel
theorem dL_law_1474 : decode cL_law 1474 = .ok (.iadd, 1) := by decide +kernel
theorem dL_law_1475 : decode cL_law 1475 = .ok (.iaload, 1) := by decide +kernel
theorem dL_law_1476 : decode cL_law 1476 = .ok (.aload_n 0, 1) := by decide +kernel
theorem dL_law_1477 : decode cL_law 1477 = .ok (.iload_n 3, 1) := by decide +kernel
theorem dL_law_1478 : decode cL_law 1478 = .ok (.iconst 4, 1) := by decide +kernel
theorem dL_law_1479 : decode cL_law 1479 = .ok (.iadd, 1) := by decide +kernel
theorem dL_law_1480 : decode cL_law 1480 = .ok (.iaload, 1) := by decide +kernel
theorem dL_law_1481 : decode cL_law 1481 = .ok (.invokevirtual 171, 3) := by decide +kernel
theorem dL_law_1484 : decode cL_law 1484 = .ok (.aload_n 2, 1) := by decide +kernel
theorem dL_law_1485 : decode cL_law 1485 = .ok (.aload_n 0, 1) := by decide +kernel
theorem dL_law_1486 : decode cL_law 1486 = .ok (.iload_n 3, 1) := by decide +kernel
theorem dL_law_1487 : decode cL_law 1487 = .ok (.iconst 1, 1) := by decide +kernel
theorem dL_law_1488 : decode cL_law 1488 = .ok (.iadd, 1) := by decide +kernel
theorem dL_law_1489 : decode cL_law 1489 = .ok (.iaload, 1) := by decide +kernel
theorem dL_law_1490 : decode cL_law 1490 = .ok (.aload_n 0, 1) := by decide +kernel
theorem dL_law_1491 : decode cL_law 1491 = .ok (.iload_n 3, 1) := by decide +kernel
theorem dL_law_1492 : decode cL_law 1492 = .ok (.iconst 2, 1) := by decide +kernel
theorem dL_law_1493 : decode cL_law 1493 = .ok (.iadd, 1) := by decide +kernel
theorem dL_law_1494 : decode cL_law 1494 = .ok (.iaload, 1) := by decide +kernel
theorem dL_law_1495 : decode cL_law 1495 = .ok (.aload_n 0, 1) := by decide +kernel
theorem dL_law_1496 : decode cL_law 1496 = .ok (.iload_n 3, 1) := by decide +kernel
theorem dL_law_1497 : decode cL_law 1497 = .ok (.iconst 3, 1) := by decide +kernel
theorem dL_law_1498 : decode cL_law 1498 = .ok (.iadd, 1) := by decide +kernel
theorem dL_law_1499 : decode cL_law 1499 = .ok (.iaload, 1) := by decide +kernel
theorem dL_law_1500 : decode cL_law 1500 = .ok (.aload_n 0, 1) := by decide +kernel
theorem dL_law_1501 : decode cL_law 1501 = .ok (.iload_n 3, 1) := by decide +kernel
theorem dL_law_1502 : decode cL_law 1502 = .ok (.iconst 4, 1) := by decide +kernel
theorem dL_law_1503 : decode cL_law 1503 = .ok (.iadd, 1) := by decide +kernel
theorem dL_law_1504 : decode cL_law 1504 = .ok (.iaload, 1) := by decide +kernel
theorem dL_law_1505 : decode cL_law 1505 = .ok (.invokevirtual 174, 3) := by decide +kernel
theorem dL_law_1508 : decode cL_law 1508 = .ok (.if_icmp .eq 231, 3) := by decide +kernel
theorem dL_law_1511 : decode cL_law 1511 = .ok (.iconst 0, 1) := by decide +kernel
theorem dL_law_1512 : decode cL_law 1512 = .ok (.ireturn, 1) := by decide +kernel
theorem dL_law_1513 : decode cL_law 1513 = .ok (.aload_n 1, 1) := by decide +kernel
theorem dL_law_1514 : decode cL_law 1514 = .ok (.aload_n 0, 1) := by decide +kernel
theorem dL_law_1515 : decode cL_law 1515 = .ok (.iload_n 3, 1) := by decide +kernel
theorem dL_law_1516 : decode cL_law 1516 = .ok (.iconst 1, 1) := by decide +kernel
theorem dL_law_1517 : decode cL_law 1517 = .ok (.iadd, 1) := by decide +kernel
theorem dL_law_1518 : decode cL_law 1518 = .ok (.iaload, 1) := by decide +kernel
theorem dL_law_1519 : decode cL_law 1519 = .ok (.aload_n 0, 1) := by decide +kernel
theorem dL_law_1520 : decode cL_law 1520 = .ok (.iload_n 3, 1) := by decide +kernel
theorem dL_law_1521 : decode cL_law 1521 = .ok (.iconst 2, 1) := by decide +kernel
theorem dL_law_1522 : decode cL_law 1522 = .ok (.iadd, 1) := by decide +kernel
theorem dL_law_1523 : decode cL_law 1523 = .ok (.iaload, 1) := by decide +kernel
theorem dL_law_1524 : decode cL_law 1524 = .ok (.aload_n 0, 1) := by decide +kernel
theorem dL_law_1525 : decode cL_law 1525 = .ok (.iload_n 3, 1) := by decide +kernel
theorem dL_law_1526 : decode cL_law 1526 = .ok (.iconst 3, 1) := by decide +kernel
theorem dL_law_1527 : decode cL_law 1527 = .ok (.iadd, 1) := by decide +kernel
theorem dL_law_1528 : decode cL_law 1528 = .ok (.iaload, 1) := by decide +kernel
theorem dL_law_1529 : decode cL_law 1529 = .ok (.aload_n 0, 1) := by decide +kernel
theorem dL_law_1530 : decode cL_law 1530 = .ok (.iload_n 3, 1) := by decide +kernel
theorem dL_law_1531 : decode cL_law 1531 = .ok (.iconst 4, 1) := by decide +kernel
theorem dL_law_1532 : decode cL_law 1532 = .ok (.iadd, 1) := by decide +kernel
theorem dL_law_1533 : decode cL_law 1533 = .ok (.iaload, 1) := by decide +kernel
theorem dL_law_1534 : decode cL_law 1534 = .ok (.aload_n 0, 1) := by decide +kernel
theorem dL_law_1535 : decode cL_law 1535 = .ok (.iload_n 3, 1) := by decide +kernel
theorem dL_law_1536 : decode cL_law 1536 = .ok (.iconst 5, 1) := by decide +kernel
theorem dL_law_1537 : decode cL_law 1537 = .ok (.iadd, 1) := by decide +kernel
theorem dL_law_1538 : decode cL_law 1538 = .ok (.iaload, 1) := by decide +kernel
theorem dL_law_1539 : decode cL_law 1539 = .ok (.invokevirtual 175, 3) := by decide +kernel
theorem dL_law_1542 : decode cL_law 1542 = .ok (.aload_n 2, 1) := by decide +kernel
theorem dL_law_1543 : decode cL_law 1543 = .ok (.aload_n 0, 1) := by decide +kernel
theorem dL_law_1544 : decode cL_law 1544 = .ok (.iload_n 3, 1) := by decide +kernel
theorem dL_law_1545 : decode cL_law 1545 = .ok (.iconst 1, 1) := by decide +kernel
theorem dL_law_1546 : decode cL_law 1546 = .ok (.iadd, 1) := by decide +kernel
theorem dL_law_1547 : decode cL_law 1547 = .ok (.iaload, 1) := by decide +kernel
theorem dL_law_1548 : decode cL_law 1548 = .ok (.aload_n 0, 1) := by decide +kernel
theorem dL_law_1549 : decode cL_law 1549 = .ok (.iload_n 3, 1) := by decide +kernel
theorem dL_law_1550 : decode cL_law 1550 = .ok (.iconst 2, 1) := by decide +kernel
theorem dL_law_1551 : decode cL_law 1551 = .ok (.iadd, 1) := by decide +kernel
theorem dL_law_1552 : decode cL_law 1552 = .ok (.iaload, 1) := by decide +kernel
theorem dL_law_1553 : decode cL_law 1553 = .ok (.aload_n 0, 1) := by decide +kernel
theorem dL_law_1554 : decode cL_law 1554 = .ok (.iload_n 3, 1) := by decide +kernel
theorem dL_law_1555 : decode cL_law 1555 = .ok (.iconst 3, 1) := by decide +kernel
theorem dL_law_1556 : decode cL_law 1556 = .ok (.iadd, 1) := by decide +kernel
theorem dL_law_1557 : decode cL_law 1557 = .ok (.iaload, 1) := by decide +kernel
theorem dL_law_1558 : decode cL_law 1558 = .ok (.aload_n 0, 1) := by decide +kernel
theorem dL_law_1559 : decode cL_law 1559 = .ok (.iload_n 3, 1) := by decide +kernel
theorem dL_law_1560 : decode cL_law 1560 = .ok (.iconst 4, 1) := by decide +kernel
theorem dL_law_1561 : decode cL_law 1561 = .ok (.iadd, 1) := by decide +kernel
theorem dL_law_1562 : decode cL_law 1562 = .ok (.iaload, 1) := by decide +kernel
theorem dL_law_1563 : decode cL_law 1563 = .ok (.aload_n 0, 1) := by decide +kernel
theorem dL_law_1564 : decode cL_law 1564 = .ok (.iload_n 3, 1) := by decide +kernel
theorem dL_law_1565 : decode cL_law 1565 = .ok (.iconst 5, 1) := by decide +kernel
theorem dL_law_1566 : decode cL_law 1566 = .ok (.iadd, 1) := by decide +kernel
theorem dL_law_1567 : decode cL_law 1567 = .ok (.iaload, 1) := by decide +kernel
theorem dL_law_1568 : decode cL_law 1568 = .ok (.invokevirtual 178, 3) := by decide +kernel
theorem dL_law_1571 : decode cL_law 1571 = .ok (.if_icmp .eq 168, 3) := by decide +kernel
theorem dL_law_1574 : decode cL_law 1574 = .ok (.iconst 0, 1) := by decide +kernel
theorem dL_law_1575 : decode cL_law 1575 = .ok (.ireturn, 1) := by decide +kernel
theorem dL_law_1576 : decode cL_law 1576 = .ok (.aload_n 1, 1) := by decide +kernel
theorem dL_law_1577 : decode cL_law 1577 = .ok (.aload_n 0, 1) := by decide +kernel
theorem dL_law_1578 : decode cL_law 1578 = .ok (.iload_n 3, 1) := by decide +kernel
theorem dL_law_1579 : decode cL_law 1579 = .ok (.iconst 1, 1) := by decide +kernel
theorem dL_law_1580 : decode cL_law 1580 = .ok (.iadd, 1) := by decide +kernel
theorem dL_law_1581 : decode cL_law 1581 = .ok (.iaload, 1) := by decide +kernel
theorem dL_law_1582 : decode cL_law 1582 = .ok (.aload_n 0, 1) := by decide +kernel
theorem dL_law_1583 : decode cL_law 1583 = .ok (.iload_n 3, 1) := by decide +kernel
theorem dL_law_1584 : decode cL_law 1584 = .ok (.iconst 2, 1) := by decide +kernel
theorem dL_law_1585 : decode cL_law 1585 = .ok (.iadd, 1) := by decide +kernel
theorem dL_law_1586 : decode cL_law 1586 = .ok (.iaload, 1) := by decide +kernel
theorem dL_law_1587 : decode cL_law 1587 = .ok (.invokevirtual 179, 3) := by decide +kernel
theorem dL_law_1590 : decode cL_law 1590 = .ok (.aload_n 2, 1) := by decide +kernel
theorem dL_law_1591 : decode cL_law 1591 = .ok (.aload_n 0, 1) := by decide +kernel
theorem dL_law_1592 : decode cL_law 1592 = .ok (.iload_n 3, 1) := by decide +kernel
theorem dL_law_1593 : decode cL_law 1593 = .ok (.iconst 1, 1) := by decide +kernel
theorem dL_law_1594 : decode cL_law 1594 = .ok (.iadd, 1) := by decide +kernel
theorem dL_law_1595 : decode cL_law 1595 = .ok (.iaload, 1) := by decide +kernel
theorem dL_law_1596 : decode cL_law 1596 = .ok (.aload_n 0, 1) := by decide +kernel
theorem dL_law_1597 : decode cL_law 1597 = .ok (.iload_n 3, 1) := by decide +kernel
theorem dL_law_1598 : decode cL_law 1598 = .ok (.iconst 2, 1) := by decide +kernel
theorem dL_law_1599 : decode cL_law 1599 = .ok (.iadd, 1) := by decide +kernel
theorem dL_law_1600 : decode cL_law 1600 = .ok (.iaload, 1) := by decide +kernel
theorem dL_law_1601 : decode cL_law 1601 = .ok (.invokevirtual 182, 3) := by decide +kernel
theorem dL_law_1604 : decode cL_law 1604 = .ok (.if_icmp .eq 135, 3) := by decide +kernel
theorem dL_law_1607 : decode cL_law 1607 = .ok (.iconst 0, 1) := by decide +kernel
theorem dL_law_1608 : decode cL_law 1608 = .ok (.ireturn, 1) := by decide +kernel
theorem dL_law_1609 : decode cL_law 1609 = .ok (.aload_n 1, 1) := by decide +kernel
theorem dL_law_1610 : decode cL_law 1610 = .ok (.aload_n 0, 1) := by decide +kernel
theorem dL_law_1611 : decode cL_law 1611 = .ok (.iload_n 3, 1) := by decide +kernel
theorem dL_law_1612 : decode cL_law 1612 = .ok (.iconst 1, 1) := by decide +kernel
theorem dL_law_1613 : decode cL_law 1613 = .ok (.iadd, 1) := by decide +kernel
theorem dL_law_1614 : decode cL_law 1614 = .ok (.iaload, 1) := by decide +kernel
theorem dL_law_1615 : decode cL_law 1615 = .ok (.invokevirtual 183, 3) := by decide +kernel
theorem dL_law_1618 : decode cL_law 1618 = .ok (.aload_n 2, 1) := by decide +kernel
theorem dL_law_1619 : decode cL_law 1619 = .ok (.aload_n 0, 1) := by decide +kernel
theorem dL_law_1620 : decode cL_law 1620 = .ok (.iload_n 3, 1) := by decide +kernel
theorem dL_law_1621 : decode cL_law 1621 = .ok (.iconst 1, 1) := by decide +kernel
theorem dL_law_1622 : decode cL_law 1622 = .ok (.iadd, 1) := by decide +kernel
theorem dL_law_1623 : decode cL_law 1623 = .ok (.iaload, 1) := by decide +kernel
theorem dL_law_1624 : decode cL_law 1624 = .ok (.invokevirtual 187, 3) := by decide +kernel
theorem dL_law_1627 : decode cL_law 1627 = .ok (.lcmp, 1) := by decide +kernel
theorem dL_law_1628 : decode cL_law 1628 = .ok (.ifCond .eq 111, 3) := by decide +kernel
theorem dL_law_1631 : decode cL_law 1631 = .ok (.iconst 0, 1) := by decide +kernel
theorem dL_law_1632 : decode cL_law 1632 = .ok (.ireturn, 1) := by decide +kernel
theorem dL_law_1633 : decode cL_law 1633 = .ok (.aload_n 1, 1) := by decide +kernel
theorem dL_law_1634 : decode cL_law 1634 = .ok (.aload_n 0, 1) := by decide +kernel
theorem dL_law_1635 : decode cL_law 1635 = .ok (.iload_n 3, 1) := by decide +kernel
theorem dL_law_1636 : decode cL_law 1636 = .ok (.iconst 1, 1) := by decide +kernel
theorem dL_law_1637 : decode cL_law 1637 = .ok (.iadd, 1) := by decide +kernel
theorem dL_law_1638 : decode cL_law 1638 = .ok (.iaload, 1) := by decide +kernel
theorem dL_law_1639 : decode cL_law 1639 = .ok (.invokevirtual 188, 3) := by decide +kernel
theorem dL_law_1642 : decode cL_law 1642 = .ok (.aload_n 2, 1) := by decide +kernel
theorem dL_law_1643 : decode cL_law 1643 = .ok (.aload_n 0, 1) := by decide +kernel
theorem dL_law_1644 : decode cL_law 1644 = .ok (.iload_n 3, 1) := by decide +kernel
theorem dL_law_1645 : decode cL_law 1645 = .ok (.iconst 1, 1) := by decide +kernel
theorem dL_law_1646 : decode cL_law 1646 = .ok (.iadd, 1) := by decide +kernel
theorem dL_law_1647 : decode cL_law 1647 = .ok (.iaload, 1) := by decide +kernel
theorem dL_law_1648 : decode cL_law 1648 = .ok (.invokevirtual 191, 3) := by decide +kernel
theorem dL_law_1651 : decode cL_law 1651 = .ok (.if_icmp .eq 88, 3) := by decide +kernel
theorem dL_law_1654 : decode cL_law 1654 = .ok (.iconst 0, 1) := by decide +kernel
theorem dL_law_1655 : decode cL_law 1655 = .ok (.ireturn, 1) := by decide +kernel
theorem dL_law_1656 : decode cL_law 1656 = .ok (.aload_n 1, 1) := by decide +kernel
theorem dL_law_1657 : decode cL_law 1657 = .ok (.aload_n 0, 1) := by decide +kernel
theorem dL_law_1658 : decode cL_law 1658 = .ok (.iload_n 3, 1) := by decide +kernel
theorem dL_law_1659 : decode cL_law 1659 = .ok (.iconst 1, 1) := by decide +kernel
theorem dL_law_1660 : decode cL_law 1660 = .ok (.iadd, 1) := by decide +kernel
theorem dL_law_1661 : decode cL_law 1661 = .ok (.iaload, 1) := by decide +kernel
theorem dL_law_1662 : decode cL_law 1662 = .ok (.invokevirtual 192, 3) := by decide +kernel
theorem dL_law_1665 : decode cL_law 1665 = .ok (.aload_n 2, 1) := by decide +kernel
theorem dL_law_1666 : decode cL_law 1666 = .ok (.aload_n 0, 1) := by decide +kernel
theorem dL_law_1667 : decode cL_law 1667 = .ok (.iload_n 3, 1) := by decide +kernel
theorem dL_law_1668 : decode cL_law 1668 = .ok (.iconst 1, 1) := by decide +kernel
theorem dL_law_1669 : decode cL_law 1669 = .ok (.iadd, 1) := by decide +kernel
theorem dL_law_1670 : decode cL_law 1670 = .ok (.iaload, 1) := by decide +kernel
theorem dL_law_1671 : decode cL_law 1671 = .ok (.invokevirtual 195, 3) := by decide +kernel
theorem dL_law_1674 : decode cL_law 1674 = .ok (.if_icmp .eq 65, 3) := by decide +kernel
theorem dL_law_1677 : decode cL_law 1677 = .ok (.iconst 0, 1) := by decide +kernel
theorem dL_law_1678 : decode cL_law 1678 = .ok (.ireturn, 1) := by decide +kernel
theorem dL_law_1679 : decode cL_law 1679 = .ok (.aload_n 1, 1) := by decide +kernel
theorem dL_law_1680 : decode cL_law 1680 = .ok (.aload_n 0, 1) := by decide +kernel
theorem dL_law_1681 : decode cL_law 1681 = .ok (.iload_n 3, 1) := by decide +kernel
theorem dL_law_1682 : decode cL_law 1682 = .ok (.iconst 1, 1) := by decide +kernel
theorem dL_law_1683 : decode cL_law 1683 = .ok (.iadd, 1) := by decide +kernel
theorem dL_law_1684 : decode cL_law 1684 = .ok (.iaload, 1) := by decide +kernel
theorem dL_law_1685 : decode cL_law 1685 = .ok (.invokevirtual 196, 3) := by decide +kernel
theorem dL_law_1688 : decode cL_law 1688 = .ok (.aload_n 2, 1) := by decide +kernel
theorem dL_law_1689 : decode cL_law 1689 = .ok (.aload_n 0, 1) := by decide +kernel
theorem dL_law_1690 : decode cL_law 1690 = .ok (.iload_n 3, 1) := by decide +kernel
theorem dL_law_1691 : decode cL_law 1691 = .ok (.iconst 1, 1) := by decide +kernel
theorem dL_law_1692 : decode cL_law 1692 = .ok (.iadd, 1) := by decide +kernel
theorem dL_law_1693 : decode cL_law 1693 = .ok (.iaload, 1) := by decide +kernel
theorem dL_law_1694 : decode cL_law 1694 = .ok (.invokevirtual 199, 3) := by decide +kernel
theorem dL_law_1697 : decode cL_law 1697 = .ok (.if_icmp .eq 42, 3) := by decide +kernel
theorem dL_law_1700 : decode cL_law 1700 = .ok (.iconst 0, 1) := by decide +kernel
theorem dL_law_1701 : decode cL_law 1701 = .ok (.ireturn, 1) := by decide +kernel
theorem dL_law_1702 : decode cL_law 1702 = .ok (.aload_n 1, 1) := by decide +kernel
theorem dL_law_1703 : decode cL_law 1703 = .ok (.aload_n 0, 1) := by decide +kernel
theorem dL_law_1704 : decode cL_law 1704 = .ok (.iload_n 3, 1) := by decide +kernel
theorem dL_law_1705 : decode cL_law 1705 = .ok (.iconst 1, 1) := by decide +kernel
theorem dL_law_1706 : decode cL_law 1706 = .ok (.iadd, 1) := by decide +kernel
theorem dL_law_1707 : decode cL_law 1707 = .ok (.iaload, 1) := by decide +kernel
theorem dL_law_1708 : decode cL_law 1708 = .ok (.invokevirtual 200, 3) := by decide +kernel
theorem dL_law_1711 : decode cL_law 1711 = .ok (.aload_n 2, 1) := by decide +kernel
theorem dL_law_1712 : decode cL_law 1712 = .ok (.aload_n 0, 1) := by decide +kernel
theorem dL_law_1713 : decode cL_law 1713 = .ok (.iload_n 3, 1) := by decide +kernel
theorem dL_law_1714 : decode cL_law 1714 = .ok (.iconst 1, 1) := by decide +kernel
theorem dL_law_1715 : decode cL_law 1715 = .ok (.iadd, 1) := by decide +kernel
theorem dL_law_1716 : decode cL_law 1716 = .ok (.iaload, 1) := by decide +kernel
theorem dL_law_1717 : decode cL_law 1717 = .ok (.invokevirtual 203, 3) := by decide +kernel
theorem dL_law_1720 : decode cL_law 1720 = .ok (.if_icmp .eq 19, 3) := by decide +kernel
theorem dL_law_1723 : decode cL_law 1723 = .ok (.iconst 0, 1) := by decide +kernel
theorem dL_law_1724 : decode cL_law 1724 = .ok (.ireturn, 1) := by decide +kernel
theorem dL_law_1725 : decode cL_law 1725 = .ok (.aload_n 1, 1) := by decide +kernel
theorem dL_law_1726 : decode cL_law 1726 = .ok (.invokevirtual 204, 3) := by decide +kernel
theorem dL_law_1729 : decode cL_law 1729 = .ok (.aload_n 2, 1) := by decide +kernel
theorem dL_law_1730 : decode cL_law 1730 = .ok (.invokevirtual 208, 3) := by decide +kernel
theorem dL_law_1733 : decode cL_law 1733 = .ok (.lcmp, 1) := by decide +kernel
theorem dL_law_1734 : decode cL_law 1734 = .ok (.ifCond .eq 5, 3) := by decide +kernel
theorem dL_law_1737 : decode cL_law 1737 = .ok (.iconst 0, 1) := by decide +kernel
theorem dL_law_1738 : decode cL_law 1738 = .ok (.ireturn, 1) := by decide +kernel
theorem dL_law_1739 : decode cL_law 1739 = .ok (.iinc 3 6, 3) := by decide +kernel
theorem dL_law_1742 : decode cL_law 1742 = .ok (.goto (-1724), 3) := by decide +kernel
theorem dL_law_1745 : decode cL_law 1745 = .ok (.iconst 1, 1) := by decide +kernel
theorem dL_law_1746 : decode cL_law 1746 = .ok (.ireturn, 1) := by decide +kernel
