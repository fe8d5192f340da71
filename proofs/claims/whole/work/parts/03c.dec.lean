theorem dX8_straw_47 : decode cX8_straw 47 = .ok (.putfield 94, 3) := by decide +kernel
theorem dX8_straw_50 : decode cX8_straw 50 = .ok (.iload_n 3, 1) := by decide +kernel
theorem dX8_straw_51 : decode cX8_straw 51 = .ok (.ireturn, 1) := by decide +kernel
set_option maxRecDepth 20000 in
theorem dX8_slinger_0 : decode cX8_slinger 0 = .ok (.iload_n 1, 1) := by decide +kernel
theorem dX8_slinger_1 : decode cX8_slinger 1 = .ok (.i2l, 1) := by decide +kernel
theorem dX8_slinger_2 : decode cX8_slinger 2 = .ok (.lconst 0, 1) := by decide +kernel
theorem dX8_slinger_3 : decode cX8_slinger 3 = .ok (.ldc2_w 111, 3) := by decide +kernel
theorem dX8_slinger_6 : decode cX8_slinger 6 = .ok (.invokestatic 60, 3) := by decide +kernel
theorem dX8_slinger_9 : decode cX8_slinger 9 = .ok (.ifCond .eq 15, 3) := by decide +kernel
theorem dX8_slinger_12 : decode cX8_slinger 12 = .ok (.iload_n 2, 1) := by decide +kernel
theorem dX8_slinger_13 : decode cX8_slinger 13 = .ok (.i2l, 1) := by decide +kernel
theorem dX8_slinger_14 : decode cX8_slinger 14 = .ok (.lconst 0, 1) := by decide +kernel
theorem dX8_slinger_15 : decode cX8_slinger 15 = .ok (.ldc2_w 101, 3) := by decide +kernel
theorem dX8_slinger_18 : decode cX8_slinger 18 = .ok (.invokestatic 60, 3) := by decide +kernel
theorem dX8_slinger_21 : decode cX8_slinger 21 = .ok (.ifCond .ne 8, 3) := by decide +kernel
theorem dX8_slinger_24 : decode cX8_slinger 24 = .ok (.aload_n 0, 1) := by decide +kernel
theorem dX8_slinger_25 : decode cX8_slinger 25 = .ok (.invokevirtual 103, 3) := by decide +kernel
theorem dX8_slinger_28 : decode cX8_slinger 28 = .ok (.ireturn, 1) := by decide +kernel
theorem dX8_slinger_29 : decode cX8_slinger 29 = .ok (.aload_n 0, 1) := by decide +kernel
theorem dX8_slinger_30 : decode cX8_slinger 30 = .ok (.getfield 7, 3) := by decide +kernel
theorem dX8_slinger_33 : decode cX8_slinger 33 = .ok (.iconst 1, 1) := by decide +kernel
theorem dX8_slinger_34 : decode cX8_slinger 34 = .ok (.iaload, 1) := by decide +kernel
theorem dX8_slinger_35 : decode cX8_slinger 35 = .ok (.bipush 6, 2) := by decide +kernel
theorem dX8_slinger_37 : decode cX8_slinger 37 = .ok (.if_icmp .ne 8, 3) := by decide +kernel
theorem dX8_slinger_40 : decode cX8_slinger 40 = .ok (.aload_n 0, 1) := by decide +kernel
theorem dX8_slinger_41 : decode cX8_slinger 41 = .ok (.invokevirtual 113, 3) := by decide +kernel
theorem dX8_slinger_44 : decode cX8_slinger 44 = .ok (.ireturn, 1) := by decide +kernel
theorem dX8_slinger_45 : decode cX8_slinger 45 = .ok (.aload_n 0, 1) := by decide +kernel
theorem dX8_slinger_46 : decode cX8_slinger 46 = .ok (.getfield 7, 3) := by decide +kernel
theorem dX8_slinger_49 : decode cX8_slinger 49 = .ok (.iconst 1, 1) := by decide +kernel
theorem dX8_slinger_50 : decode cX8_slinger 50 = .ok (.iaload, 1) := by decide +kernel
theorem dX8_slinger_51 : decode cX8_slinger 51 = .ok (.istore_n 3, 1) := by decide +kernel
theorem dX8_slinger_52 : decode cX8_slinger 52 = .ok (.aload_n 0, 1) := by decide +kernel
theorem dX8_slinger_53 : decode cX8_slinger 53 = .ok (.getfield 7, 3) := by decide +kernel
theorem dX8_slinger_56 : decode cX8_slinger 56 = .ok (.bipush 68, 2) := by decide +kernel
theorem dX8_slinger_58 : decode cX8_slinger 58 = .ok (.iload_n 3, 1) := by decide +kernel
theorem dX8_slinger_59 : decode cX8_slinger 59 = .ok (.iadd, 1) := by decide +kernel
theorem dX8_slinger_60 : decode cX8_slinger 60 = .ok (.iload_n 1, 1) := by decide +kernel
theorem dX8_slinger_61 : decode cX8_slinger 61 = .ok (.iastore, 1) := by decide +kernel
theorem dX8_slinger_62 : decode cX8_slinger 62 = .ok (.aload_n 0, 1) := by decide +kernel
theorem dX8_slinger_63 : decode cX8_slinger 63 = .ok (.getfield 7, 3) := by decide +kernel
theorem dX8_slinger_66 : decode cX8_slinger 66 = .ok (.bipush 74, 2) := by decide +kernel
theorem dX8_slinger_68 : decode cX8_slinger 68 = .ok (.iload_n 3, 1) := by decide +kernel
theorem dX8_slinger_69 : decode cX8_slinger 69 = .ok (.iadd, 1) := by decide +kernel
theorem dX8_slinger_70 : decode cX8_slinger 70 = .ok (.iload_n 2, 1) := by decide +kernel
theorem dX8_slinger_71 : decode cX8_slinger 71 = .ok (.iastore, 1) := by decide +kernel
theorem dX8_slinger_72 : decode cX8_slinger 72 = .ok (.aload_n 0, 1) := by decide +kernel
theorem dX8_slinger_73 : decode cX8_slinger 73 = .ok (.getfield 7, 3) := by decide +kernel
theorem dX8_slinger_76 : decode cX8_slinger 76 = .ok (.iconst 1, 1) := by decide +kernel
theorem dX8_slinger_77 : decode cX8_slinger 77 = .ok (.dup2, 1) := by decide +kernel
theorem dX8_slinger_78 : decode cX8_slinger 78 = .ok (.iaload, 1) := by decide +kernel
theorem dX8_slinger_79 : decode cX8_slinger 79 = .ok (.iconst 1, 1) := by decide +kernel
theorem dX8_slinger_80 : decode cX8_slinger 80 = .ok (.iadd, 1) := by decide +kernel
theorem dX8_slinger_81 : decode cX8_slinger 81 = .ok (.iastore, 1) := by decide +kernel
theorem dX8_slinger_82 : decode cX8_slinger 82 = .ok (.aload_n 0, 1) := by decide +kernel
theorem dX8_slinger_83 : decode cX8_slinger 83 = .ok (.iconst 0, 1) := by decide +kernel
theorem dX8_slinger_84 : decode cX8_slinger 84 = .ok (.putfield 94, 3) := by decide +kernel
theorem dX8_slinger_87 : decode cX8_slinger 87 = .ok (.iload_n 3, 1) := by decide +kernel
theorem dX8_slinger_88 : decode cX8_slinger 88 = .ok (.ireturn, 1) := by decide +kernel
set_option maxRecDepth 20000 in
theorem dX8_cloud_0 : decode cX8_cloud 0 = .ok (.iload_n 1, 1) := by decide +kernel
theorem dX8_cloud_1 : decode cX8_cloud 1 = .ok (.i2l, 1) := by decide +kernel
theorem dX8_cloud_2 : decode cX8_cloud 2 = .ok (.lconst 1, 1) := by decide +kernel
theorem dX8_cloud_3 : decode cX8_cloud 3 = .ok (.ldc2_w 122, 3) := by decide +kernel
theorem dX8_cloud_6 : decode cX8_cloud 6 = .ok (.invokestatic 60, 3) := by decide +kernel
theorem dX8_cloud_9 : decode cX8_cloud 9 = .ok (.ifCond .eq 15, 3) := by decide +kernel
theorem dX8_cloud_12 : decode cX8_cloud 12 = .ok (.iload_n 2, 1) := by decide +kernel
theorem dX8_cloud_13 : decode cX8_cloud 13 = .ok (.i2l, 1) := by decide +kernel
theorem dX8_cloud_14 : decode cX8_cloud 14 = .ok (.lconst 1, 1) := by decide +kernel
theorem dX8_cloud_15 : decode cX8_cloud 15 = .ok (.ldc2_w 124, 3) := by decide +kernel
theorem dX8_cloud_18 : decode cX8_cloud 18 = .ok (.invokestatic 60, 3) := by decide +kernel
theorem dX8_cloud_21 : decode cX8_cloud 21 = .ok (.ifCond .ne 8, 3) := by decide +kernel
theorem dX8_cloud_24 : decode cX8_cloud 24 = .ok (.aload_n 0, 1) := by decide +kernel
theorem dX8_cloud_25 : decode cX8_cloud 25 = .ok (.invokevirtual 103, 3) := by decide +kernel
theorem dX8_cloud_28 : decode cX8_cloud 28 = .ok (.ireturn, 1) := by decide +kernel
theorem dX8_cloud_29 : decode cX8_cloud 29 = .ok (.aload_n 0, 1) := by decide +kernel
theorem dX8_cloud_30 : decode cX8_cloud 30 = .ok (.getfield 7, 3) := by decide +kernel
theorem dX8_cloud_33 : decode cX8_cloud 33 = .ok (.iconst 2, 1) := by decide +kernel
theorem dX8_cloud_34 : decode cX8_cloud 34 = .ok (.iaload, 1) := by decide +kernel
theorem dX8_cloud_35 : decode cX8_cloud 35 = .ok (.iconst 4, 1) := by decide +kernel
theorem dX8_cloud_36 : decode cX8_cloud 36 = .ok (.if_icmp .ne 8, 3) := by decide +kernel
theorem dX8_cloud_39 : decode cX8_cloud 39 = .ok (.aload_n 0, 1) := by decide +kernel
theorem dX8_cloud_40 : decode cX8_cloud 40 = .ok (.invokevirtual 113, 3) := by decide +kernel
theorem dX8_cloud_43 : decode cX8_cloud 43 = .ok (.ireturn, 1) := by decide +kernel
theorem dX8_cloud_44 : decode cX8_cloud 44 = .ok (.aload_n 0, 1) := by decide +kernel
theorem dX8_cloud_45 : decode cX8_cloud 45 = .ok (.getfield 7, 3) := by decide +kernel
theorem dX8_cloud_48 : decode cX8_cloud 48 = .ok (.iconst 2, 1) := by decide +kernel
theorem dX8_cloud_49 : decode cX8_cloud 49 = .ok (.iaload, 1) := by decide +kernel
theorem dX8_cloud_50 : decode cX8_cloud 50 = .ok (.istore_n 3, 1) := by decide +kernel
theorem dX8_cloud_51 : decode cX8_cloud 51 = .ok (.aload_n 0, 1) := by decide +kernel
theorem dX8_cloud_52 : decode cX8_cloud 52 = .ok (.getfield 7, 3) := by decide +kernel
theorem dX8_cloud_55 : decode cX8_cloud 55 = .ok (.bipush 80, 2) := by decide +kernel
theorem dX8_cloud_57 : decode cX8_cloud 57 = .ok (.iload_n 3, 1) := by decide +kernel
theorem dX8_cloud_58 : decode cX8_cloud 58 = .ok (.iadd, 1) := by decide +kernel
theorem dX8_cloud_59 : decode cX8_cloud 59 = .ok (.iload_n 1, 1) := by decide +kernel
theorem dX8_cloud_60 : decode cX8_cloud 60 = .ok (.iastore, 1) := by decide +kernel
theorem dX8_cloud_61 : decode cX8_cloud 61 = .ok (.aload_n 0, 1) := by decide +kernel
theorem dX8_cloud_62 : decode cX8_cloud 62 = .ok (.getfield 7, 3) := by decide +kernel
theorem dX8_cloud_65 : decode cX8_cloud 65 = .ok (.bipush 84, 2) := by decide +kernel
theorem dX8_cloud_67 : decode cX8_cloud 67 = .ok (.iload_n 3, 1) := by decide +kernel
theorem dX8_cloud_68 : decode cX8_cloud 68 = .ok (.iadd, 1) := by decide +kernel
theorem dX8_cloud_69 : decode cX8_cloud 69 = .ok (.iload_n 2, 1) := by decide +kernel
theorem dX8_cloud_70 : decode cX8_cloud 70 = .ok (.iastore, 1) := by decide +kernel
theorem dX8_cloud_71 : decode cX8_cloud 71 = .ok (.aload_n 0, 1) := by decide +kernel
theorem dX8_cloud_72 : decode cX8_cloud 72 = .ok (.getfield 7, 3) := by decide +kernel
theorem dX8_cloud_75 : decode cX8_cloud 75 = .ok (.bipush 88, 2) := by decide +kernel
theorem dX8_cloud_77 : decode cX8_cloud 77 = .ok (.iload_n 3, 1) := by decide +kernel
theorem dX8_cloud_78 : decode cX8_cloud 78 = .ok (.iadd, 1) := by decide +kernel
theorem dX8_cloud_79 : decode cX8_cloud 79 = .ok (.iconst 0, 1) := by decide +kernel
theorem dX8_cloud_80 : decode cX8_cloud 80 = .ok (.iastore, 1) := by decide +kernel
theorem dX8_cloud_81 : decode cX8_cloud 81 = .ok (.aload_n 0, 1) := by decide +kernel
theorem dX8_cloud_82 : decode cX8_cloud 82 = .ok (.getfield 7, 3) := by decide +kernel
theorem dX8_cloud_85 : decode cX8_cloud 85 = .ok (.iconst 2, 1) := by decide +kernel
theorem dX8_cloud_86 : decode cX8_cloud 86 = .ok (.dup2, 1) := by decide +kernel
theorem dX8_cloud_87 : decode cX8_cloud 87 = .ok (.iaload, 1) := by decide +kernel
theorem dX8_cloud_88 : decode cX8_cloud 88 = .ok (.iconst 1, 1) := by decide +kernel
theorem dX8_cloud_89 : decode cX8_cloud 89 = .ok (.iadd, 1) := by decide +kernel
theorem dX8_cloud_90 : decode cX8_cloud 90 = .ok (.iastore, 1) := by decide +kernel
theorem dX8_cloud_91 : decode cX8_cloud 91 = .ok (.aload_n 0, 1) := by decide +kernel
theorem dX8_cloud_92 : decode cX8_cloud 92 = .ok (.iconst 0, 1) := by decide +kernel
theorem dX8_cloud_93 : decode cX8_cloud 93 = .ok (.putfield 94, 3) := by decide +kernel
theorem dX8_cloud_96 : decode cX8_cloud 96 = .ok (.iload_n 3, 1) := by decide +kernel
theorem dX8_cloud_97 : decode cX8_cloud 97 = .ok (.ireturn, 1) := by decide +kernel
set_option maxRecDepth 20000 in
theorem dX8_type_0 : decode cX8_type 0 = .ok (.iload_n 1, 1) := by decide +kernel
theorem dX8_type_1 : decode cX8_type 1 = .ok (.i2l, 1) := by decide +kernel
theorem dX8_type_2 : decode cX8_type 2 = .ok (.lconst 0, 1) := by decide +kernel
theorem dX8_type_3 : decode cX8_type 3 = .ok (.ldc2_w 126, 3) := by decide +kernel
theorem dX8_type_6 : decode cX8_type 6 = .ok (.invokestatic 60, 3) := by decide +kernel
theorem dX8_type_9 : decode cX8_type 9 = .ok (.ifCond .ne 8, 3) := by decide +kernel
theorem dX8_type_12 : decode cX8_type 12 = .ok (.aload_n 0, 1) := by decide +kernel
theorem dX8_type_13 : decode cX8_type 13 = .ok (.invokevirtual 103, 3) := by decide +kernel
theorem dX8_type_16 : decode cX8_type 16 = .ok (.ireturn, 1) := by decide +kernel
theorem dX8_type_17 : decode cX8_type 17 = .ok (.aload_n 0, 1) := by decide +kernel
theorem dX8_type_18 : decode cX8_type 18 = .ok (.getfield 128, 3) := by decide +kernel
theorem dX8_type_21 : decode cX8_type 21 = .ok (.sipush 150, 3) := by decide +kernel
theorem dX8_type_24 : decode cX8_type 24 = .ok (.if_icmp .ne 8, 3) := by decide +kernel
theorem dX8_type_27 : decode cX8_type 27 = .ok (.aload_n 0, 1) := by decide +kernel
theorem dX8_type_28 : decode cX8_type 28 = .ok (.invokevirtual 113, 3) := by decide +kernel
theorem dX8_type_31 : decode cX8_type 31 = .ok (.ireturn, 1) := by decide +kernel
theorem dX8_type_32 : decode cX8_type 32 = .ok (.aload_n 0, 1) := by decide +kernel
theorem dX8_type_33 : decode cX8_type 33 = .ok (.getfield 23, 3) := by decide +kernel
theorem dX8_type_36 : decode cX8_type 36 = .ok (.aload_n 0, 1) := by decide +kernel
theorem dX8_type_37 : decode cX8_type 37 = .ok (.getfield 128, 3) := by decide +kernel
theorem dX8_type_40 : decode cX8_type 40 = .ok (.iload_n 1, 1) := by decide +kernel
theorem dX8_type_41 : decode cX8_type 41 = .ok (.iastore, 1) := by decide +kernel
theorem dX8_type_42 : decode cX8_type 42 = .ok (.aload_n 0, 1) := by decide +kernel
theorem dX8_type_43 : decode cX8_type 43 = .ok (.dup, 1) := by decide +kernel
theorem dX8_type_44 : decode cX8_type 44 = .ok (.getfield 128, 3) := by decide +kernel
theorem dX8_type_47 : decode cX8_type 47 = .ok (.iconst 1, 1) := by decide +kernel
theorem dX8_type_48 : decode cX8_type 48 = .ok (.iadd, 1) := by decide +kernel
theorem dX8_type_49 : decode cX8_type 49 = .ok (.putfield 128, 3) := by decide +kernel
theorem dX8_type_52 : decode cX8_type 52 = .ok (.aload_n 0, 1) := by decide +kernel
theorem dX8_type_53 : decode cX8_type 53 = .ok (.getfield 128, 3) := by decide +kernel
theorem dX8_type_56 : decode cX8_type 56 = .ok (.ireturn, 1) := by decide +kernel
theorem dX8_clear_0 : decode cX8_clear 0 = .ok (.aload_n 0, 1) := by decide +kernel
theorem dX8_clear_1 : decode cX8_clear 1 = .ok (.getfield 128, 3) := by decide +kernel
theorem dX8_clear_4 : decode cX8_clear 4 = .ok (.istore_n 1, 1) := by decide +kernel
theorem dX8_clear_5 : decode cX8_clear 5 = .ok (.aload_n 0, 1) := by decide +kernel
theorem dX8_clear_6 : decode cX8_clear 6 = .ok (.iconst 0, 1) := by decide +kernel
theorem dX8_clear_7 : decode cX8_clear 7 = .ok (.putfield 128, 3) := by decide +kernel
theorem dX8_clear_10 : decode cX8_clear 10 = .ok (.iload_n 1, 1) := by decide +kernel
theorem dX8_clear_11 : decode cX8_clear 11 = .ok (.ireturn, 1) := by decide +kernel
set_option maxRecDepth 20000 in
theorem dX8_isLetter_0 : decode cX8_isLetter 0 = .ok (.iload_n 1, 1) := by decide +kernel
theorem dX8_isLetter_1 : decode cX8_isLetter 1 = .ok (.aload_n 0, 1) := by decide +kernel
theorem dX8_isLetter_2 : decode cX8_isLetter 2 = .ok (.getfield 128, 3) := by decide +kernel
theorem dX8_isLetter_5 : decode cX8_isLetter 5 = .ok (.if_icmp .ge 26, 3) := by decide +kernel
theorem dX8_isLetter_8 : decode cX8_isLetter 8 = .ok (.aload_n 0, 1) := by decide +kernel
theorem dX8_isLetter_9 : decode cX8_isLetter 9 = .ok (.getfield 23, 3) := by decide +kernel
theorem dX8_isLetter_12 : decode cX8_isLetter 12 = .ok (.iload_n 1, 1) := by decide +kernel
theorem dX8_isLetter_13 : decode cX8_isLetter 13 = .ok (.iaload, 1) := by decide +kernel
theorem dX8_isLetter_14 : decode cX8_isLetter 14 = .ok (.i2l, 1) := by decide +kernel
theorem dX8_isLetter_15 : decode cX8_isLetter 15 = .ok (.ldc2_w 131, 3) := by decide +kernel
theorem dX8_isLetter_18 : decode cX8_isLetter 18 = .ok (.ldc2_w 133, 3) := by decide +kernel
theorem dX8_isLetter_21 : decode cX8_isLetter 21 = .ok (.invokestatic 60, 3) := by decide +kernel
theorem dX8_isLetter_24 : decode cX8_isLetter 24 = .ok (.ifCond .eq 7, 3) := by decide +kernel
theorem dX8_isLetter_27 : decode cX8_isLetter 27 = .ok (.iconst 1, 1) := by decide +kernel
theorem dX8_isLetter_28 : decode cX8_isLetter 28 = .ok (.goto 4, 3) := by decide +kernel
theorem dX8_isLetter_31 : decode cX8_isLetter 31 = .ok (.iconst 0, 1) := by decide +kernel
theorem dX8_isLetter_32 : decode cX8_isLetter 32 = .ok (.ireturn, 1) := by decide +kernel
set_option maxRecDepth 20000 in
theorem dX8_isFigure_0 : decode cX8_isFigure 0 = .ok (.iload_n 1, 1) := by decide +kernel
theorem dX8_isFigure_1 : decode cX8_isFigure 1 = .ok (.aload_n 0, 1) := by decide +kernel
theorem dX8_isFigure_2 : decode cX8_isFigure 2 = .ok (.getfield 128, 3) := by decide +kernel
theorem dX8_isFigure_5 : decode cX8_isFigure 5 = .ok (.if_icmp .ge 26, 3) := by decide +kernel
theorem dX8_isFigure_8 : decode cX8_isFigure 8 = .ok (.aload_n 0, 1) := by decide +kernel
theorem dX8_isFigure_9 : decode cX8_isFigure 9 = .ok (.getfield 23, 3) := by decide +kernel
theorem dX8_isFigure_12 : decode cX8_isFigure 12 = .ok (.iload_n 1, 1) := by decide +kernel
theorem dX8_isFigure_13 : decode cX8_isFigure 13 = .ok (.iaload, 1) := by decide +kernel
theorem dX8_isFigure_14 : decode cX8_isFigure 14 = .ok (.i2l, 1) := by decide +kernel
theorem dX8_isFigure_15 : decode cX8_isFigure 15 = .ok (.ldc2_w 135, 3) := by decide +kernel
theorem dX8_isFigure_18 : decode cX8_isFigure 18 = .ok (.ldc2_w 137, 3) := by decide +kernel
theorem dX8_isFigure_21 : decode cX8_isFigure 21 = .ok (.invokestatic 60, 3) := by decide +kernel
theorem dX8_isFigure_24 : decode cX8_isFigure 24 = .ok (.ifCond .eq 7, 3) := by decide +kernel
theorem dX8_isFigure_27 : decode cX8_isFigure 27 = .ok (.iconst 1, 1) := by decide +kernel
theorem dX8_isFigure_28 : decode cX8_isFigure 28 = .ok (.goto 4, 3) := by decide +kernel
theorem dX8_isFigure_31 : decode cX8_isFigure 31 = .ok (.iconst 0, 1) := by decide +kernel
theorem dX8_isFigure_32 : decode cX8_isFigure 32 = .ok (.ireturn, 1) := by decide +kernel
set_option maxRecDepth 20000 in
theorem dX8_nextToken_0 : decode cX8_nextToken 0 = .ok (.aload_n 0, 1) := by decide +kernel
theorem dX8_nextToken_1 : decode cX8_nextToken 1 = .ok (.getfield 139, 3) := by decide +kernel
theorem dX8_nextToken_4 : decode cX8_nextToken 4 = .ok (.aload_n 0, 1) := by decide +kernel
theorem dX8_nextToken_5 : decode cX8_nextToken 5 = .ok (.getfield 128, 3) := by decide +kernel
theorem dX8_nextToken_8 : decode cX8_nextToken 8 = .ok (.if_icmp .ge 30, 3) := by decide +kernel
theorem dX8_nextToken_11 : decode cX8_nextToken 11 = .ok (.aload_n 0, 1) := by decide +kernel
theorem dX8_nextToken_12 : decode cX8_nextToken 12 = .ok (.getfield 23, 3) := by decide +kernel
theorem dX8_nextToken_15 : decode cX8_nextToken 15 = .ok (.aload_n 0, 1) := by decide +kernel
theorem dX8_nextToken_16 : decode cX8_nextToken 16 = .ok (.getfield 139, 3) := by decide +kernel
theorem dX8_nextToken_19 : decode cX8_nextToken 19 = .ok (.iaload, 1) := by decide +kernel
theorem dX8_nextToken_20 : decode cX8_nextToken 20 = .ok (.bipush 32, 2) := by decide +kernel
theorem dX8_nextToken_22 : decode cX8_nextToken 22 = .ok (.if_icmp .ne 16, 3) := by decide +kernel
theorem dX8_nextToken_25 : decode cX8_nextToken 25 = .ok (.aload_n 0, 1) := by decide +kernel
theorem dX8_nextToken_26 : decode cX8_nextToken 26 = .ok (.dup, 1) := by decide +kernel
theorem dX8_nextToken_27 : decode cX8_nextToken 27 = .ok (.getfield 139, 3) := by decide +kernel
theorem dX8_nextToken_30 : decode cX8_nextToken 30 = .ok (.iconst 1, 1) := by decide +kernel
theorem dX8_nextToken_31 : decode cX8_nextToken 31 = .ok (.iadd, 1) := by decide +kernel
theorem dX8_nextToken_32 : decode cX8_nextToken 32 = .ok (.putfield 139, 3) := by decide +kernel
theorem dX8_nextToken_35 : decode cX8_nextToken 35 = .ok (.goto (-35), 3) := by decide +kernel
theorem dX8_nextToken_38 : decode cX8_nextToken 38 = .ok (.aload_n 0, 1) := by decide +kernel
theorem dX8_nextToken_39 : decode cX8_nextToken 39 = .ok (.aload_n 0, 1) := by decide +kernel
theorem dX8_nextToken_40 : decode cX8_nextToken 40 = .ok (.getfield 139, 3) := by decide +kernel
theorem dX8_nextToken_43 : decode cX8_nextToken 43 = .ok (.putfield 142, 3) := by decide +kernel
theorem dX8_nextToken_46 : decode cX8_nextToken 46 = .ok (.aload_n 0, 1) := by decide +kernel
theorem dX8_nextToken_47 : decode cX8_nextToken 47 = .ok (.aload_n 0, 1) := by decide +kernel
theorem dX8_nextToken_48 : decode cX8_nextToken 48 = .ok (.getfield 139, 3) := by decide +kernel
theorem dX8_nextToken_51 : decode cX8_nextToken 51 = .ok (.iconst 1, 1) := by decide +kernel
theorem dX8_nextToken_52 : decode cX8_nextToken 52 = .ok (.iadd, 1) := by decide +kernel
theorem dX8_nextToken_53 : decode cX8_nextToken 53 = .ok (.putfield 145, 3) := by decide +kernel
theorem dX8_nextToken_56 : decode cX8_nextToken 56 = .ok (.aload_n 0, 1) := by decide +kernel
theorem dX8_nextToken_57 : decode cX8_nextToken 57 = .ok (.aload_n 0, 1) := by decide +kernel
theorem dX8_nextToken_58 : decode cX8_nextToken 58 = .ok (.getfield 139, 3) := by decide +kernel
theorem dX8_nextToken_61 : decode cX8_nextToken 61 = .ok (.aload_n 0, 1) := by decide +kernel
theorem dX8_nextToken_62 : decode cX8_nextToken 62 = .ok (.getfield 128, 3) := by decide +kernel
theorem dX8_nextToken_65 : decode cX8_nextToken 65 = .ok (.if_icmp .ne 7, 3) := by decide +kernel
theorem dX8_nextToken_68 : decode cX8_nextToken 68 = .ok (.iconst 0, 1) := by decide +kernel
theorem dX8_nextToken_69 : decode cX8_nextToken 69 = .ok (.goto 52, 3) := by decide +kernel
theorem dX8_nextToken_72 : decode cX8_nextToken 72 = .ok (.aload_n 0, 1) := by decide +kernel
theorem dX8_nextToken_73 : decode cX8_nextToken 73 = .ok (.aload_n 0, 1) := by decide +kernel
theorem dX8_nextToken_74 : decode cX8_nextToken 74 = .ok (.getfield 139, 3) := by decide +kernel
theorem dX8_nextToken_77 : decode cX8_nextToken 77 = .ok (.invokevirtual 148, 3) := by decide +kernel
theorem dX8_nextToken_80 : decode cX8_nextToken 80 = .ok (.ifCond .eq 7, 3) := by decide +kernel
theorem dX8_nextToken_83 : decode cX8_nextToken 83 = .ok (.iconst 1, 1) := by decide +kernel
theorem dX8_nextToken_84 : decode cX8_nextToken 84 = .ok (.goto 37, 3) := by decide +kernel
theorem dX8_nextToken_87 : decode cX8_nextToken 87 = .ok (.aload_n 0, 1) := by decide +kernel
theorem dX8_nextToken_88 : decode cX8_nextToken 88 = .ok (.aload_n 0, 1) := by decide +kernel
theorem dX8_nextToken_89 : decode cX8_nextToken 89 = .ok (.getfield 139, 3) := by decide +kernel
theorem dX8_nextToken_92 : decode cX8_nextToken 92 = .ok (.invokevirtual 151, 3) := by decide +kernel
theorem dX8_nextToken_95 : decode cX8_nextToken 95 = .ok (.ifCond .eq 7, 3) := by decide +kernel
theorem dX8_nextToken_98 : decode cX8_nextToken 98 = .ok (.iconst 2, 1) := by decide +kernel
theorem dX8_nextToken_99 : decode cX8_nextToken 99 = .ok (.goto 22, 3) := by decide +kernel
theorem dX8_nextToken_102 : decode cX8_nextToken 102 = .ok (.aload_n 0, 1) := by decide +kernel
theorem dX8_nextToken_103 : decode cX8_nextToken 103 = .ok (.getfield 23, 3) := by decide +kernel
theorem dX8_nextToken_106 : decode cX8_nextToken 106 = .ok (.aload_n 0, 1) := by decide +kernel
theorem dX8_nextToken_107 : decode cX8_nextToken 107 = .ok (.getfield 139, 3) := by decide +kernel
theorem dX8_nextToken_110 : decode cX8_nextToken 110 = .ok (.iaload, 1) := by decide +kernel
theorem dX8_nextToken_111 : decode cX8_nextToken 111 = .ok (.bipush 59, 2) := by decide +kernel
theorem dX8_nextToken_113 : decode cX8_nextToken 113 = .ok (.if_icmp .ne 7, 3) := by decide +kernel
theorem dX8_nextToken_116 : decode cX8_nextToken 116 = .ok (.iconst 3, 1) := by decide +kernel
theorem dX8_nextToken_117 : decode cX8_nextToken 117 = .ok (.goto 4, 3) := by decide +kernel
theorem dX8_nextToken_120 : decode cX8_nextToken 120 = .ok (.iconst 4, 1) := by decide +kernel
theorem dX8_nextToken_121 : decode cX8_nextToken 121 = .ok (.putfield 154, 3) := by decide +kernel
theorem dX8_nextToken_124 : decode cX8_nextToken 124 = .ok (.aload_n 0, 1) := by decide +kernel
theorem dX8_nextToken_125 : decode cX8_nextToken 125 = .ok (.getfield 154, 3) := by decide +kernel
theorem dX8_nextToken_128 : decode cX8_nextToken 128 = .ok (.iconst 1, 1) := by decide +kernel
theorem dX8_nextToken_129 : decode cX8_nextToken 129 = .ok (.if_icmp .ne 14, 3) := by decide +kernel
theorem dX8_nextToken_132 : decode cX8_nextToken 132 = .ok (.aload_n 0, 1) := by decide +kernel
theorem dX8_nextToken_133 : decode cX8_nextToken 133 = .ok (.aload_n 0, 1) := by decide +kernel
theorem dX8_nextToken_134 : decode cX8_nextToken 134 = .ok (.getfield 145, 3) := by decide +kernel
theorem dX8_nextToken_137 : decode cX8_nextToken 137 = .ok (.invokevirtual 148, 3) := by decide +kernel
theorem dX8_nextToken_140 : decode cX8_nextToken 140 = .ok (.ifCond .ne 22, 3) := by decide +kernel
theorem dX8_nextToken_143 : decode cX8_nextToken 143 = .ok (.aload_n 0, 1) := by decide +kernel
theorem dX8_nextToken_144 : decode cX8_nextToken 144 = .ok (.getfield 154, 3) := by decide +kernel
theorem dX8_nextToken_147 : decode cX8_nextToken 147 = .ok (.iconst 2, 1) := by decide +kernel
theorem dX8_nextToken_148 : decode cX8_nextToken 148 = .ok (.if_icmp .ne 27, 3) := by decide +kernel
theorem dX8_nextToken_151 : decode cX8_nextToken 151 = .ok (.aload_n 0, 1) := by decide +kernel
theorem dX8_nextToken_152 : decode cX8_nextToken 152 = .ok (.aload_n 0, 1) := by decide +kernel
theorem dX8_nextToken_153 : decode cX8_nextToken 153 = .ok (.getfield 145, 3) := by decide +kernel
theorem dX8_nextToken_156 : decode cX8_nextToken 156 = .ok (.invokevirtual 151, 3) := by decide +kernel
theorem dX8_nextToken_159 : decode cX8_nextToken 159 = .ok (.ifCond .eq 16, 3) := by decide +kernel
theorem dX8_nextToken_162 : decode cX8_nextToken 162 = .ok (.aload_n 0, 1) := by decide +kernel
theorem dX8_nextToken_163 : decode cX8_nextToken 163 = .ok (.dup, 1) := by decide +kernel
theorem dX8_nextToken_164 : decode cX8_nextToken 164 = .ok (.getfield 145, 3) := by decide +kernel
theorem dX8_nextToken_167 : decode cX8_nextToken 167 = .ok (.iconst 1, 1) := by decide +kernel
theorem dX8_nextToken_168 : decode cX8_nextToken 168 = .ok (.iadd, 1) := by decide +kernel
theorem dX8_nextToken_169 : decode cX8_nextToken 169 = .ok (.putfield 145, 3) := by decide +kernel
theorem dX8_nextToken_172 : decode cX8_nextToken 172 = .ok (.goto (-48), 3) := by decide +kernel
theorem dX8_nextToken_175 : decode cX8_nextToken 175 = .ok (.aload_n 0, 1) := by decide +kernel
theorem dX8_nextToken_176 : decode cX8_nextToken 176 = .ok (.iconst 0, 1) := by decide +kernel
theorem dX8_nextToken_177 : decode cX8_nextToken 177 = .ok (.putfield 157, 3) := by decide +kernel
theorem dX8_nextToken_180 : decode cX8_nextToken 180 = .ok (.aload_n 0, 1) := by decide +kernel
theorem dX8_nextToken_181 : decode cX8_nextToken 181 = .ok (.getfield 142, 3) := by decide +kernel
theorem dX8_nextToken_184 : decode cX8_nextToken 184 = .ok (.istore_n 1, 1) := by decide +kernel
theorem dX8_nextToken_185 : decode cX8_nextToken 185 = .ok (.iload_n 1, 1) := by decide +kernel
theorem dX8_nextToken_186 : decode cX8_nextToken 186 = .ok (.aload_n 0, 1) := by decide +kernel
theorem dX8_nextToken_187 : decode cX8_nextToken 187 = .ok (.getfield 145, 3) := by decide +kernel
theorem dX8_nextToken_190 : decode cX8_nextToken 190 = .ok (.if_icmp .ge 56, 3) := by decide +kernel
theorem dX8_nextToken_193 : decode cX8_nextToken 193 = .ok (.aload_n 0, 1) := by decide +kernel
theorem dX8_nextToken_194 : decode cX8_nextToken 194 = .ok (.getfield 154, 3) := by decide +kernel
theorem dX8_nextToken_197 : decode cX8_nextToken 197 = .ok (.iconst 2, 1) := by decide +kernel
theorem dX8_nextToken_198 : decode cX8_nextToken 198 = .ok (.if_icmp .ne 48, 3) := by decide +kernel
theorem dX8_nextToken_201 : decode cX8_nextToken 201 = .ok (.aload_n 0, 1) := by decide +kernel
theorem dX8_nextToken_202 : decode cX8_nextToken 202 = .ok (.aload_n 0, 1) := by decide +kernel
theorem dX8_nextToken_203 : decode cX8_nextToken 203 = .ok (.getfield 145, 3) := by decide +kernel
theorem dX8_nextToken_206 : decode cX8_nextToken 206 = .ok (.aload_n 0, 1) := by decide +kernel
theorem dX8_nextToken_207 : decode cX8_nextToken 207 = .ok (.getfield 142, 3) := by decide +kernel
theorem dX8_nextToken_210 : decode cX8_nextToken 210 = .ok (.isub, 1) := by decide +kernel
theorem dX8_nextToken_211 : decode cX8_nextToken 211 = .ok (.iconst 2, 1) := by decide +kernel
theorem dX8_nextToken_212 : decode cX8_nextToken 212 = .ok (.if_icmp .le 8, 3) := by decide +kernel
theorem dX8_nextToken_215 : decode cX8_nextToken 215 = .ok (.ldc 160, 2) := by decide +kernel
theorem dX8_nextToken_217 : decode cX8_nextToken 217 = .ok (.goto 20, 3) := by decide +kernel
theorem dX8_nextToken_220 : decode cX8_nextToken 220 = .ok (.bipush 10, 2) := by decide +kernel
theorem dX8_nextToken_222 : decode cX8_nextToken 222 = .ok (.aload_n 0, 1) := by decide +kernel
theorem dX8_nextToken_223 : decode cX8_nextToken 223 = .ok (.getfield 157, 3) := by decide +kernel
theorem dX8_nextToken_226 : decode cX8_nextToken 226 = .ok (.imul, 1) := by decide +kernel
theorem dX8_nextToken_227 : decode cX8_nextToken 227 = .ok (.aload_n 0, 1) := by decide +kernel
theorem dX8_nextToken_228 : decode cX8_nextToken 228 = .ok (.getfield 23, 3) := by decide +kernel
theorem dX8_nextToken_231 : decode cX8_nextToken 231 = .ok (.iload_n 1, 1) := by decide +kernel
theorem dX8_nextToken_232 : decode cX8_nextToken 232 = .ok (.iaload, 1) := by decide +kernel
theorem dX8_nextToken_233 : decode cX8_nextToken 233 = .ok (.iadd, 1) := by decide +kernel
theorem dX8_nextToken_234 : decode cX8_nextToken 234 = .ok (.bipush 48, 2) := by decide +kernel
theorem dX8_nextToken_236 : decode cX8_nextToken 236 = .ok (.isub, 1) := by decide +kernel
theorem dX8_nextToken_237 : decode cX8_nextToken 237 = .ok (.putfield 157, 3) := by decide +kernel
theorem dX8_nextToken_240 : decode cX8_nextToken 240 = .ok (.iinc 1 1, 3) := by decide +kernel
theorem dX8_nextToken_243 : decode cX8_nextToken 243 = .ok (.goto (-58), 3) := by decide +kernel
theorem dX8_nextToken_246 : decode cX8_nextToken 246 = .ok (.aload_n 0, 1) := by decide +kernel
theorem dX8_nextToken_247 : decode cX8_nextToken 247 = .ok (.aload_n 0, 1) := by decide +kernel
theorem dX8_nextToken_248 : decode cX8_nextToken 248 = .ok (.getfield 154, 3) := by decide +kernel
theorem dX8_nextToken_251 : decode cX8_nextToken 251 = .ok (.ifCond .ne 10, 3) := by decide +kernel
theorem dX8_nextToken_254 : decode cX8_nextToken 254 = .ok (.aload_n 0, 1) := by decide +kernel
theorem dX8_nextToken_255 : decode cX8_nextToken 255 = .ok (.getfield 139, 3) := by decide +kernel
theorem dX8_nextToken_258 : decode cX8_nextToken 258 = .ok (.goto 7, 3) := by decide +kernel
theorem dX8_nextToken_261 : decode cX8_nextToken 261 = .ok (.aload_n 0, 1) := by decide +kernel
theorem dX8_nextToken_262 : decode cX8_nextToken 262 = .ok (.getfield 145, 3) := by decide +kernel
theorem dX8_nextToken_265 : decode cX8_nextToken 265 = .ok (.putfield 139, 3) := by decide +kernel
theorem dX8_nextToken_268 : decode cX8_nextToken 268 = .ok (.return_, 1) := by decide +kernel
theorem dX8_wordNow_0 : decode cX8_wordNow 0 = .ok (.lconst 0, 1) := by decide +kernel
theorem dX8_wordNow_1 : decode cX8_wordNow 1 = .ok (.lstore_n 1, 1) := by decide +kernel
theorem dX8_wordNow_2 : decode cX8_wordNow 2 = .ok (.aload_n 0, 1) := by decide +kernel
theorem dX8_wordNow_3 : decode cX8_wordNow 3 = .ok (.getfield 142, 3) := by decide +kernel
theorem dX8_wordNow_6 : decode cX8_wordNow 6 = .ok (.istore_n 3, 1) := by decide +kernel
theorem dX8_wordNow_7 : decode cX8_wordNow 7 = .ok (.iload_n 3, 1) := by decide +kernel
theorem dX8_wordNow_8 : decode cX8_wordNow 8 = .ok (.aload_n 0, 1) := by decide +kernel
theorem dX8_wordNow_9 : decode cX8_wordNow 9 = .ok (.getfield 145, 3) := by decide +kernel
theorem dX8_wordNow_12 : decode cX8_wordNow 12 = .ok (.if_icmp .ge 49, 3) := by decide +kernel
theorem dX8_wordNow_15 : decode cX8_wordNow 15 = .ok (.aload_n 0, 1) := by decide +kernel
theorem dX8_wordNow_16 : decode cX8_wordNow 16 = .ok (.getfield 154, 3) := by decide +kernel
theorem dX8_wordNow_19 : decode cX8_wordNow 19 = .ok (.iconst 1, 1) := by decide +kernel
theorem dX8_wordNow_20 : decode cX8_wordNow 20 = .ok (.if_icmp .ne 41, 3) := by decide +kernel
theorem dX8_wordNow_23 : decode cX8_wordNow 23 = .ok (.lload_n 1, 1) := by decide +kernel
theorem dX8_wordNow_24 : decode cX8_wordNow 24 = .ok (.ldc2_w 161, 3) := by decide +kernel
theorem dX8_wordNow_27 : decode cX8_wordNow 27 = .ok (.lcmp, 1) := by decide +kernel
theorem dX8_wordNow_28 : decode cX8_wordNow 28 = .ok (.ifCond .le 7, 3) := by decide +kernel
theorem dX8_wordNow_31 : decode cX8_wordNow 31 = .ok (.lload_n 1, 1) := by decide +kernel
theorem dX8_wordNow_32 : decode cX8_wordNow 32 = .ok (.goto 22, 3) := by decide +kernel
theorem dX8_wordNow_35 : decode cX8_wordNow 35 = .ok (.ldc2_w 163, 3) := by decide +kernel
theorem dX8_wordNow_38 : decode cX8_wordNow 38 = .ok (.lload_n 1, 1) := by decide +kernel
theorem dX8_wordNow_39 : decode cX8_wordNow 39 = .ok (.lmul, 1) := by decide +kernel
theorem dX8_wordNow_40 : decode cX8_wordNow 40 = .ok (.aload_n 0, 1) := by decide +kernel
theorem dX8_wordNow_41 : decode cX8_wordNow 41 = .ok (.getfield 23, 3) := by decide +kernel
theorem dX8_wordNow_44 : decode cX8_wordNow 44 = .ok (.iload_n 3, 1) := by decide +kernel
theorem dX8_wordNow_45 : decode cX8_wordNow 45 = .ok (.iaload, 1) := by decide +kernel
theorem dX8_wordNow_46 : decode cX8_wordNow 46 = .ok (.i2l, 1) := by decide +kernel
theorem dX8_wordNow_47 : decode cX8_wordNow 47 = .ok (.ladd, 1) := by decide +kernel
theorem dX8_wordNow_48 : decode cX8_wordNow 48 = .ok (.ldc2_w 131, 3) := by decide +kernel
theorem dX8_wordNow_51 : decode cX8_wordNow 51 = .ok (.lsub, 1) := by decide +kernel
theorem dX8_wordNow_52 : decode cX8_wordNow 52 = .ok (.lconst 1, 1) := by decide +kernel
theorem dX8_wordNow_53 : decode cX8_wordNow 53 = .ok (.ladd, 1) := by decide +kernel
theorem dX8_wordNow_54 : decode cX8_wordNow 54 = .ok (.lstore_n 1, 1) := by decide +kernel
theorem dX8_wordNow_55 : decode cX8_wordNow 55 = .ok (.iinc 3 1, 3) := by decide +kernel
theorem dX8_wordNow_58 : decode cX8_wordNow 58 = .ok (.goto (-51), 3) := by decide +kernel
theorem dX8_wordNow_61 : decode cX8_wordNow 61 = .ok (.lload_n 1, 1) := by decide +kernel
theorem dX8_wordNow_62 : decode cX8_wordNow 62 = .ok (.lreturn, 1) := by decide +kernel
set_option maxRecDepth 20000 in
theorem dX8_takes_0 : decode cX8_takes 0 = .ok (.aload_n 0, 1) := by decide +kernel
theorem dX8_takes_1 : decode cX8_takes 1 = .ok (.invokevirtual 165, 3) := by decide +kernel
theorem dX8_takes_4 : decode cX8_takes 4 = .ok (.aload_n 0, 1) := by decide +kernel
theorem dX8_takes_5 : decode cX8_takes 5 = .ok (.getfield 154, 3) := by decide +kernel
theorem dX8_takes_8 : decode cX8_takes 8 = .ok (.iconst 2, 1) := by decide +kernel
theorem dX8_takes_9 : decode cX8_takes 9 = .ok (.if_icmp .ne 22, 3) := by decide +kernel
theorem dX8_takes_12 : decode cX8_takes 12 = .ok (.aload_n 0, 1) := by decide +kernel
theorem dX8_takes_13 : decode cX8_takes 13 = .ok (.getfield 157, 3) := by decide +kernel
theorem dX8_takes_16 : decode cX8_takes 16 = .ok (.i2l, 1) := by decide +kernel
theorem dX8_takes_17 : decode cX8_takes 17 = .ok (.iload_n 2, 1) := by decide +kernel
theorem dX8_takes_18 : decode cX8_takes 18 = .ok (.i2l, 1) := by decide +kernel
theorem dX8_takes_19 : decode cX8_takes 19 = .ok (.iload_n 3, 1) := by decide +kernel
theorem dX8_takes_20 : decode cX8_takes 20 = .ok (.i2l, 1) := by decide +kernel
theorem dX8_takes_21 : decode cX8_takes 21 = .ok (.invokestatic 60, 3) := by decide +kernel
theorem dX8_takes_24 : decode cX8_takes 24 = .ok (.ifCond .eq 7, 3) := by decide +kernel
theorem dX8_takes_27 : decode cX8_takes 27 = .ok (.iconst 1, 1) := by decide +kernel
theorem dX8_takes_28 : decode cX8_takes 28 = .ok (.goto 4, 3) := by decide +kernel
theorem dX8_takes_31 : decode cX8_takes 31 = .ok (.iconst 0, 1) := by decide +kernel
theorem dX8_takes_32 : decode cX8_takes 32 = .ok (.istore 4, 2) := by decide +kernel
theorem dX8_takes_34 : decode cX8_takes 34 = .ok (.aload_n 0, 1) := by decide +kernel
theorem dX8_takes_35 : decode cX8_takes 35 = .ok (.getfield 26, 3) := by decide +kernel
theorem dX8_takes_38 : decode cX8_takes 38 = .ok (.iload_n 1, 1) := by decide +kernel
theorem dX8_takes_39 : decode cX8_takes 39 = .ok (.iload 4, 2) := by decide +kernel
theorem dX8_takes_41 : decode cX8_takes 41 = .ok (.ifCond .eq 10, 3) := by decide +kernel
theorem dX8_takes_44 : decode cX8_takes 44 = .ok (.aload_n 0, 1) := by decide +kernel
theorem dX8_takes_45 : decode cX8_takes 45 = .ok (.getfield 157, 3) := by decide +kernel
theorem dX8_takes_48 : decode cX8_takes 48 = .ok (.goto 9, 3) := by decide +kernel
theorem dX8_takes_51 : decode cX8_takes 51 = .ok (.aload_n 0, 1) := by decide +kernel
theorem dX8_takes_52 : decode cX8_takes 52 = .ok (.getfield 26, 3) := by decide +kernel
theorem dX8_takes_55 : decode cX8_takes 55 = .ok (.iload_n 1, 1) := by decide +kernel
theorem dX8_takes_56 : decode cX8_takes 56 = .ok (.iaload, 1) := by decide +kernel
theorem dX8_takes_57 : decode cX8_takes 57 = .ok (.iastore, 1) := by decide +kernel
theorem dX8_takes_58 : decode cX8_takes 58 = .ok (.iload 4, 2) := by decide +kernel
theorem dX8_takes_60 : decode cX8_takes 60 = .ok (.ireturn, 1) := by decide +kernel
set_option maxRecDepth 20000 in
theorem dX8_takesCellar_0 : decode cX8_takesCellar 0 = .ok (.aload_n 0, 1) := by decide +kernel
theorem dX8_takesCellar_1 : decode cX8_takesCellar 1 = .ok (.getfield 26, 3) := by decide +kernel
theorem dX8_takesCellar_4 : decode cX8_takesCellar 4 = .ok (.iconst 0, 1) := by decide +kernel
theorem dX8_takesCellar_5 : decode cX8_takesCellar 5 = .ok (.iaload, 1) := by decide +kernel
theorem dX8_takesCellar_6 : decode cX8_takesCellar 6 = .ok (.istore_n 1, 1) := by decide +kernel
theorem dX8_takesCellar_7 : decode cX8_takesCellar 7 = .ok (.iload_n 1, 1) := by decide +kernel
theorem dX8_takesCellar_8 : decode cX8_takesCellar 8 = .ok (.iconst 5, 1) := by decide +kernel
theorem dX8_takesCellar_9 : decode cX8_takesCellar 9 = .ok (.if_icmp .ne 5, 3) := by decide +kernel
theorem dX8_takesCellar_12 : decode cX8_takesCellar 12 = .ok (.iconst 0, 1) := by decide +kernel
theorem dX8_takesCellar_13 : decode cX8_takesCellar 13 = .ok (.ireturn, 1) := by decide +kernel
theorem dX8_takesCellar_14 : decode cX8_takesCellar 14 = .ok (.aload_n 0, 1) := by decide +kernel
theorem dX8_takesCellar_15 : decode cX8_takesCellar 15 = .ok (.getfield 26, 3) := by decide +kernel
theorem dX8_takesCellar_18 : decode cX8_takesCellar 18 = .ok (.iconst 0, 1) := by decide +kernel
theorem dX8_takesCellar_19 : decode cX8_takesCellar 19 = .ok (.dup2, 1) := by decide +kernel
theorem dX8_takesCellar_20 : decode cX8_takesCellar 20 = .ok (.iaload, 1) := by decide +kernel
theorem dX8_takesCellar_21 : decode cX8_takesCellar 21 = .ok (.iconst 1, 1) := by decide +kernel
theorem dX8_takesCellar_22 : decode cX8_takesCellar 22 = .ok (.iadd, 1) := by decide +kernel
theorem dX8_takesCellar_23 : decode cX8_takesCellar 23 = .ok (.iastore, 1) := by decide +kernel
theorem dX8_takesCellar_24 : decode cX8_takesCellar 24 = .ok (.aload_n 0, 1) := by decide +kernel
theorem dX8_takesCellar_25 : decode cX8_takesCellar 25 = .ok (.bipush 8, 2) := by decide +kernel
theorem dX8_takesCellar_27 : decode cX8_takesCellar 27 = .ok (.iload_n 1, 1) := by decide +kernel
theorem dX8_takesCellar_28 : decode cX8_takesCellar 28 = .ok (.iadd, 1) := by decide +kernel
theorem dX8_takesCellar_29 : decode cX8_takesCellar 29 = .ok (.iconst 0, 1) := by decide +kernel
theorem dX8_takesCellar_30 : decode cX8_takesCellar 30 = .ok (.iconst 5, 1) := by decide +kernel
theorem dX8_takesCellar_31 : decode cX8_takesCellar 31 = .ok (.invokevirtual 168, 3) := by decide +kernel
theorem dX8_takesCellar_34 : decode cX8_takesCellar 34 = .ok (.ifCond .eq 21, 3) := by decide +kernel
theorem dX8_takesCellar_37 : decode cX8_takesCellar 37 = .ok (.aload_n 0, 1) := by decide +kernel
theorem dX8_takesCellar_38 : decode cX8_takesCellar 38 = .ok (.bipush 13, 2) := by decide +kernel
theorem dX8_takesCellar_40 : decode cX8_takesCellar 40 = .ok (.iload_n 1, 1) := by decide +kernel
theorem dX8_takesCellar_41 : decode cX8_takesCellar 41 = .ok (.iadd, 1) := by decide +kernel
theorem dX8_takesCellar_42 : decode cX8_takesCellar 42 = .ok (.iconst 0, 1) := by decide +kernel
theorem dX8_takesCellar_43 : decode cX8_takesCellar 43 = .ok (.bipush 9, 2) := by decide +kernel
theorem dX8_takesCellar_45 : decode cX8_takesCellar 45 = .ok (.invokevirtual 168, 3) := by decide +kernel
theorem dX8_takesCellar_48 : decode cX8_takesCellar 48 = .ok (.ifCond .eq 7, 3) := by decide +kernel
theorem dX8_takesCellar_51 : decode cX8_takesCellar 51 = .ok (.iconst 1, 1) := by decide +kernel
theorem dX8_takesCellar_52 : decode cX8_takesCellar 52 = .ok (.goto 4, 3) := by decide +kernel
theorem dX8_takesCellar_55 : decode cX8_takesCellar 55 = .ok (.iconst 0, 1) := by decide +kernel
theorem dX8_takesCellar_56 : decode cX8_takesCellar 56 = .ok (.istore_n 2, 1) := by decide +kernel
theorem dX8_takesCellar_57 : decode cX8_takesCellar 57 = .ok (.iload_n 2, 1) := by decide +kernel
theorem dX8_takesCellar_58 : decode cX8_takesCellar 58 = .ok (.ifCond .eq 7, 3) := by decide +kernel
theorem dX8_takesCellar_61 : decode cX8_takesCellar 61 = .ok (.aload_n 0, 1) := by decide +kernel
theorem dX8_takesCellar_62 : decode cX8_takesCellar 62 = .ok (.invokevirtual 165, 3) := by decide +kernel
theorem dX8_takesCellar_65 : decode cX8_takesCellar 65 = .ok (.iconst 1, 1) := by decide +kernel
theorem dX8_takesCellar_66 : decode cX8_takesCellar 66 = .ok (.istore_n 3, 1) := by decide +kernel
theorem dX8_takesCellar_67 : decode cX8_takesCellar 67 = .ok (.iload_n 3, 1) := by decide +kernel
theorem dX8_takesCellar_68 : decode cX8_takesCellar 68 = .ok (.bipush 10, 2) := by decide +kernel
theorem dX8_takesCellar_70 : decode cX8_takesCellar 70 = .ok (.if_icmp .ge 68, 3) := by decide +kernel
theorem dX8_takesCellar_73 : decode cX8_takesCellar 73 = .ok (.iload_n 2, 1) := by decide +kernel
theorem dX8_takesCellar_74 : decode cX8_takesCellar 74 = .ok (.ifCond .eq 64, 3) := by decide +kernel
theorem dX8_takesCellar_77 : decode cX8_takesCellar 77 = .ok (.aload_n 0, 1) := by decide +kernel
theorem dX8_takesCellar_78 : decode cX8_takesCellar 78 = .ok (.getfield 154, 3) := by decide +kernel
theorem dX8_takesCellar_81 : decode cX8_takesCellar 81 = .ok (.iconst 2, 1) := by decide +kernel
theorem dX8_takesCellar_82 : decode cX8_takesCellar 82 = .ok (.if_icmp .ne 56, 3) := by decide +kernel
theorem dX8_takesCellar_85 : decode cX8_takesCellar 85 = .ok (.aload_n 0, 1) := by decide +kernel
theorem dX8_takesCellar_86 : decode cX8_takesCellar 86 = .ok (.getfield 157, 3) := by decide +kernel
theorem dX8_takesCellar_89 : decode cX8_takesCellar 89 = .ok (.i2l, 1) := by decide +kernel
theorem dX8_takesCellar_90 : decode cX8_takesCellar 90 = .ok (.lconst 0, 1) := by decide +kernel
theorem dX8_takesCellar_91 : decode cX8_takesCellar 91 = .ok (.ldc2_w 120, 3) := by decide +kernel
theorem dX8_takesCellar_94 : decode cX8_takesCellar 94 = .ok (.invokestatic 60, 3) := by decide +kernel
theorem dX8_takesCellar_97 : decode cX8_takesCellar 97 = .ok (.istore_n 2, 1) := by decide +kernel
theorem dX8_takesCellar_98 : decode cX8_takesCellar 98 = .ok (.aload_n 0, 1) := by decide +kernel
theorem dX8_takesCellar_99 : decode cX8_takesCellar 99 = .ok (.getfield 26, 3) := by decide +kernel
theorem dX8_takesCellar_102 : decode cX8_takesCellar 102 = .ok (.bipush 18, 2) := by decide +kernel
theorem dX8_takesCellar_104 : decode cX8_takesCellar 104 = .ok (.bipush 10, 2) := by decide +kernel
theorem dX8_takesCellar_106 : decode cX8_takesCellar 106 = .ok (.iload_n 1, 1) := by decide +kernel
theorem dX8_takesCellar_107 : decode cX8_takesCellar 107 = .ok (.imul, 1) := by decide +kernel
theorem dX8_takesCellar_108 : decode cX8_takesCellar 108 = .ok (.iadd, 1) := by decide +kernel
theorem dX8_takesCellar_109 : decode cX8_takesCellar 109 = .ok (.iload_n 3, 1) := by decide +kernel
theorem dX8_takesCellar_110 : decode cX8_takesCellar 110 = .ok (.iadd, 1) := by decide +kernel
theorem dX8_takesCellar_111 : decode cX8_takesCellar 111 = .ok (.iload_n 2, 1) := by decide +kernel
theorem dX8_takesCellar_112 : decode cX8_takesCellar 112 = .ok (.ifCond .eq 10, 3) := by decide +kernel
theorem dX8_takesCellar_115 : decode cX8_takesCellar 115 = .ok (.aload_n 0, 1) := by decide +kernel
theorem dX8_takesCellar_116 : decode cX8_takesCellar 116 = .ok (.getfield 157, 3) := by decide +kernel
theorem dX8_takesCellar_119 : decode cX8_takesCellar 119 = .ok (.goto 4, 3) := by decide +kernel
theorem dX8_takesCellar_122 : decode cX8_takesCellar 122 = .ok (.iconst 0, 1) := by decide +kernel
theorem dX8_takesCellar_123 : decode cX8_takesCellar 123 = .ok (.iastore, 1) := by decide +kernel
theorem dX8_takesCellar_124 : decode cX8_takesCellar 124 = .ok (.iload_n 2, 1) := by decide +kernel
theorem dX8_takesCellar_125 : decode cX8_takesCellar 125 = .ok (.ifCond .eq 7, 3) := by decide +kernel
theorem dX8_takesCellar_128 : decode cX8_takesCellar 128 = .ok (.aload_n 0, 1) := by decide +kernel
theorem dX8_takesCellar_129 : decode cX8_takesCellar 129 = .ok (.invokevirtual 165, 3) := by decide +kernel
theorem dX8_takesCellar_132 : decode cX8_takesCellar 132 = .ok (.iinc 3 1, 3) := by decide +kernel
theorem dX8_takesCellar_135 : decode cX8_takesCellar 135 = .ok (.goto (-68), 3) := by decide +kernel
theorem dX8_takesCellar_138 : decode cX8_takesCellar 138 = .ok (.iload_n 2, 1) := by decide +kernel
theorem dX8_takesCellar_139 : decode cX8_takesCellar 139 = .ok (.ireturn, 1) := by decide +kernel
set_option maxRecDepth 20000 in
theorem dX8_takesSlinger_0 : decode cX8_takesSlinger 0 = .ok (.aload_n 0, 1) := by decide +kernel
theorem dX8_takesSlinger_1 : decode cX8_takesSlinger 1 = .ok (.getfield 26, 3) := by decide +kernel
theorem dX8_takesSlinger_4 : decode cX8_takesSlinger 4 = .ok (.iconst 1, 1) := by decide +kernel
theorem dX8_takesSlinger_5 : decode cX8_takesSlinger 5 = .ok (.iaload, 1) := by decide +kernel
theorem dX8_takesSlinger_6 : decode cX8_takesSlinger 6 = .ok (.istore_n 1, 1) := by decide +kernel
theorem dX8_takesSlinger_7 : decode cX8_takesSlinger 7 = .ok (.iload_n 1, 1) := by decide +kernel
theorem dX8_takesSlinger_8 : decode cX8_takesSlinger 8 = .ok (.bipush 6, 2) := by decide +kernel
theorem dX8_takesSlinger_10 : decode cX8_takesSlinger 10 = .ok (.if_icmp .ne 5, 3) := by decide +kernel
theorem dX8_takesSlinger_13 : decode cX8_takesSlinger 13 = .ok (.iconst 0, 1) := by decide +kernel
theorem dX8_takesSlinger_14 : decode cX8_takesSlinger 14 = .ok (.ireturn, 1) := by decide +kernel
theorem dX8_takesSlinger_15 : decode cX8_takesSlinger 15 = .ok (.aload_n 0, 1) := by decide +kernel
theorem dX8_takesSlinger_16 : decode cX8_takesSlinger 16 = .ok (.getfield 26, 3) := by decide +kernel
theorem dX8_takesSlinger_19 : decode cX8_takesSlinger 19 = .ok (.iconst 1, 1) := by decide +kernel
theorem dX8_takesSlinger_20 : decode cX8_takesSlinger 20 = .ok (.dup2, 1) := by decide +kernel
theorem dX8_takesSlinger_21 : decode cX8_takesSlinger 21 = .ok (.iaload, 1) := by decide +kernel
theorem dX8_takesSlinger_22 : decode cX8_takesSlinger 22 = .ok (.iconst 1, 1) := by decide +kernel
theorem dX8_takesSlinger_23 : decode cX8_takesSlinger 23 = .ok (.iadd, 1) := by decide +kernel
theorem dX8_takesSlinger_24 : decode cX8_takesSlinger 24 = .ok (.iastore, 1) := by decide +kernel
theorem dX8_takesSlinger_25 : decode cX8_takesSlinger 25 = .ok (.aload_n 0, 1) := by decide +kernel
theorem dX8_takesSlinger_26 : decode cX8_takesSlinger 26 = .ok (.bipush 68, 2) := by decide +kernel
theorem dX8_takesSlinger_28 : decode cX8_takesSlinger 28 = .ok (.iload_n 1, 1) := by decide +kernel
theorem dX8_takesSlinger_29 : decode cX8_takesSlinger 29 = .ok (.iadd, 1) := by decide +kernel
theorem dX8_takesSlinger_30 : decode cX8_takesSlinger 30 = .ok (.iconst 0, 1) := by decide +kernel
theorem dX8_takesSlinger_31 : decode cX8_takesSlinger 31 = .ok (.iconst 5, 1) := by decide +kernel
theorem dX8_takesSlinger_32 : decode cX8_takesSlinger 32 = .ok (.invokevirtual 168, 3) := by decide +kernel
theorem dX8_takesSlinger_35 : decode cX8_takesSlinger 35 = .ok (.ifCond .eq 21, 3) := by decide +kernel
theorem dX8_takesSlinger_38 : decode cX8_takesSlinger 38 = .ok (.aload_n 0, 1) := by decide +kernel
theorem dX8_takesSlinger_39 : decode cX8_takesSlinger 39 = .ok (.bipush 74, 2) := by decide +kernel
theorem dX8_takesSlinger_41 : decode cX8_takesSlinger 41 = .ok (.iload_n 1, 1) := by decide +kernel
theorem dX8_takesSlinger_42 : decode cX8_takesSlinger 42 = .ok (.iadd, 1) := by decide +kernel
theorem dX8_takesSlinger_43 : decode cX8_takesSlinger 43 = .ok (.iconst 0, 1) := by decide +kernel
theorem dX8_takesSlinger_44 : decode cX8_takesSlinger 44 = .ok (.bipush 9, 2) := by decide +kernel
theorem dX8_takesSlinger_46 : decode cX8_takesSlinger 46 = .ok (.invokevirtual 168, 3) := by decide +kernel
theorem dX8_takesSlinger_49 : decode cX8_takesSlinger 49 = .ok (.ifCond .eq 7, 3) := by decide +kernel
theorem dX8_takesSlinger_52 : decode cX8_takesSlinger 52 = .ok (.iconst 1, 1) := by decide +kernel
theorem dX8_takesSlinger_53 : decode cX8_takesSlinger 53 = .ok (.goto 4, 3) := by decide +kernel
theorem dX8_takesSlinger_56 : decode cX8_takesSlinger 56 = .ok (.iconst 0, 1) := by decide +kernel
theorem dX8_takesSlinger_57 : decode cX8_takesSlinger 57 = .ok (.ireturn, 1) := by decide +kernel
set_option maxRecDepth 20000 in
theorem dX8_takesCloud_0 : decode cX8_takesCloud 0 = .ok (.aload_n 0, 1) := by decide +kernel
theorem dX8_takesCloud_1 : decode cX8_takesCloud 1 = .ok (.getfield 26, 3) := by decide +kernel
theorem dX8_takesCloud_4 : decode cX8_takesCloud 4 = .ok (.iconst 2, 1) := by decide +kernel
theorem dX8_takesCloud_5 : decode cX8_takesCloud 5 = .ok (.iaload, 1) := by decide +kernel
theorem dX8_takesCloud_6 : decode cX8_takesCloud 6 = .ok (.istore_n 1, 1) := by decide +kernel
theorem dX8_takesCloud_7 : decode cX8_takesCloud 7 = .ok (.iload_n 1, 1) := by decide +kernel
theorem dX8_takesCloud_8 : decode cX8_takesCloud 8 = .ok (.iconst 4, 1) := by decide +kernel
theorem dX8_takesCloud_9 : decode cX8_takesCloud 9 = .ok (.if_icmp .ne 5, 3) := by decide +kernel
theorem dX8_takesCloud_12 : decode cX8_takesCloud 12 = .ok (.iconst 0, 1) := by decide +kernel
theorem dX8_takesCloud_13 : decode cX8_takesCloud 13 = .ok (.ireturn, 1) := by decide +kernel
theorem dX8_takesCloud_14 : decode cX8_takesCloud 14 = .ok (.aload_n 0, 1) := by decide +kernel
theorem dX8_takesCloud_15 : decode cX8_takesCloud 15 = .ok (.getfield 26, 3) := by decide +kernel
theorem dX8_takesCloud_18 : decode cX8_takesCloud 18 = .ok (.iconst 2, 1) := by decide +kernel
theorem dX8_takesCloud_19 : decode cX8_takesCloud 19 = .ok (.dup2, 1) := by decide +kernel
theorem dX8_takesCloud_20 : decode cX8_takesCloud 20 = .ok (.iaload, 1) := by decide +kernel
theorem dX8_takesCloud_21 : decode cX8_takesCloud 21 = .ok (.iconst 1, 1) := by decide +kernel
theorem dX8_takesCloud_22 : decode cX8_takesCloud 22 = .ok (.iadd, 1) := by decide +kernel
theorem dX8_takesCloud_23 : decode cX8_takesCloud 23 = .ok (.iastore, 1) := by decide +kernel
theorem dX8_takesCloud_24 : decode cX8_takesCloud 24 = .ok (.aload_n 0, 1) := by decide +kernel
theorem dX8_takesCloud_25 : decode cX8_takesCloud 25 = .ok (.bipush 80, 2) := by decide +kernel
theorem dX8_takesCloud_27 : decode cX8_takesCloud 27 = .ok (.iload_n 1, 1) := by decide +kernel
theorem dX8_takesCloud_28 : decode cX8_takesCloud 28 = .ok (.iadd, 1) := by decide +kernel
theorem dX8_takesCloud_29 : decode cX8_takesCloud 29 = .ok (.iconst 1, 1) := by decide +kernel
theorem dX8_takesCloud_30 : decode cX8_takesCloud 30 = .ok (.bipush 30, 2) := by decide +kernel
theorem dX8_takesCloud_32 : decode cX8_takesCloud 32 = .ok (.invokevirtual 168, 3) := by decide +kernel
theorem dX8_takesCloud_35 : decode cX8_takesCloud 35 = .ok (.ifCond .eq 21, 3) := by decide +kernel
theorem dX8_takesCloud_38 : decode cX8_takesCloud 38 = .ok (.aload_n 0, 1) := by decide +kernel
theorem dX8_takesCloud_39 : decode cX8_takesCloud 39 = .ok (.bipush 84, 2) := by decide +kernel
theorem dX8_takesCloud_41 : decode cX8_takesCloud 41 = .ok (.iload_n 1, 1) := by decide +kernel
theorem dX8_takesCloud_42 : decode cX8_takesCloud 42 = .ok (.iadd, 1) := by decide +kernel
theorem dX8_takesCloud_43 : decode cX8_takesCloud 43 = .ok (.iconst 1, 1) := by decide +kernel
theorem dX8_takesCloud_44 : decode cX8_takesCloud 44 = .ok (.bipush 40, 2) := by decide +kernel
theorem dX8_takesCloud_46 : decode cX8_takesCloud 46 = .ok (.invokevirtual 168, 3) := by decide +kernel
theorem dX8_takesCloud_49 : decode cX8_takesCloud 49 = .ok (.ifCond .eq 7, 3) := by decide +kernel
theorem dX8_takesCloud_52 : decode cX8_takesCloud 52 = .ok (.iconst 1, 1) := by decide +kernel
theorem dX8_takesCloud_53 : decode cX8_takesCloud 53 = .ok (.goto 4, 3) := by decide +kernel
theorem dX8_takesCloud_56 : decode cX8_takesCloud 56 = .ok (.iconst 0, 1) := by decide +kernel
theorem dX8_takesCloud_57 : decode cX8_takesCloud 57 = .ok (.ireturn, 1) := by decide +kernel
set_option maxRecDepth 20000 in
theorem dX8_takesWeeks_0 : decode cX8_takesWeeks 0 = .ok (.aload_n 0, 1) := by decide +kernel
theorem dX8_takesWeeks_1 : decode cX8_takesWeeks 1 = .ok (.invokevirtual 165, 3) := by decide +kernel
theorem dX8_takesWeeks_4 : decode cX8_takesWeeks 4 = .ok (.aload_n 0, 1) := by decide +kernel
theorem dX8_takesWeeks_5 : decode cX8_takesWeeks 5 = .ok (.getfield 154, 3) := by decide +kernel
theorem dX8_takesWeeks_8 : decode cX8_takesWeeks 8 = .ok (.iconst 2, 1) := by decide +kernel
theorem dX8_takesWeeks_9 : decode cX8_takesWeeks 9 = .ok (.if_icmp .ne 22, 3) := by decide +kernel
theorem dX8_takesWeeks_12 : decode cX8_takesWeeks 12 = .ok (.aload_n 0, 1) := by decide +kernel
theorem dX8_takesWeeks_13 : decode cX8_takesWeeks 13 = .ok (.getfield 157, 3) := by decide +kernel
theorem dX8_takesWeeks_16 : decode cX8_takesWeeks 16 = .ok (.i2l, 1) := by decide +kernel
theorem dX8_takesWeeks_17 : decode cX8_takesWeeks 17 = .ok (.lconst 1, 1) := by decide +kernel
theorem dX8_takesWeeks_18 : decode cX8_takesWeeks 18 = .ok (.ldc2_w 120, 3) := by decide +kernel
theorem dX8_takesWeeks_21 : decode cX8_takesWeeks 21 = .ok (.invokestatic 60, 3) := by decide +kernel
theorem dX8_takesWeeks_24 : decode cX8_takesWeeks 24 = .ok (.ifCond .eq 7, 3) := by decide +kernel
theorem dX8_takesWeeks_27 : decode cX8_takesWeeks 27 = .ok (.iconst 1, 1) := by decide +kernel
theorem dX8_takesWeeks_28 : decode cX8_takesWeeks 28 = .ok (.goto 4, 3) := by decide +kernel
theorem dX8_takesWeeks_31 : decode cX8_takesWeeks 31 = .ok (.iconst 0, 1) := by decide +kernel
theorem dX8_takesWeeks_32 : decode cX8_takesWeeks 32 = .ok (.istore_n 1, 1) := by decide +kernel
theorem dX8_takesWeeks_33 : decode cX8_takesWeeks 33 = .ok (.iconst 0, 1) := by decide +kernel
theorem dX8_takesWeeks_34 : decode cX8_takesWeeks 34 = .ok (.istore_n 2, 1) := by decide +kernel
theorem dX8_takesWeeks_35 : decode cX8_takesWeeks 35 = .ok (.iload_n 1, 1) := by decide +kernel
theorem dX8_takesWeeks_36 : decode cX8_takesWeeks 36 = .ok (.ifCond .eq 36, 3) := by decide +kernel
theorem dX8_takesWeeks_39 : decode cX8_takesWeeks 39 = .ok (.iload_n 2, 1) := by decide +kernel
theorem dX8_takesWeeks_40 : decode cX8_takesWeeks 40 = .ok (.aload_n 0, 1) := by decide +kernel
theorem dX8_takesWeeks_41 : decode cX8_takesWeeks 41 = .ok (.getfield 157, 3) := by decide +kernel
theorem dX8_takesWeeks_44 : decode cX8_takesWeeks 44 = .ok (.if_icmp .ge 28, 3) := by decide +kernel
theorem dX8_takesWeeks_47 : decode cX8_takesWeeks 47 = .ok (.aload_n 0, 1) := by decide +kernel
theorem dX8_takesWeeks_48 : decode cX8_takesWeeks 48 = .ok (.getfield 26, 3) := by decide +kernel
theorem dX8_takesWeeks_51 : decode cX8_takesWeeks 51 = .ok (.iconst 3, 1) := by decide +kernel
theorem dX8_takesWeeks_52 : decode cX8_takesWeeks 52 = .ok (.iaload, 1) := by decide +kernel
theorem dX8_takesWeeks_53 : decode cX8_takesWeeks 53 = .ok (.sipush 999, 3) := by decide +kernel
theorem dX8_takesWeeks_56 : decode cX8_takesWeeks 56 = .ok (.if_icmp .ge 16, 3) := by decide +kernel
theorem dX8_takesWeeks_59 : decode cX8_takesWeeks 59 = .ok (.aload_n 0, 1) := by decide +kernel
theorem dX8_takesWeeks_60 : decode cX8_takesWeeks 60 = .ok (.getfield 26, 3) := by decide +kernel
theorem dX8_takesWeeks_63 : decode cX8_takesWeeks 63 = .ok (.invokestatic 172, 3) := by decide +kernel
theorem dX8_takesWeeks_66 : decode cX8_takesWeeks 66 = .ok (.iinc 2 1, 3) := by decide +kernel
theorem dX8_takesWeeks_69 : decode cX8_takesWeeks 69 = .ok (.goto (-34), 3) := by decide +kernel
theorem dX8_takesWeeks_72 : decode cX8_takesWeeks 72 = .ok (.iload_n 1, 1) := by decide +kernel
theorem dX8_takesWeeks_73 : decode cX8_takesWeeks 73 = .ok (.ireturn, 1) := by decide +kernel
set_option maxRecDepth 20000 in
theorem dX8_takesItem_0 : decode cX8_takesItem 0 = .ok (.aload_n 0, 1) := by decide +kernel
theorem dX8_takesItem_1 : decode cX8_takesItem 1 = .ok (.invokevirtual 176, 3) := by decide +kernel
theorem dX8_takesItem_4 : decode cX8_takesItem 4 = .ok (.lstore_n 1, 1) := by decide +kernel
theorem dX8_takesItem_5 : decode cX8_takesItem 5 = .ok (.aload_n 0, 1) := by decide +kernel
theorem dX8_takesItem_6 : decode cX8_takesItem 6 = .ok (.getfield 180, 3) := by decide +kernel
theorem dX8_takesItem_9 : decode cX8_takesItem 9 = .ok (.ifCond .ne 7, 3) := by decide +kernel
theorem dX8_takesItem_12 : decode cX8_takesItem 12 = .ok (.iconst 1, 1) := by decide +kernel
theorem dX8_takesItem_13 : decode cX8_takesItem 13 = .ok (.goto 4, 3) := by decide +kernel
theorem dX8_takesItem_16 : decode cX8_takesItem 16 = .ok (.iconst 0, 1) := by decide +kernel
theorem dX8_takesItem_17 : decode cX8_takesItem 17 = .ok (.istore_n 3, 1) := by decide +kernel
theorem dX8_takesItem_18 : decode cX8_takesItem 18 = .ok (.aload_n 0, 1) := by decide +kernel
theorem dX8_takesItem_19 : decode cX8_takesItem 19 = .ok (.getfield 154, 3) := by decide +kernel
theorem dX8_takesItem_22 : decode cX8_takesItem 22 = .ok (.iconst 1, 1) := by decide +kernel
theorem dX8_takesItem_23 : decode cX8_takesItem 23 = .ok (.if_icmp .ne 20, 3) := by decide +kernel
theorem dX8_takesItem_26 : decode cX8_takesItem 26 = .ok (.iload_n 3, 1) := by decide +kernel
theorem dX8_takesItem_27 : decode cX8_takesItem 27 = .ok (.lload_n 1, 1) := by decide +kernel
theorem dX8_takesItem_28 : decode cX8_takesItem 28 = .ok (.ldc2_w 183, 3) := by decide +kernel
theorem dX8_takesItem_31 : decode cX8_takesItem 31 = .ok (.lcmp, 1) := by decide +kernel
theorem dX8_takesItem_32 : decode cX8_takesItem 32 = .ok (.ifCond .ne 7, 3) := by decide +kernel
theorem dX8_takesItem_35 : decode cX8_takesItem 35 = .ok (.iconst 1, 1) := by decide +kernel
theorem dX8_takesItem_36 : decode cX8_takesItem 36 = .ok (.goto 4, 3) := by decide +kernel
theorem dX8_takesItem_39 : decode cX8_takesItem 39 = .ok (.iconst 0, 1) := by decide +kernel
theorem dX8_takesItem_40 : decode cX8_takesItem 40 = .ok (.if_icmp .eq 5, 3) := by decide +kernel
theorem dX8_takesItem_43 : decode cX8_takesItem 43 = .ok (.iconst 0, 1) := by decide +kernel
theorem dX8_takesItem_44 : decode cX8_takesItem 44 = .ok (.ireturn, 1) := by decide +kernel
theorem dX8_takesItem_45 : decode cX8_takesItem 45 = .ok (.iload_n 3, 1) := by decide +kernel
theorem dX8_takesItem_46 : decode cX8_takesItem 46 = .ok (.ifCond .eq 41, 3) := by decide +kernel
theorem dX8_takesItem_49 : decode cX8_takesItem 49 = .ok (.aload_n 0, 1) := by decide +kernel
theorem dX8_takesItem_50 : decode cX8_takesItem 50 = .ok (.iconst 4, 1) := by decide +kernel
theorem dX8_takesItem_51 : decode cX8_takesItem 51 = .ok (.iconst 0, 1) := by decide +kernel
theorem dX8_takesItem_52 : decode cX8_takesItem 52 = .ok (.bipush 9, 2) := by decide +kernel
theorem dX8_takesItem_54 : decode cX8_takesItem 54 = .ok (.invokevirtual 168, 3) := by decide +kernel
theorem dX8_takesItem_57 : decode cX8_takesItem 57 = .ok (.istore 4, 2) := by decide +kernel
theorem dX8_takesItem_59 : decode cX8_takesItem 59 = .ok (.iload 4, 2) := by decide +kernel
theorem dX8_takesItem_61 : decode cX8_takesItem 61 = .ok (.ifCond .eq 7, 3) := by decide +kernel
theorem dX8_takesItem_64 : decode cX8_takesItem 64 = .ok (.aload_n 0, 1) := by decide +kernel
theorem dX8_takesItem_65 : decode cX8_takesItem 65 = .ok (.invokevirtual 165, 3) := by decide +kernel
theorem dX8_takesItem_68 : decode cX8_takesItem 68 = .ok (.iload 4, 2) := by decide +kernel
theorem dX8_takesItem_70 : decode cX8_takesItem 70 = .ok (.ifCond .eq 15, 3) := by decide +kernel
theorem dX8_takesItem_73 : decode cX8_takesItem 73 = .ok (.aload_n 0, 1) := by decide +kernel
theorem dX8_takesItem_74 : decode cX8_takesItem 74 = .ok (.getfield 154, 3) := by decide +kernel
theorem dX8_takesItem_77 : decode cX8_takesItem 77 = .ok (.iconst 3, 1) := by decide +kernel
theorem dX8_takesItem_78 : decode cX8_takesItem 78 = .ok (.if_icmp .ne 7, 3) := by decide +kernel
theorem dX8_takesItem_81 : decode cX8_takesItem 81 = .ok (.iconst 1, 1) := by decide +kernel
theorem dX8_takesItem_82 : decode cX8_takesItem 82 = .ok (.goto 4, 3) := by decide +kernel
theorem dX8_takesItem_85 : decode cX8_takesItem 85 = .ok (.iconst 0, 1) := by decide +kernel
theorem dX8_takesItem_86 : decode cX8_takesItem 86 = .ok (.ireturn, 1) := by decide +kernel
theorem dX8_takesItem_87 : decode cX8_takesItem 87 = .ok (.lload_n 1, 1) := by decide +kernel
theorem dX8_takesItem_88 : decode cX8_takesItem 88 = .ok (.ldc2_w 185, 3) := by decide +kernel
theorem dX8_takesItem_91 : decode cX8_takesItem 91 = .ok (.lcmp, 1) := by decide +kernel
theorem dX8_takesItem_92 : decode cX8_takesItem 92 = .ok (.ifCond .ne 24, 3) := by decide +kernel
theorem dX8_takesItem_95 : decode cX8_takesItem 95 = .ok (.aload_n 0, 1) := by decide +kernel
theorem dX8_takesItem_96 : decode cX8_takesItem 96 = .ok (.invokevirtual 187, 3) := by decide +kernel
theorem dX8_takesItem_99 : decode cX8_takesItem 99 = .ok (.ifCond .eq 15, 3) := by decide +kernel
theorem dX8_takesItem_102 : decode cX8_takesItem 102 = .ok (.aload_n 0, 1) := by decide +kernel
theorem dX8_takesItem_103 : decode cX8_takesItem 103 = .ok (.getfield 154, 3) := by decide +kernel
theorem dX8_takesItem_106 : decode cX8_takesItem 106 = .ok (.iconst 3, 1) := by decide +kernel
theorem dX8_takesItem_107 : decode cX8_takesItem 107 = .ok (.if_icmp .ne 7, 3) := by decide +kernel
theorem dX8_takesItem_110 : decode cX8_takesItem 110 = .ok (.iconst 1, 1) := by decide +kernel
theorem dX8_takesItem_111 : decode cX8_takesItem 111 = .ok (.goto 4, 3) := by decide +kernel
theorem dX8_takesItem_114 : decode cX8_takesItem 114 = .ok (.iconst 0, 1) := by decide +kernel
theorem dX8_takesItem_115 : decode cX8_takesItem 115 = .ok (.ireturn, 1) := by decide +kernel
theorem dX8_takesItem_116 : decode cX8_takesItem 116 = .ok (.lload_n 1, 1) := by decide +kernel
theorem dX8_takesItem_117 : decode cX8_takesItem 117 = .ok (.ldc2_w 191, 3) := by decide +kernel
theorem dX8_takesItem_120 : decode cX8_takesItem 120 = .ok (.lcmp, 1) := by decide +kernel
theorem dX8_takesItem_121 : decode cX8_takesItem 121 = .ok (.ifCond .ne 10, 3) := by decide +kernel
theorem dX8_takesItem_124 : decode cX8_takesItem 124 = .ok (.aload_n 0, 1) := by decide +kernel
theorem dX8_takesItem_125 : decode cX8_takesItem 125 = .ok (.invokevirtual 193, 3) := by decide +kernel
theorem dX8_takesItem_128 : decode cX8_takesItem 128 = .ok (.goto 38, 3) := by decide +kernel
theorem dX8_takesItem_131 : decode cX8_takesItem 131 = .ok (.lload_n 1, 1) := by decide +kernel
theorem dX8_takesItem_132 : decode cX8_takesItem 132 = .ok (.ldc2_w 196, 3) := by decide +kernel
theorem dX8_takesItem_135 : decode cX8_takesItem 135 = .ok (.lcmp, 1) := by decide +kernel
theorem dX8_takesItem_136 : decode cX8_takesItem 136 = .ok (.ifCond .ne 10, 3) := by decide +kernel
theorem dX8_takesItem_139 : decode cX8_takesItem 139 = .ok (.aload_n 0, 1) := by decide +kernel
theorem dX8_takesItem_140 : decode cX8_takesItem 140 = .ok (.invokevirtual 198, 3) := by decide +kernel
theorem dX8_takesItem_143 : decode cX8_takesItem 143 = .ok (.goto 23, 3) := by decide +kernel
theorem dX8_takesItem_146 : decode cX8_takesItem 146 = .ok (.lload_n 1, 1) := by decide +kernel
theorem dX8_takesItem_147 : decode cX8_takesItem 147 = .ok (.ldc2_w 201, 3) := by decide +kernel
theorem dX8_takesItem_150 : decode cX8_takesItem 150 = .ok (.lcmp, 1) := by decide +kernel
theorem dX8_takesItem_151 : decode cX8_takesItem 151 = .ok (.ifCond .ne 14, 3) := by decide +kernel
theorem dX8_takesItem_154 : decode cX8_takesItem 154 = .ok (.aload_n 0, 1) := by decide +kernel
theorem dX8_takesItem_155 : decode cX8_takesItem 155 = .ok (.invokevirtual 203, 3) := by decide +kernel
theorem dX8_takesItem_158 : decode cX8_takesItem 158 = .ok (.ifCond .eq 7, 3) := by decide +kernel
theorem dX8_takesItem_161 : decode cX8_takesItem 161 = .ok (.iconst 1, 1) := by decide +kernel
theorem dX8_takesItem_162 : decode cX8_takesItem 162 = .ok (.goto 4, 3) := by decide +kernel
theorem dX8_takesItem_165 : decode cX8_takesItem 165 = .ok (.iconst 0, 1) := by decide +kernel
theorem dX8_takesItem_166 : decode cX8_takesItem 166 = .ok (.istore 4, 2) := by decide +kernel
theorem dX8_takesItem_168 : decode cX8_takesItem 168 = .ok (.iload 4, 2) := by decide +kernel
theorem dX8_takesItem_170 : decode cX8_takesItem 170 = .ok (.ifCond .eq 7, 3) := by decide +kernel
theorem dX8_takesItem_173 : decode cX8_takesItem 173 = .ok (.aload_n 0, 1) := by decide +kernel
theorem dX8_takesItem_174 : decode cX8_takesItem 174 = .ok (.invokevirtual 165, 3) := by decide +kernel
theorem dX8_takesItem_177 : decode cX8_takesItem 177 = .ok (.iload 4, 2) := by decide +kernel
theorem dX8_takesItem_179 : decode cX8_takesItem 179 = .ok (.ifCond .eq 15, 3) := by decide +kernel
theorem dX8_takesItem_182 : decode cX8_takesItem 182 = .ok (.aload_n 0, 1) := by decide +kernel
theorem dX8_takesItem_183 : decode cX8_takesItem 183 = .ok (.getfield 154, 3) := by decide +kernel
theorem dX8_takesItem_186 : decode cX8_takesItem 186 = .ok (.iconst 3, 1) := by decide +kernel
theorem dX8_takesItem_187 : decode cX8_takesItem 187 = .ok (.if_icmp .ne 7, 3) := by decide +kernel
theorem dX8_takesItem_190 : decode cX8_takesItem 190 = .ok (.iconst 1, 1) := by decide +kernel
theorem dX8_takesItem_191 : decode cX8_takesItem 191 = .ok (.goto 4, 3) := by decide +kernel
theorem dX8_takesItem_194 : decode cX8_takesItem 194 = .ok (.iconst 0, 1) := by decide +kernel
theorem dX8_takesItem_195 : decode cX8_takesItem 195 = .ok (.ireturn, 1) := by decide +kernel
set_option maxRecDepth 20000 in
theorem dX8_read_0 : decode cX8_read 0 = .ok (.iconst 0, 1) := by decide +kernel
theorem dX8_read_1 : decode cX8_read 1 = .ok (.istore_n 1, 1) := by decide +kernel
theorem dX8_read_2 : decode cX8_read 2 = .ok (.iload_n 1, 1) := by decide +kernel
theorem dX8_read_3 : decode cX8_read 3 = .ok (.sipush 168, 3) := by decide +kernel
theorem dX8_read_6 : decode cX8_read 6 = .ok (.if_icmp .ge 16, 3) := by decide +kernel
theorem dX8_read_9 : decode cX8_read 9 = .ok (.aload_n 0, 1) := by decide +kernel
theorem dX8_read_10 : decode cX8_read 10 = .ok (.getfield 26, 3) := by decide +kernel
theorem dX8_read_13 : decode cX8_read 13 = .ok (.iload_n 1, 1) := by decide +kernel
theorem dX8_read_14 : decode cX8_read 14 = .ok (.iconst 0, 1) := by decide +kernel
theorem dX8_read_15 : decode cX8_read 15 = .ok (.iastore, 1) := by decide +kernel
theorem dX8_read_16 : decode cX8_read 16 = .ok (.iinc 1 1, 3) := by decide +kernel
theorem dX8_read_19 : decode cX8_read 19 = .ok (.goto (-17), 3) := by decide +kernel
theorem dX8_read_22 : decode cX8_read 22 = .ok (.aload_n 0, 1) := by decide +kernel
theorem dX8_read_23 : decode cX8_read 23 = .ok (.iconst 0, 1) := by decide +kernel
theorem dX8_read_24 : decode cX8_read 24 = .ok (.putfield 180, 3) := by decide +kernel
theorem dX8_read_27 : decode cX8_read 27 = .ok (.aload_n 0, 1) := by decide +kernel
theorem dX8_read_28 : decode cX8_read 28 = .ok (.iconst 0, 1) := by decide +kernel
theorem dX8_read_29 : decode cX8_read 29 = .ok (.putfield 139, 3) := by decide +kernel
theorem dX8_read_32 : decode cX8_read 32 = .ok (.aload_n 0, 1) := by decide +kernel
theorem dX8_read_33 : decode cX8_read 33 = .ok (.invokevirtual 165, 3) := by decide +kernel
theorem dX8_read_36 : decode cX8_read 36 = .ok (.aload_n 0, 1) := by decide +kernel
theorem dX8_read_37 : decode cX8_read 37 = .ok (.getfield 154, 3) := by decide +kernel
theorem dX8_read_40 : decode cX8_read 40 = .ok (.ifCond .eq 7, 3) := by decide +kernel
theorem dX8_read_43 : decode cX8_read 43 = .ok (.iconst 1, 1) := by decide +kernel
theorem dX8_read_44 : decode cX8_read 44 = .ok (.goto 4, 3) := by decide +kernel
theorem dX8_read_47 : decode cX8_read 47 = .ok (.iconst 0, 1) := by decide +kernel
theorem dX8_read_48 : decode cX8_read 48 = .ok (.istore_n 1, 1) := by decide +kernel
theorem dX8_read_49 : decode cX8_read 49 = .ok (.iload_n 1, 1) := by decide +kernel
theorem dX8_read_50 : decode cX8_read 50 = .ok (.ifCond .eq 36, 3) := by decide +kernel
theorem dX8_read_53 : decode cX8_read 53 = .ok (.aload_n 0, 1) := by decide +kernel
theorem dX8_read_54 : decode cX8_read 54 = .ok (.getfield 154, 3) := by decide +kernel
theorem dX8_read_57 : decode cX8_read 57 = .ok (.ifCond .eq 29, 3) := by decide +kernel
theorem dX8_read_60 : decode cX8_read 60 = .ok (.aload_n 0, 1) := by decide +kernel
theorem dX8_read_61 : decode cX8_read 61 = .ok (.invokevirtual 206, 3) := by decide +kernel
theorem dX8_read_64 : decode cX8_read 64 = .ok (.istore_n 1, 1) := by decide +kernel
theorem dX8_read_65 : decode cX8_read 65 = .ok (.iload_n 1, 1) := by decide +kernel
theorem dX8_read_66 : decode cX8_read 66 = .ok (.ifCond .eq (-17), 3) := by decide +kernel
theorem dX8_read_69 : decode cX8_read 69 = .ok (.aload_n 0, 1) := by decide +kernel
theorem dX8_read_70 : decode cX8_read 70 = .ok (.dup, 1) := by decide +kernel
theorem dX8_read_71 : decode cX8_read 71 = .ok (.getfield 180, 3) := by decide +kernel
theorem dX8_read_74 : decode cX8_read 74 = .ok (.iconst 1, 1) := by decide +kernel
theorem dX8_read_75 : decode cX8_read 75 = .ok (.iadd, 1) := by decide +kernel
theorem dX8_read_76 : decode cX8_read 76 = .ok (.putfield 180, 3) := by decide +kernel
theorem dX8_read_79 : decode cX8_read 79 = .ok (.aload_n 0, 1) := by decide +kernel
theorem dX8_read_80 : decode cX8_read 80 = .ok (.invokevirtual 165, 3) := by decide +kernel
theorem dX8_read_83 : decode cX8_read 83 = .ok (.goto (-34), 3) := by decide +kernel
theorem dX8_read_86 : decode cX8_read 86 = .ok (.iload_n 1, 1) := by decide +kernel
theorem dX8_read_87 : decode cX8_read 87 = .ok (.ifCond .ne 11, 3) := by decide +kernel
theorem dX8_read_90 : decode cX8_read 90 = .ok (.bipush (-10), 2) := by decide +kernel
theorem dX8_read_92 : decode cX8_read 92 = .ok (.aload_n 0, 1) := by decide +kernel
theorem dX8_read_93 : decode cX8_read 93 = .ok (.getfield 142, 3) := by decide +kernel
theorem dX8_read_96 : decode cX8_read 96 = .ok (.isub, 1) := by decide +kernel
theorem dX8_read_97 : decode cX8_read 97 = .ok (.ireturn, 1) := by decide +kernel
theorem dX8_read_98 : decode cX8_read 98 = .ok (.iconst 0, 1) := by decide +kernel
theorem dX8_read_99 : decode cX8_read 99 = .ok (.istore_n 2, 1) := by decide +kernel
theorem dX8_read_100 : decode cX8_read 100 = .ok (.iload_n 2, 1) := by decide +kernel
theorem dX8_read_101 : decode cX8_read 101 = .ok (.sipush 168, 3) := by decide +kernel
theorem dX8_read_104 : decode cX8_read 104 = .ok (.if_icmp .ge 21, 3) := by decide +kernel
theorem dX8_read_107 : decode cX8_read 107 = .ok (.aload_n 0, 1) := by decide +kernel
theorem dX8_read_108 : decode cX8_read 108 = .ok (.getfield 7, 3) := by decide +kernel
theorem dX8_read_111 : decode cX8_read 111 = .ok (.iload_n 2, 1) := by decide +kernel
theorem dX8_read_112 : decode cX8_read 112 = .ok (.aload_n 0, 1) := by decide +kernel
theorem dX8_read_113 : decode cX8_read 113 = .ok (.getfield 26, 3) := by decide +kernel
theorem dX8_read_116 : decode cX8_read 116 = .ok (.iload_n 2, 1) := by decide +kernel
theorem dX8_read_117 : decode cX8_read 117 = .ok (.iaload, 1) := by decide +kernel
theorem dX8_read_118 : decode cX8_read 118 = .ok (.iastore, 1) := by decide +kernel
theorem dX8_read_119 : decode cX8_read 119 = .ok (.iinc 2 1, 3) := by decide +kernel
theorem dX8_read_122 : decode cX8_read 122 = .ok (.goto (-22), 3) := by decide +kernel
theorem dX8_read_125 : decode cX8_read 125 = .ok (.aload_n 0, 1) := by decide +kernel
theorem dX8_read_126 : decode cX8_read 126 = .ok (.iconst 0, 1) := by decide +kernel
theorem dX8_read_127 : decode cX8_read 127 = .ok (.putfield 94, 3) := by decide +kernel
theorem dX8_read_130 : decode cX8_read 130 = .ok (.aload_n 0, 1) := by decide +kernel
theorem dX8_read_131 : decode cX8_read 131 = .ok (.getfield 180, 3) := by decide +kernel
theorem dX8_read_134 : decode cX8_read 134 = .ok (.ireturn, 1) := by decide +kernel
set_option maxRecDepth 20000 in
theorem dX8_week_0 : decode cX8_week 0 = .ok (.iload_n 1, 1) := by decide +kernel
theorem dX8_week_1 : decode cX8_week 1 = .ok (.i2l, 1) := by decide +kernel
theorem dX8_week_2 : decode cX8_week 2 = .ok (.lconst 1, 1) := by decide +kernel
theorem dX8_week_3 : decode cX8_week 3 = .ok (.ldc2_w 209, 3) := by decide +kernel
theorem dX8_week_6 : decode cX8_week 6 = .ok (.invokestatic 60, 3) := by decide +kernel
theorem dX8_week_9 : decode cX8_week 9 = .ok (.ifCond .ne 8, 3) := by decide +kernel
theorem dX8_week_12 : decode cX8_week 12 = .ok (.aload_n 0, 1) := by decide +kernel
theorem dX8_week_13 : decode cX8_week 13 = .ok (.invokevirtual 103, 3) := by decide +kernel
theorem dX8_week_16 : decode cX8_week 16 = .ok (.ireturn, 1) := by decide +kernel
theorem dX8_week_17 : decode cX8_week 17 = .ok (.aload_n 0, 1) := by decide +kernel
theorem dX8_week_18 : decode cX8_week 18 = .ok (.invokevirtual 211, 3) := by decide +kernel
theorem dX8_week_21 : decode cX8_week 21 = .ok (.iconst 0, 1) := by decide +kernel
theorem dX8_week_22 : decode cX8_week 22 = .ok (.istore_n 2, 1) := by decide +kernel
theorem dX8_week_23 : decode cX8_week 23 = .ok (.iload_n 2, 1) := by decide +kernel
theorem dX8_week_24 : decode cX8_week 24 = .ok (.iload_n 1, 1) := by decide +kernel
theorem dX8_week_25 : decode cX8_week 25 = .ok (.if_icmp .ge 28, 3) := by decide +kernel
theorem dX8_week_28 : decode cX8_week 28 = .ok (.aload_n 0, 1) := by decide +kernel
theorem dX8_week_29 : decode cX8_week 29 = .ok (.getfield 7, 3) := by decide +kernel
theorem dX8_week_32 : decode cX8_week 32 = .ok (.iconst 3, 1) := by decide +kernel
theorem dX8_week_33 : decode cX8_week 33 = .ok (.iaload, 1) := by decide +kernel
theorem dX8_week_34 : decode cX8_week 34 = .ok (.sipush 999, 3) := by decide +kernel
theorem dX8_week_37 : decode cX8_week 37 = .ok (.if_icmp .ge 16, 3) := by decide +kernel
theorem dX8_week_40 : decode cX8_week 40 = .ok (.aload_n 0, 1) := by decide +kernel
theorem dX8_week_41 : decode cX8_week 41 = .ok (.getfield 7, 3) := by decide +kernel
theorem dX8_week_44 : decode cX8_week 44 = .ok (.invokestatic 172, 3) := by decide +kernel
theorem dX8_week_47 : decode cX8_week 47 = .ok (.iinc 2 1, 3) := by decide +kernel
theorem dX8_week_50 : decode cX8_week 50 = .ok (.goto (-27), 3) := by decide +kernel
theorem dX8_week_53 : decode cX8_week 53 = .ok (.aload_n 0, 1) := by decide +kernel
theorem dX8_week_54 : decode cX8_week 54 = .ok (.invokevirtual 214, 3) := by decide +kernel
theorem dX8_week_57 : decode cX8_week 57 = .ok (.ireturn, 1) := by decide +kernel
set_option maxRecDepth 20000 in
theorem dX8_openDoor_0 : decode cX8_openDoor 0 = .ok (.aload_n 0, 1) := by decide +kernel
theorem dX8_openDoor_1 : decode cX8_openDoor 1 = .ok (.getfield 7, 3) := by decide +kernel
theorem dX8_openDoor_4 : decode cX8_openDoor 4 = .ok (.bipush 18, 2) := by decide +kernel
theorem dX8_openDoor_6 : decode cX8_openDoor 6 = .ok (.bipush 10, 2) := by decide +kernel
theorem dX8_openDoor_8 : decode cX8_openDoor 8 = .ok (.iload_n 1, 1) := by decide +kernel
theorem dX8_openDoor_9 : decode cX8_openDoor 9 = .ok (.imul, 1) := by decide +kernel
theorem dX8_openDoor_10 : decode cX8_openDoor 10 = .ok (.iadd, 1) := by decide +kernel
theorem dX8_openDoor_11 : decode cX8_openDoor 11 = .ok (.aload_n 0, 1) := by decide +kernel
theorem dX8_openDoor_12 : decode cX8_openDoor 12 = .ok (.getfield 7, 3) := by decide +kernel
theorem dX8_openDoor_15 : decode cX8_openDoor 15 = .ok (.bipush 8, 2) := by decide +kernel
theorem dX8_openDoor_17 : decode cX8_openDoor 17 = .ok (.iload_n 1, 1) := by decide +kernel
theorem dX8_openDoor_18 : decode cX8_openDoor 18 = .ok (.iadd, 1) := by decide +kernel
theorem dX8_openDoor_19 : decode cX8_openDoor 19 = .ok (.iaload, 1) := by decide +kernel
theorem dX8_openDoor_20 : decode cX8_openDoor 20 = .ok (.invokestatic 217, 3) := by decide +kernel
theorem dX8_openDoor_23 : decode cX8_openDoor 23 = .ok (.invokestatic 90, 3) := by decide +kernel
theorem dX8_openDoor_26 : decode cX8_openDoor 26 = .ok (.return_, 1) := by decide +kernel
set_option maxRecDepth 20000 in
theorem dX8_door_0 : decode cX8_door 0 = .ok (.aload_n 0, 1) := by decide +kernel
theorem dX8_door_1 : decode cX8_door 1 = .ok (.iload_n 1, 1) := by decide +kernel
theorem dX8_door_2 : decode cX8_door 2 = .ok (.invokevirtual 116, 3) := by decide +kernel
theorem dX8_door_5 : decode cX8_door 5 = .ok (.ifCond .ne 8, 3) := by decide +kernel
theorem dX8_door_8 : decode cX8_door 8 = .ok (.aload_n 0, 1) := by decide +kernel
theorem dX8_door_9 : decode cX8_door 9 = .ok (.invokevirtual 103, 3) := by decide +kernel
theorem dX8_door_12 : decode cX8_door 12 = .ok (.ireturn, 1) := by decide +kernel
theorem dX8_door_13 : decode cX8_door 13 = .ok (.aload_n 0, 1) := by decide +kernel
theorem dX8_door_14 : decode cX8_door 14 = .ok (.invokevirtual 211, 3) := by decide +kernel
theorem dX8_door_17 : decode cX8_door 17 = .ok (.aload_n 0, 1) := by decide +kernel
theorem dX8_door_18 : decode cX8_door 18 = .ok (.iload_n 1, 1) := by decide +kernel
theorem dX8_door_19 : decode cX8_door 19 = .ok (.invokevirtual 220, 3) := by decide +kernel
theorem dX8_door_22 : decode cX8_door 22 = .ok (.aload_n 0, 1) := by decide +kernel
theorem dX8_door_23 : decode cX8_door 23 = .ok (.getfield 7, 3) := by decide +kernel
theorem dX8_door_26 : decode cX8_door 26 = .ok (.bipush 18, 2) := by decide +kernel
theorem dX8_door_28 : decode cX8_door 28 = .ok (.bipush 10, 2) := by decide +kernel
theorem dX8_door_30 : decode cX8_door 30 = .ok (.iload_n 1, 1) := by decide +kernel
theorem dX8_door_31 : decode cX8_door 31 = .ok (.imul, 1) := by decide +kernel
theorem dX8_door_32 : decode cX8_door 32 = .ok (.iadd, 1) := by decide +kernel
theorem dX8_door_33 : decode cX8_door 33 = .ok (.invokestatic 83, 3) := by decide +kernel
theorem dX8_door_36 : decode cX8_door 36 = .ok (.ireturn, 1) := by decide +kernel
set_option maxRecDepth 20000 in
theorem dX8_throwing_0 : decode cX8_throwing 0 = .ok (.aload_n 0, 1) := by decide +kernel
theorem dX8_throwing_1 : decode cX8_throwing 1 = .ok (.iload_n 1, 1) := by decide +kernel
theorem dX8_throwing_2 : decode cX8_throwing 2 = .ok (.invokevirtual 223, 3) := by decide +kernel
theorem dX8_throwing_5 : decode cX8_throwing 5 = .ok (.ifCond .eq 32, 3) := by decide +kernel
theorem dX8_throwing_8 : decode cX8_throwing 8 = .ok (.aload_n 0, 1) := by decide +kernel
theorem dX8_throwing_9 : decode cX8_throwing 9 = .ok (.iload_n 2, 1) := by decide +kernel
theorem dX8_throwing_10 : decode cX8_throwing 10 = .ok (.invokevirtual 116, 3) := by decide +kernel
theorem dX8_throwing_13 : decode cX8_throwing 13 = .ok (.ifCond .eq 24, 3) := by decide +kernel
theorem dX8_throwing_16 : decode cX8_throwing 16 = .ok (.iload_n 3, 1) := by decide +kernel
theorem dX8_throwing_17 : decode cX8_throwing 17 = .ok (.i2l, 1) := by decide +kernel
theorem dX8_throwing_18 : decode cX8_throwing 18 = .ok (.lconst 1, 1) := by decide +kernel
theorem dX8_throwing_19 : decode cX8_throwing 19 = .ok (.ldc2_w 101, 3) := by decide +kernel
theorem dX8_throwing_22 : decode cX8_throwing 22 = .ok (.invokestatic 60, 3) := by decide +kernel
theorem dX8_throwing_25 : decode cX8_throwing 25 = .ok (.ifCond .eq 12, 3) := by decide +kernel
theorem dX8_throwing_28 : decode cX8_throwing 28 = .ok (.aload_n 0, 1) := by decide +kernel
theorem dX8_throwing_29 : decode cX8_throwing 29 = .ok (.iload 4, 2) := by decide +kernel
theorem dX8_throwing_31 : decode cX8_throwing 31 = .ok (.invokevirtual 226, 3) := by decide +kernel
theorem dX8_throwing_34 : decode cX8_throwing 34 = .ok (.ifCond .ne 8, 3) := by decide +kernel
theorem dX8_throwing_37 : decode cX8_throwing 37 = .ok (.aload_n 0, 1) := by decide +kernel
theorem dX8_throwing_38 : decode cX8_throwing 38 = .ok (.invokevirtual 103, 3) := by decide +kernel
theorem dX8_throwing_41 : decode cX8_throwing 41 = .ok (.ireturn, 1) := by decide +kernel
theorem dX8_throwing_42 : decode cX8_throwing 42 = .ok (.aload_n 0, 1) := by decide +kernel
theorem dX8_throwing_43 : decode cX8_throwing 43 = .ok (.getfield 7, 3) := by decide +kernel
theorem dX8_throwing_46 : decode cX8_throwing 46 = .ok (.bipush 18, 2) := by decide +kernel
theorem dX8_throwing_48 : decode cX8_throwing 48 = .ok (.bipush 10, 2) := by decide +kernel
theorem dX8_throwing_50 : decode cX8_throwing 50 = .ok (.iload_n 2, 1) := by decide +kernel
theorem dX8_throwing_51 : decode cX8_throwing 51 = .ok (.imul, 1) := by decide +kernel
theorem dX8_throwing_52 : decode cX8_throwing 52 = .ok (.iadd, 1) := by decide +kernel
theorem dX8_throwing_53 : decode cX8_throwing 53 = .ok (.iload_n 3, 1) := by decide +kernel
theorem dX8_throwing_54 : decode cX8_throwing 54 = .ok (.iadd, 1) := by decide +kernel
theorem dX8_throwing_55 : decode cX8_throwing 55 = .ok (.iaload, 1) := by decide +kernel
theorem dX8_throwing_56 : decode cX8_throwing 56 = .ok (.ifCond .eq 16, 3) := by decide +kernel
theorem dX8_throwing_59 : decode cX8_throwing 59 = .ok (.aload_n 0, 1) := by decide +kernel
theorem dX8_throwing_60 : decode cX8_throwing 60 = .ok (.getfield 7, 3) := by decide +kernel
theorem dX8_throwing_63 : decode cX8_throwing 63 = .ok (.bipush 80, 2) := by decide +kernel
theorem dX8_throwing_65 : decode cX8_throwing 65 = .ok (.iload 4, 2) := by decide +kernel
theorem dX8_throwing_67 : decode cX8_throwing 67 = .ok (.iadd, 1) := by decide +kernel
theorem dX8_throwing_68 : decode cX8_throwing 68 = .ok (.iaload, 1) := by decide +kernel
theorem dX8_throwing_69 : decode cX8_throwing 69 = .ok (.ifCond .ne 8, 3) := by decide +kernel
theorem dX8_throwing_72 : decode cX8_throwing 72 = .ok (.aload_n 0, 1) := by decide +kernel
theorem dX8_throwing_73 : decode cX8_throwing 73 = .ok (.invokevirtual 229, 3) := by decide +kernel
theorem dX8_throwing_76 : decode cX8_throwing 76 = .ok (.ireturn, 1) := by decide +kernel
theorem dX8_throwing_77 : decode cX8_throwing 77 = .ok (.aload_n 0, 1) := by decide +kernel
theorem dX8_throwing_78 : decode cX8_throwing 78 = .ok (.invokevirtual 211, 3) := by decide +kernel
theorem dX8_throwing_81 : decode cX8_throwing 81 = .ok (.aload_n 0, 1) := by decide +kernel
theorem dX8_throwing_82 : decode cX8_throwing 82 = .ok (.getfield 7, 3) := by decide +kernel
theorem dX8_throwing_85 : decode cX8_throwing 85 = .ok (.bipush 18, 2) := by decide +kernel
theorem dX8_throwing_87 : decode cX8_throwing 87 = .ok (.bipush 10, 2) := by decide +kernel
theorem dX8_throwing_89 : decode cX8_throwing 89 = .ok (.iload_n 2, 1) := by decide +kernel
theorem dX8_throwing_90 : decode cX8_throwing 90 = .ok (.imul, 1) := by decide +kernel
theorem dX8_throwing_91 : decode cX8_throwing 91 = .ok (.iadd, 1) := by decide +kernel
theorem dX8_throwing_92 : decode cX8_throwing 92 = .ok (.iload_n 3, 1) := by decide +kernel
theorem dX8_throwing_93 : decode cX8_throwing 93 = .ok (.iadd, 1) := by decide +kernel
theorem dX8_throwing_94 : decode cX8_throwing 94 = .ok (.dup2, 1) := by decide +kernel
theorem dX8_throwing_95 : decode cX8_throwing 95 = .ok (.iaload, 1) := by decide +kernel
theorem dX8_throwing_96 : decode cX8_throwing 96 = .ok (.iconst 1, 1) := by decide +kernel
theorem dX8_throwing_97 : decode cX8_throwing 97 = .ok (.isub, 1) := by decide +kernel
theorem dX8_throwing_98 : decode cX8_throwing 98 = .ok (.iastore, 1) := by decide +kernel
theorem dX8_throwing_99 : decode cX8_throwing 99 = .ok (.aload_n 0, 1) := by decide +kernel
theorem dX8_throwing_100 : decode cX8_throwing 100 = .ok (.iload_n 2, 1) := by decide +kernel
theorem dX8_throwing_101 : decode cX8_throwing 101 = .ok (.invokevirtual 220, 3) := by decide +kernel
theorem dX8_throwing_104 : decode cX8_throwing 104 = .ok (.aload_n 0, 1) := by decide +kernel
theorem dX8_throwing_105 : decode cX8_throwing 105 = .ok (.iload_n 1, 1) := by decide +kernel
theorem dX8_throwing_106 : decode cX8_throwing 106 = .ok (.iload_n 3, 1) := by decide +kernel
theorem dX8_throwing_107 : decode cX8_throwing 107 = .ok (.iload 4, 2) := by decide +kernel
theorem dX8_throwing_109 : decode cX8_throwing 109 = .ok (.aload_n 0, 1) := by decide +kernel
theorem dX8_throwing_110 : decode cX8_throwing 110 = .ok (.getfield 7, 3) := by decide +kernel
theorem dX8_throwing_113 : decode cX8_throwing 113 = .ok (.iconst 4, 1) := by decide +kernel
theorem dX8_throwing_114 : decode cX8_throwing 114 = .ok (.iaload, 1) := by decide +kernel
theorem dX8_throwing_115 : decode cX8_throwing 115 = .ok (.invokevirtual 232, 3) := by decide +kernel
theorem dX8_throwing_118 : decode cX8_throwing 118 = .ok (.ifCond .ne 5, 3) := by decide +kernel
theorem dX8_throwing_121 : decode cX8_throwing 121 = .ok (.iconst 0, 1) := by decide +kernel
theorem dX8_throwing_122 : decode cX8_throwing 122 = .ok (.ireturn, 1) := by decide +kernel
theorem dX8_throwing_123 : decode cX8_throwing 123 = .ok (.aload_n 0, 1) := by decide +kernel
theorem dX8_throwing_124 : decode cX8_throwing 124 = .ok (.iload_n 1, 1) := by decide +kernel
theorem dX8_throwing_125 : decode cX8_throwing 125 = .ok (.iload_n 3, 1) := by decide +kernel
theorem dX8_throwing_126 : decode cX8_throwing 126 = .ok (.invokevirtual 236, 3) := by decide +kernel
theorem dX8_throwing_129 : decode cX8_throwing 129 = .ok (.istore 5, 2) := by decide +kernel
theorem dX8_throwing_131 : decode cX8_throwing 131 = .ok (.aload_n 0, 1) := by decide +kernel
theorem dX8_throwing_132 : decode cX8_throwing 132 = .ok (.getfield 7, 3) := by decide +kernel
theorem dX8_throwing_135 : decode cX8_throwing 135 = .ok (.bipush 88, 2) := by decide +kernel
theorem dX8_throwing_137 : decode cX8_throwing 137 = .ok (.iload 4, 2) := by decide +kernel
theorem dX8_throwing_139 : decode cX8_throwing 139 = .ok (.iadd, 1) := by decide +kernel
theorem dX8_throwing_140 : decode cX8_throwing 140 = .ok (.aload_n 0, 1) := by decide +kernel
theorem dX8_throwing_141 : decode cX8_throwing 141 = .ok (.getfield 7, 3) := by decide +kernel
theorem dX8_throwing_144 : decode cX8_throwing 144 = .ok (.bipush 88, 2) := by decide +kernel
theorem dX8_throwing_146 : decode cX8_throwing 146 = .ok (.iload 4, 2) := by decide +kernel
theorem dX8_throwing_148 : decode cX8_throwing 148 = .ok (.iadd, 1) := by decide +kernel
theorem dX8_throwing_149 : decode cX8_throwing 149 = .ok (.iaload, 1) := by decide +kernel
theorem dX8_throwing_150 : decode cX8_throwing 150 = .ok (.iload 5, 2) := by decide +kernel
theorem dX8_throwing_152 : decode cX8_throwing 152 = .ok (.iadd, 1) := by decide +kernel
theorem dX8_throwing_153 : decode cX8_throwing 153 = .ok (.bipush 40, 2) := by decide +kernel
theorem dX8_throwing_155 : decode cX8_throwing 155 = .ok (.if_icmp .ge 19, 3) := by decide +kernel
theorem dX8_throwing_158 : decode cX8_throwing 158 = .ok (.aload_n 0, 1) := by decide +kernel
theorem dX8_throwing_159 : decode cX8_throwing 159 = .ok (.getfield 7, 3) := by decide +kernel
theorem dX8_throwing_162 : decode cX8_throwing 162 = .ok (.bipush 88, 2) := by decide +kernel
theorem dX8_throwing_164 : decode cX8_throwing 164 = .ok (.iload 4, 2) := by decide +kernel
theorem dX8_throwing_166 : decode cX8_throwing 166 = .ok (.iadd, 1) := by decide +kernel
theorem dX8_throwing_167 : decode cX8_throwing 167 = .ok (.iaload, 1) := by decide +kernel
theorem dX8_throwing_168 : decode cX8_throwing 168 = .ok (.iload 5, 2) := by decide +kernel
theorem dX8_throwing_170 : decode cX8_throwing 170 = .ok (.iadd, 1) := by decide +kernel
theorem dX8_throwing_171 : decode cX8_throwing 171 = .ok (.goto 5, 3) := by decide +kernel
theorem dX8_throwing_174 : decode cX8_throwing 174 = .ok (.bipush 40, 2) := by decide +kernel
theorem dX8_throwing_176 : decode cX8_throwing 176 = .ok (.iastore, 1) := by decide +kernel
theorem dX8_throwing_177 : decode cX8_throwing 177 = .ok (.iload 5, 2) := by decide +kernel
theorem dX8_throwing_179 : decode cX8_throwing 179 = .ok (.ireturn, 1) := by decide +kernel
set_option maxRecDepth 20000 in
theorem dX8_hour_0 : decode cX8_hour 0 = .ok (.aload_n 0, 1) := by decide +kernel
theorem dX8_hour_1 : decode cX8_hour 1 = .ok (.invokevirtual 211, 3) := by decide +kernel
theorem dX8_hour_4 : decode cX8_hour 4 = .ok (.iconst 0, 1) := by decide +kernel
theorem dX8_hour_5 : decode cX8_hour 5 = .ok (.istore_n 1, 1) := by decide +kernel
theorem dX8_hour_6 : decode cX8_hour 6 = .ok (.iconst 0, 1) := by decide +kernel
theorem dX8_hour_7 : decode cX8_hour 7 = .ok (.istore_n 2, 1) := by decide +kernel
theorem dX8_hour_8 : decode cX8_hour 8 = .ok (.iload_n 2, 1) := by decide +kernel
theorem dX8_hour_9 : decode cX8_hour 9 = .ok (.aload_n 0, 1) := by decide +kernel
theorem dX8_hour_10 : decode cX8_hour 10 = .ok (.getfield 7, 3) := by decide +kernel
theorem dX8_hour_13 : decode cX8_hour 13 = .ok (.iconst 2, 1) := by decide +kernel
theorem dX8_hour_14 : decode cX8_hour 14 = .ok (.iaload, 1) := by decide +kernel
theorem dX8_hour_15 : decode cX8_hour 15 = .ok (.if_icmp .ge 66, 3) := by decide +kernel
theorem dX8_hour_18 : decode cX8_hour 18 = .ok (.aload_n 0, 1) := by decide +kernel
theorem dX8_hour_19 : decode cX8_hour 19 = .ok (.getfield 7, 3) := by decide +kernel
theorem dX8_hour_22 : decode cX8_hour 22 = .ok (.bipush 80, 2) := by decide +kernel
theorem dX8_hour_24 : decode cX8_hour 24 = .ok (.iload_n 2, 1) := by decide +kernel
theorem dX8_hour_25 : decode cX8_hour 25 = .ok (.iadd, 1) := by decide +kernel
theorem dX8_hour_26 : decode cX8_hour 26 = .ok (.dup2, 1) := by decide +kernel
theorem dX8_hour_27 : decode cX8_hour 27 = .ok (.iaload, 1) := by decide +kernel
theorem dX8_hour_28 : decode cX8_hour 28 = .ok (.aload_n 0, 1) := by decide +kernel
theorem dX8_hour_29 : decode cX8_hour 29 = .ok (.iload_n 2, 1) := by decide +kernel
theorem dX8_hour_30 : decode cX8_hour 30 = .ok (.invokevirtual 239, 3) := by decide +kernel
theorem dX8_hour_33 : decode cX8_hour 33 = .ok (.ifCond .ne 19, 3) := by decide +kernel
theorem dX8_hour_36 : decode cX8_hour 36 = .ok (.aload_n 0, 1) := by decide +kernel
theorem dX8_hour_37 : decode cX8_hour 37 = .ok (.getfield 7, 3) := by decide +kernel
theorem dX8_hour_40 : decode cX8_hour 40 = .ok (.bipush 80, 2) := by decide +kernel
theorem dX8_hour_42 : decode cX8_hour 42 = .ok (.iload_n 2, 1) := by decide +kernel
theorem dX8_hour_43 : decode cX8_hour 43 = .ok (.iadd, 1) := by decide +kernel
theorem dX8_hour_44 : decode cX8_hour 44 = .ok (.iaload, 1) := by decide +kernel
theorem dX8_hour_45 : decode cX8_hour 45 = .ok (.ifCond .le 7, 3) := by decide +kernel
theorem dX8_hour_48 : decode cX8_hour 48 = .ok (.iconst 1, 1) := by decide +kernel
theorem dX8_hour_49 : decode cX8_hour 49 = .ok (.goto 4, 3) := by decide +kernel
theorem dX8_hour_52 : decode cX8_hour 52 = .ok (.iconst 0, 1) := by decide +kernel
theorem dX8_hour_53 : decode cX8_hour 53 = .ok (.isub, 1) := by decide +kernel
theorem dX8_hour_54 : decode cX8_hour 54 = .ok (.iastore, 1) := by decide +kernel
theorem dX8_hour_55 : decode cX8_hour 55 = .ok (.iload_n 1, 1) := by decide +kernel
theorem dX8_hour_56 : decode cX8_hour 56 = .ok (.aload_n 0, 1) := by decide +kernel
theorem dX8_hour_57 : decode cX8_hour 57 = .ok (.getfield 7, 3) := by decide +kernel
theorem dX8_hour_60 : decode cX8_hour 60 = .ok (.bipush 80, 2) := by decide +kernel
theorem dX8_hour_62 : decode cX8_hour 62 = .ok (.iload_n 2, 1) := by decide +kernel
theorem dX8_hour_63 : decode cX8_hour 63 = .ok (.iadd, 1) := by decide +kernel
theorem dX8_hour_64 : decode cX8_hour 64 = .ok (.iaload, 1) := by decide +kernel
theorem dX8_hour_65 : decode cX8_hour 65 = .ok (.ifCond .ne 7, 3) := by decide +kernel
theorem dX8_hour_68 : decode cX8_hour 68 = .ok (.iconst 1, 1) := by decide +kernel
theorem dX8_hour_69 : decode cX8_hour 69 = .ok (.goto 4, 3) := by decide +kernel
theorem dX8_hour_72 : decode cX8_hour 72 = .ok (.iconst 0, 1) := by decide +kernel
theorem dX8_hour_73 : decode cX8_hour 73 = .ok (.iadd, 1) := by decide +kernel
theorem dX8_hour_74 : decode cX8_hour 74 = .ok (.istore_n 1, 1) := by decide +kernel
theorem dX8_hour_75 : decode cX8_hour 75 = .ok (.iinc 2 1, 3) := by decide +kernel
theorem dX8_hour_78 : decode cX8_hour 78 = .ok (.goto (-70), 3) := by decide +kernel
theorem dX8_hour_81 : decode cX8_hour 81 = .ok (.iload_n 1, 1) := by decide +kernel
theorem dX8_hour_82 : decode cX8_hour 82 = .ok (.ireturn, 1) := by decide +kernel
set_option maxRecDepth 20000 in
theorem dX8_wind_0 : decode cX8_wind 0 = .ok (.iload_n 1, 1) := by decide +kernel
theorem dX8_wind_1 : decode cX8_wind 1 = .ok (.i2l, 1) := by decide +kernel
theorem dX8_wind_2 : decode cX8_wind 2 = .ok (.lconst 0, 1) := by decide +kernel
theorem dX8_wind_3 : decode cX8_wind 3 = .ok (.ldc2_w 101, 3) := by decide +kernel
theorem dX8_wind_6 : decode cX8_wind 6 = .ok (.invokestatic 60, 3) := by decide +kernel
theorem dX8_wind_9 : decode cX8_wind 9 = .ok (.ifCond .ne 8, 3) := by decide +kernel
theorem dX8_wind_12 : decode cX8_wind 12 = .ok (.aload_n 0, 1) := by decide +kernel
theorem dX8_wind_13 : decode cX8_wind 13 = .ok (.invokevirtual 103, 3) := by decide +kernel
theorem dX8_wind_16 : decode cX8_wind 16 = .ok (.ireturn, 1) := by decide +kernel
theorem dX8_wind_17 : decode cX8_wind 17 = .ok (.aload_n 0, 1) := by decide +kernel
theorem dX8_wind_18 : decode cX8_wind 18 = .ok (.invokevirtual 211, 3) := by decide +kernel
theorem dX8_wind_21 : decode cX8_wind 21 = .ok (.aload_n 0, 1) := by decide +kernel
theorem dX8_wind_22 : decode cX8_wind 22 = .ok (.getfield 7, 3) := by decide +kernel
theorem dX8_wind_25 : decode cX8_wind 25 = .ok (.iconst 4, 1) := by decide +kernel
theorem dX8_wind_26 : decode cX8_wind 26 = .ok (.iaload, 1) := by decide +kernel
theorem dX8_wind_27 : decode cX8_wind 27 = .ok (.istore_n 2, 1) := by decide +kernel
theorem dX8_wind_28 : decode cX8_wind 28 = .ok (.aload_n 0, 1) := by decide +kernel
theorem dX8_wind_29 : decode cX8_wind 29 = .ok (.getfield 7, 3) := by decide +kernel
theorem dX8_wind_32 : decode cX8_wind 32 = .ok (.iconst 4, 1) := by decide +kernel
theorem dX8_wind_33 : decode cX8_wind 33 = .ok (.iload_n 1, 1) := by decide +kernel
theorem dX8_wind_34 : decode cX8_wind 34 = .ok (.iastore, 1) := by decide +kernel
theorem dX8_wind_35 : decode cX8_wind 35 = .ok (.iload_n 2, 1) := by decide +kernel
theorem dX8_wind_36 : decode cX8_wind 36 = .ok (.ireturn, 1) := by decide +kernel
set_option maxRecDepth 20000 in
theorem dX8_undo_0 : decode cX8_undo 0 = .ok (.aload_n 0, 1) := by decide +kernel
theorem dX8_undo_1 : decode cX8_undo 1 = .ok (.getfield 94, 3) := by decide +kernel
theorem dX8_undo_4 : decode cX8_undo 4 = .ok (.ifCond .ne 8, 3) := by decide +kernel
theorem dX8_undo_7 : decode cX8_undo 7 = .ok (.aload_n 0, 1) := by decide +kernel
theorem dX8_undo_8 : decode cX8_undo 8 = .ok (.invokevirtual 229, 3) := by decide +kernel
theorem dX8_undo_11 : decode cX8_undo 11 = .ok (.ireturn, 1) := by decide +kernel
theorem dX8_undo_12 : decode cX8_undo 12 = .ok (.aload_n 0, 1) := by decide +kernel
theorem dX8_undo_13 : decode cX8_undo 13 = .ok (.dup, 1) := by decide +kernel
theorem dX8_undo_14 : decode cX8_undo 14 = .ok (.getfield 94, 3) := by decide +kernel
theorem dX8_undo_17 : decode cX8_undo 17 = .ok (.iconst 1, 1) := by decide +kernel
theorem dX8_undo_18 : decode cX8_undo 18 = .ok (.isub, 1) := by decide +kernel
theorem dX8_undo_19 : decode cX8_undo 19 = .ok (.putfield 94, 3) := by decide +kernel
theorem dX8_undo_22 : decode cX8_undo 22 = .ok (.iconst 0, 1) := by decide +kernel
theorem dX8_undo_23 : decode cX8_undo 23 = .ok (.istore_n 1, 1) := by decide +kernel
theorem dX8_undo_24 : decode cX8_undo 24 = .ok (.iload_n 1, 1) := by decide +kernel
theorem dX8_undo_25 : decode cX8_undo 25 = .ok (.bipush 60, 2) := by decide +kernel
theorem dX8_undo_27 : decode cX8_undo 27 = .ok (.if_icmp .ge 32, 3) := by decide +kernel
theorem dX8_undo_30 : decode cX8_undo 30 = .ok (.aload_n 0, 1) := by decide +kernel
theorem dX8_undo_31 : decode cX8_undo 31 = .ok (.getfield 7, 3) := by decide +kernel
theorem dX8_undo_34 : decode cX8_undo 34 = .ok (.iload_n 1, 1) := by decide +kernel
theorem dX8_undo_35 : decode cX8_undo 35 = .ok (.invokestatic 98, 3) := by decide +kernel
theorem dX8_undo_38 : decode cX8_undo 38 = .ok (.aload_n 0, 1) := by decide +kernel
theorem dX8_undo_39 : decode cX8_undo 39 = .ok (.getfield 20, 3) := by decide +kernel
theorem dX8_undo_42 : decode cX8_undo 42 = .ok (.bipush 60, 2) := by decide +kernel
theorem dX8_undo_44 : decode cX8_undo 44 = .ok (.aload_n 0, 1) := by decide +kernel
theorem dX8_undo_45 : decode cX8_undo 45 = .ok (.getfield 94, 3) := by decide +kernel
theorem dX8_undo_48 : decode cX8_undo 48 = .ok (.imul, 1) := by decide +kernel
theorem dX8_undo_49 : decode cX8_undo 49 = .ok (.iload_n 1, 1) := by decide +kernel
theorem dX8_undo_50 : decode cX8_undo 50 = .ok (.iadd, 1) := by decide +kernel
theorem dX8_undo_51 : decode cX8_undo 51 = .ok (.iaload, 1) := by decide +kernel
theorem dX8_undo_52 : decode cX8_undo 52 = .ok (.iastore, 1) := by decide +kernel
theorem dX8_undo_53 : decode cX8_undo 53 = .ok (.iinc 1 1, 3) := by decide +kernel
theorem dX8_undo_56 : decode cX8_undo 56 = .ok (.goto (-32), 3) := by decide +kernel
theorem dX8_undo_59 : decode cX8_undo 59 = .ok (.aload_n 0, 1) := by decide +kernel
theorem dX8_undo_60 : decode cX8_undo 60 = .ok (.getfield 7, 3) := by decide +kernel
theorem dX8_undo_63 : decode cX8_undo 63 = .ok (.iconst 3, 1) := by decide +kernel
theorem dX8_undo_64 : decode cX8_undo 64 = .ok (.iaload, 1) := by decide +kernel
theorem dX8_undo_65 : decode cX8_undo 65 = .ok (.ireturn, 1) := by decide +kernel
set_option maxRecDepth 20000 in
theorem dX8_of_0 : decode cX8_of 0 = .ok (.aload_n 0, 1) := by decide +kernel
theorem dX8_of_1 : decode cX8_of 1 = .ok (.iload_n 1, 1) := by decide +kernel
theorem dX8_of_2 : decode cX8_of 2 = .ok (.invokevirtual 116, 3) := by decide +kernel
theorem dX8_of_5 : decode cX8_of 5 = .ok (.ifCond .eq 15, 3) := by decide +kernel
theorem dX8_of_8 : decode cX8_of 8 = .ok (.iload_n 2, 1) := by decide +kernel
theorem dX8_of_9 : decode cX8_of 9 = .ok (.i2l, 1) := by decide +kernel
theorem dX8_of_10 : decode cX8_of 10 = .ok (.lconst 0, 1) := by decide +kernel
theorem dX8_of_11 : decode cX8_of 11 = .ok (.ldc2_w 242, 3) := by decide +kernel
theorem dX8_of_14 : decode cX8_of 14 = .ok (.invokestatic 60, 3) := by decide +kernel
theorem dX8_of_17 : decode cX8_of 17 = .ok (.ifCond .ne 8, 3) := by decide +kernel
theorem dX8_of_20 : decode cX8_of 20 = .ok (.aload_n 0, 1) := by decide +kernel
theorem dX8_of_21 : decode cX8_of 21 = .ok (.invokevirtual 103, 3) := by decide +kernel
theorem dX8_of_24 : decode cX8_of 24 = .ok (.ireturn, 1) := by decide +kernel
theorem dX8_of_25 : decode cX8_of 25 = .ok (.iload_n 2, 1) := by decide +kernel
theorem dX8_of_26 : decode cX8_of 26 = .ok (.ifCond .ne 15, 3) := by decide +kernel
theorem dX8_of_29 : decode cX8_of 29 = .ok (.aload_n 0, 1) := by decide +kernel
theorem dX8_of_30 : decode cX8_of 30 = .ok (.getfield 7, 3) := by decide +kernel
theorem dX8_of_33 : decode cX8_of 33 = .ok (.bipush 8, 2) := by decide +kernel
theorem dX8_of_35 : decode cX8_of 35 = .ok (.iload_n 1, 1) := by decide +kernel
theorem dX8_of_36 : decode cX8_of 36 = .ok (.iadd, 1) := by decide +kernel
theorem dX8_of_37 : decode cX8_of 37 = .ok (.iaload, 1) := by decide +kernel
theorem dX8_of_38 : decode cX8_of 38 = .ok (.goto 54, 3) := by decide +kernel
theorem dX8_of_41 : decode cX8_of 41 = .ok (.iload_n 2, 1) := by decide +kernel
theorem dX8_of_42 : decode cX8_of 42 = .ok (.iconst 1, 1) := by decide +kernel
theorem dX8_of_43 : decode cX8_of 43 = .ok (.if_icmp .ne 15, 3) := by decide +kernel
theorem dX8_of_46 : decode cX8_of 46 = .ok (.aload_n 0, 1) := by decide +kernel
theorem dX8_of_47 : decode cX8_of 47 = .ok (.getfield 7, 3) := by decide +kernel
theorem dX8_of_50 : decode cX8_of 50 = .ok (.bipush 13, 2) := by decide +kernel
theorem dX8_of_52 : decode cX8_of 52 = .ok (.iload_n 1, 1) := by decide +kernel
theorem dX8_of_53 : decode cX8_of 53 = .ok (.iadd, 1) := by decide +kernel
theorem dX8_of_54 : decode cX8_of 54 = .ok (.iaload, 1) := by decide +kernel
theorem dX8_of_55 : decode cX8_of 55 = .ok (.goto 37, 3) := by decide +kernel
theorem dX8_of_58 : decode cX8_of 58 = .ok (.iload_n 2, 1) := by decide +kernel
theorem dX8_of_59 : decode cX8_of 59 = .ok (.iconst 2, 1) := by decide +kernel
theorem dX8_of_60 : decode cX8_of 60 = .ok (.if_icmp .ne 18, 3) := by decide +kernel
theorem dX8_of_63 : decode cX8_of 63 = .ok (.aload_n 0, 1) := by decide +kernel
theorem dX8_of_64 : decode cX8_of 64 = .ok (.getfield 7, 3) := by decide +kernel
theorem dX8_of_67 : decode cX8_of 67 = .ok (.bipush 8, 2) := by decide +kernel
theorem dX8_of_69 : decode cX8_of 69 = .ok (.iload_n 1, 1) := by decide +kernel
theorem dX8_of_70 : decode cX8_of 70 = .ok (.iadd, 1) := by decide +kernel
theorem dX8_of_71 : decode cX8_of 71 = .ok (.iaload, 1) := by decide +kernel
theorem dX8_of_72 : decode cX8_of 72 = .ok (.invokestatic 217, 3) := by decide +kernel
theorem dX8_of_75 : decode cX8_of 75 = .ok (.goto 17, 3) := by decide +kernel
theorem dX8_of_78 : decode cX8_of 78 = .ok (.aload_n 0, 1) := by decide +kernel
theorem dX8_of_79 : decode cX8_of 79 = .ok (.getfield 7, 3) := by decide +kernel
theorem dX8_of_82 : decode cX8_of 82 = .ok (.bipush 18, 2) := by decide +kernel
theorem dX8_of_84 : decode cX8_of 84 = .ok (.bipush 10, 2) := by decide +kernel
theorem dX8_of_86 : decode cX8_of 86 = .ok (.iload_n 1, 1) := by decide +kernel
theorem dX8_of_87 : decode cX8_of 87 = .ok (.imul, 1) := by decide +kernel
theorem dX8_of_88 : decode cX8_of 88 = .ok (.iadd, 1) := by decide +kernel
theorem dX8_of_89 : decode cX8_of 89 = .ok (.invokestatic 83, 3) := by decide +kernel
theorem dX8_of_92 : decode cX8_of 92 = .ok (.ireturn, 1) := by decide +kernel
set_option maxRecDepth 20000 in
theorem dX8_has_0 : decode cX8_has 0 = .ok (.aload_n 0, 1) := by decide +kernel
theorem dX8_has_1 : decode cX8_has 1 = .ok (.iload_n 1, 1) := by decide +kernel
theorem dX8_has_2 : decode cX8_has 2 = .ok (.invokevirtual 116, 3) := by decide +kernel
theorem dX8_has_5 : decode cX8_has 5 = .ok (.ifCond .eq 32, 3) := by decide +kernel
theorem dX8_has_8 : decode cX8_has 8 = .ok (.iload_n 2, 1) := by decide +kernel
theorem dX8_has_9 : decode cX8_has 9 = .ok (.i2l, 1) := by decide +kernel
theorem dX8_has_10 : decode cX8_has 10 = .ok (.lconst 1, 1) := by decide +kernel
theorem dX8_has_11 : decode cX8_has 11 = .ok (.ldc2_w 101, 3) := by decide +kernel
theorem dX8_has_14 : decode cX8_has 14 = .ok (.invokestatic 60, 3) := by decide +kernel
theorem dX8_has_17 : decode cX8_has 17 = .ok (.ifCond .eq 20, 3) := by decide +kernel
theorem dX8_has_20 : decode cX8_has 20 = .ok (.aload_n 0, 1) := by decide +kernel
theorem dX8_has_21 : decode cX8_has 21 = .ok (.getfield 7, 3) := by decide +kernel
theorem dX8_has_24 : decode cX8_has 24 = .ok (.bipush 18, 2) := by decide +kernel
theorem dX8_has_26 : decode cX8_has 26 = .ok (.bipush 10, 2) := by decide +kernel
theorem dX8_has_28 : decode cX8_has 28 = .ok (.iload_n 1, 1) := by decide +kernel
theorem dX8_has_29 : decode cX8_has 29 = .ok (.imul, 1) := by decide +kernel
theorem dX8_has_30 : decode cX8_has 30 = .ok (.iadd, 1) := by decide +kernel
theorem dX8_has_31 : decode cX8_has 31 = .ok (.iload_n 2, 1) := by decide +kernel
theorem dX8_has_32 : decode cX8_has 32 = .ok (.iadd, 1) := by decide +kernel
theorem dX8_has_33 : decode cX8_has 33 = .ok (.iaload, 1) := by decide +kernel
theorem dX8_has_34 : decode cX8_has 34 = .ok (.goto 7, 3) := by decide +kernel
theorem dX8_has_37 : decode cX8_has 37 = .ok (.aload_n 0, 1) := by decide +kernel
theorem dX8_has_38 : decode cX8_has 38 = .ok (.invokevirtual 103, 3) := by decide +kernel
theorem dX8_has_41 : decode cX8_has 41 = .ok (.ireturn, 1) := by decide +kernel
set_option maxRecDepth 20000 in
theorem dX8_about_0 : decode cX8_about 0 = .ok (.aload_n 0, 1) := by decide +kernel
theorem dX8_about_1 : decode cX8_about 1 = .ok (.iload_n 1, 1) := by decide +kernel
theorem dX8_about_2 : decode cX8_about 2 = .ok (.invokevirtual 223, 3) := by decide +kernel
theorem dX8_about_5 : decode cX8_about 5 = .ok (.ifCond .eq 36, 3) := by decide +kernel
theorem dX8_about_8 : decode cX8_about 8 = .ok (.iload_n 2, 1) := by decide +kernel
theorem dX8_about_9 : decode cX8_about 9 = .ok (.i2l, 1) := by decide +kernel
theorem dX8_about_10 : decode cX8_about 10 = .ok (.lconst 0, 1) := by decide +kernel
theorem dX8_about_11 : decode cX8_about 11 = .ok (.lconst 1, 1) := by decide +kernel
theorem dX8_about_12 : decode cX8_about 12 = .ok (.invokestatic 60, 3) := by decide +kernel
theorem dX8_about_15 : decode cX8_about 15 = .ok (.ifCond .eq 26, 3) := by decide +kernel
theorem dX8_about_18 : decode cX8_about 18 = .ok (.aload_n 0, 1) := by decide +kernel
theorem dX8_about_19 : decode cX8_about 19 = .ok (.getfield 7, 3) := by decide +kernel
theorem dX8_about_22 : decode cX8_about 22 = .ok (.iload_n 2, 1) := by decide +kernel
theorem dX8_about_23 : decode cX8_about 23 = .ok (.ifCond .ne 10, 3) := by decide +kernel
theorem dX8_about_26 : decode cX8_about 26 = .ok (.bipush 68, 2) := by decide +kernel
theorem dX8_about_28 : decode cX8_about 28 = .ok (.iload_n 1, 1) := by decide +kernel
theorem dX8_about_29 : decode cX8_about 29 = .ok (.iadd, 1) := by decide +kernel
theorem dX8_about_30 : decode cX8_about 30 = .ok (.goto 7, 3) := by decide +kernel
theorem dX8_about_33 : decode cX8_about 33 = .ok (.bipush 74, 2) := by decide +kernel
theorem dX8_about_35 : decode cX8_about 35 = .ok (.iload_n 1, 1) := by decide +kernel
theorem dX8_about_36 : decode cX8_about 36 = .ok (.iadd, 1) := by decide +kernel
theorem dX8_about_37 : decode cX8_about 37 = .ok (.iaload, 1) := by decide +kernel
theorem dX8_about_38 : decode cX8_about 38 = .ok (.goto 7, 3) := by decide +kernel
theorem dX8_about_41 : decode cX8_about 41 = .ok (.aload_n 0, 1) := by decide +kernel
theorem dX8_about_42 : decode cX8_about 42 = .ok (.invokevirtual 103, 3) := by decide +kernel
theorem dX8_about_45 : decode cX8_about 45 = .ok (.ireturn, 1) := by decide +kernel
set_option maxRecDepth 20000 in
theorem dX8_sky_0 : decode cX8_sky 0 = .ok (.aload_n 0, 1) := by decide +kernel
theorem dX8_sky_1 : decode cX8_sky 1 = .ok (.iload_n 1, 1) := by decide +kernel
theorem dX8_sky_2 : decode cX8_sky 2 = .ok (.invokevirtual 226, 3) := by decide +kernel
theorem dX8_sky_5 : decode cX8_sky 5 = .ok (.ifCond .eq 15, 3) := by decide +kernel
theorem dX8_sky_8 : decode cX8_sky 8 = .ok (.iload_n 2, 1) := by decide +kernel
theorem dX8_sky_9 : decode cX8_sky 9 = .ok (.i2l, 1) := by decide +kernel
theorem dX8_sky_10 : decode cX8_sky 10 = .ok (.lconst 0, 1) := by decide +kernel
theorem dX8_sky_11 : decode cX8_sky 11 = .ok (.ldc2_w 242, 3) := by decide +kernel
theorem dX8_sky_14 : decode cX8_sky 14 = .ok (.invokestatic 60, 3) := by decide +kernel
theorem dX8_sky_17 : decode cX8_sky 17 = .ok (.ifCond .ne 8, 3) := by decide +kernel
theorem dX8_sky_20 : decode cX8_sky 20 = .ok (.aload_n 0, 1) := by decide +kernel
theorem dX8_sky_21 : decode cX8_sky 21 = .ok (.invokevirtual 103, 3) := by decide +kernel
theorem dX8_sky_24 : decode cX8_sky 24 = .ok (.ireturn, 1) := by decide +kernel
theorem dX8_sky_25 : decode cX8_sky 25 = .ok (.iload_n 2, 1) := by decide +kernel
theorem dX8_sky_26 : decode cX8_sky 26 = .ok (.ifCond .ne 15, 3) := by decide +kernel
theorem dX8_sky_29 : decode cX8_sky 29 = .ok (.aload_n 0, 1) := by decide +kernel
theorem dX8_sky_30 : decode cX8_sky 30 = .ok (.getfield 7, 3) := by decide +kernel
theorem dX8_sky_33 : decode cX8_sky 33 = .ok (.bipush 80, 2) := by decide +kernel
theorem dX8_sky_35 : decode cX8_sky 35 = .ok (.iload_n 1, 1) := by decide +kernel
theorem dX8_sky_36 : decode cX8_sky 36 = .ok (.iadd, 1) := by decide +kernel
theorem dX8_sky_37 : decode cX8_sky 37 = .ok (.iaload, 1) := by decide +kernel
theorem dX8_sky_38 : decode cX8_sky 38 = .ok (.goto 50, 3) := by decide +kernel
theorem dX8_sky_41 : decode cX8_sky 41 = .ok (.iload_n 2, 1) := by decide +kernel
theorem dX8_sky_42 : decode cX8_sky 42 = .ok (.iconst 1, 1) := by decide +kernel
theorem dX8_sky_43 : decode cX8_sky 43 = .ok (.if_icmp .ne 15, 3) := by decide +kernel
theorem dX8_sky_46 : decode cX8_sky 46 = .ok (.aload_n 0, 1) := by decide +kernel
theorem dX8_sky_47 : decode cX8_sky 47 = .ok (.getfield 7, 3) := by decide +kernel
theorem dX8_sky_50 : decode cX8_sky 50 = .ok (.bipush 84, 2) := by decide +kernel
theorem dX8_sky_52 : decode cX8_sky 52 = .ok (.iload_n 1, 1) := by decide +kernel
theorem dX8_sky_53 : decode cX8_sky 53 = .ok (.iadd, 1) := by decide +kernel
theorem dX8_sky_54 : decode cX8_sky 54 = .ok (.iaload, 1) := by decide +kernel
theorem dX8_sky_55 : decode cX8_sky 55 = .ok (.goto 33, 3) := by decide +kernel
theorem dX8_sky_58 : decode cX8_sky 58 = .ok (.iload_n 2, 1) := by decide +kernel
theorem dX8_sky_59 : decode cX8_sky 59 = .ok (.iconst 2, 1) := by decide +kernel
theorem dX8_sky_60 : decode cX8_sky 60 = .ok (.if_icmp .ne 15, 3) := by decide +kernel
theorem dX8_sky_63 : decode cX8_sky 63 = .ok (.aload_n 0, 1) := by decide +kernel
theorem dX8_sky_64 : decode cX8_sky 64 = .ok (.getfield 7, 3) := by decide +kernel
theorem dX8_sky_67 : decode cX8_sky 67 = .ok (.bipush 88, 2) := by decide +kernel
theorem dX8_sky_69 : decode cX8_sky 69 = .ok (.iload_n 1, 1) := by decide +kernel
theorem dX8_sky_70 : decode cX8_sky 70 = .ok (.iadd, 1) := by decide +kernel
theorem dX8_sky_71 : decode cX8_sky 71 = .ok (.iaload, 1) := by decide +kernel
theorem dX8_sky_72 : decode cX8_sky 72 = .ok (.goto 16, 3) := by decide +kernel
theorem dX8_sky_75 : decode cX8_sky 75 = .ok (.aload_n 0, 1) := by decide +kernel
theorem dX8_sky_76 : decode cX8_sky 76 = .ok (.iload_n 1, 1) := by decide +kernel
theorem dX8_sky_77 : decode cX8_sky 77 = .ok (.invokevirtual 239, 3) := by decide +kernel
theorem dX8_sky_80 : decode cX8_sky 80 = .ok (.ifCond .eq 7, 3) := by decide +kernel
theorem dX8_sky_83 : decode cX8_sky 83 = .ok (.iconst 1, 1) := by decide +kernel
theorem dX8_sky_84 : decode cX8_sky 84 = .ok (.goto 4, 3) := by decide +kernel
theorem dX8_sky_87 : decode cX8_sky 87 = .ok (.iconst 0, 1) := by decide +kernel
theorem dX8_sky_88 : decode cX8_sky 88 = .ok (.ireturn, 1) := by decide +kernel
set_option maxRecDepth 20000 in
theorem dX8_melts_0 : decode cX8_melts 0 = .ok (.aload_n 0, 1) := by decide +kernel
theorem dX8_melts_1 : decode cX8_melts 1 = .ok (.iload_n 1, 1) := by decide +kernel
theorem dX8_melts_2 : decode cX8_melts 2 = .ok (.invokevirtual 116, 3) := by decide +kernel
theorem dX8_melts_5 : decode cX8_melts 5 = .ok (.ifCond .eq 40, 3) := by decide +kernel
theorem dX8_melts_8 : decode cX8_melts 8 = .ok (.iload_n 2, 1) := by decide +kernel
theorem dX8_melts_9 : decode cX8_melts 9 = .ok (.i2l, 1) := by decide +kernel
theorem dX8_melts_10 : decode cX8_melts 10 = .ok (.lconst 0, 1) := by decide +kernel
theorem dX8_melts_11 : decode cX8_melts 11 = .ok (.ldc2_w 244, 3) := by decide +kernel
theorem dX8_melts_14 : decode cX8_melts 14 = .ok (.invokestatic 60, 3) := by decide +kernel
theorem dX8_melts_17 : decode cX8_melts 17 = .ok (.ifCond .eq 28, 3) := by decide +kernel
theorem dX8_melts_20 : decode cX8_melts 20 = .ok (.aload_n 0, 1) := by decide +kernel
theorem dX8_melts_21 : decode cX8_melts 21 = .ok (.getfield 7, 3) := by decide +kernel
theorem dX8_melts_24 : decode cX8_melts 24 = .ok (.bipush 8, 2) := by decide +kernel
theorem dX8_melts_26 : decode cX8_melts 26 = .ok (.iload_n 1, 1) := by decide +kernel
theorem dX8_melts_27 : decode cX8_melts 27 = .ok (.iadd, 1) := by decide +kernel
theorem dX8_melts_28 : decode cX8_melts 28 = .ok (.iaload, 1) := by decide +kernel
theorem dX8_melts_29 : decode cX8_melts 29 = .ok (.iload_n 2, 1) := by decide +kernel
theorem dX8_melts_30 : decode cX8_melts 30 = .ok (.aload_n 0, 1) := by decide +kernel
theorem dX8_melts_31 : decode cX8_melts 31 = .ok (.getfield 7, 3) := by decide +kernel
theorem dX8_melts_34 : decode cX8_melts 34 = .ok (.bipush 13, 2) := by decide +kernel
theorem dX8_melts_36 : decode cX8_melts 36 = .ok (.iload_n 1, 1) := by decide +kernel
theorem dX8_melts_37 : decode cX8_melts 37 = .ok (.iadd, 1) := by decide +kernel
theorem dX8_melts_38 : decode cX8_melts 38 = .ok (.iaload, 1) := by decide +kernel
theorem dX8_melts_39 : decode cX8_melts 39 = .ok (.invokestatic 87, 3) := by decide +kernel
theorem dX8_melts_42 : decode cX8_melts 42 = .ok (.goto 7, 3) := by decide +kernel
theorem dX8_melts_45 : decode cX8_melts 45 = .ok (.aload_n 0, 1) := by decide +kernel
theorem dX8_melts_46 : decode cX8_melts 46 = .ok (.invokevirtual 103, 3) := by decide +kernel
theorem dX8_melts_49 : decode cX8_melts 49 = .ok (.ireturn, 1) := by decide +kernel
theorem dX8_takeJar_0 : decode cX8_takeJar 0 = .ok (.iconst 0, 1) := by decide +kernel
theorem dX8_takeJar_1 : decode cX8_takeJar 1 = .ok (.istore_n 2, 1) := by decide +kernel
theorem dX8_takeJar_2 : decode cX8_takeJar 2 = .ok (.iload_n 2, 1) := by decide +kernel
theorem dX8_takeJar_3 : decode cX8_takeJar 3 = .ok (.bipush 10, 2) := by decide +kernel
theorem dX8_takeJar_5 : decode cX8_takeJar 5 = .ok (.if_icmp .ge 29, 3) := by decide +kernel
theorem dX8_takeJar_8 : decode cX8_takeJar 8 = .ok (.aload_n 0, 1) := by decide +kernel
theorem dX8_takeJar_9 : decode cX8_takeJar 9 = .ok (.getfield 29, 3) := by decide +kernel
theorem dX8_takeJar_12 : decode cX8_takeJar 12 = .ok (.iload_n 2, 1) := by decide +kernel
theorem dX8_takeJar_13 : decode cX8_takeJar 13 = .ok (.aload_n 0, 1) := by decide +kernel
theorem dX8_takeJar_14 : decode cX8_takeJar 14 = .ok (.getfield 7, 3) := by decide +kernel
theorem dX8_takeJar_17 : decode cX8_takeJar 17 = .ok (.bipush 18, 2) := by decide +kernel
theorem dX8_takeJar_19 : decode cX8_takeJar 19 = .ok (.bipush 10, 2) := by decide +kernel
theorem dX8_takeJar_21 : decode cX8_takeJar 21 = .ok (.iload_n 1, 1) := by decide +kernel
theorem dX8_takeJar_22 : decode cX8_takeJar 22 = .ok (.imul, 1) := by decide +kernel
theorem dX8_takeJar_23 : decode cX8_takeJar 23 = .ok (.iadd, 1) := by decide +kernel
theorem dX8_takeJar_24 : decode cX8_takeJar 24 = .ok (.iload_n 2, 1) := by decide +kernel
theorem dX8_takeJar_25 : decode cX8_takeJar 25 = .ok (.iadd, 1) := by decide +kernel
theorem dX8_takeJar_26 : decode cX8_takeJar 26 = .ok (.iaload, 1) := by decide +kernel
theorem dX8_takeJar_27 : decode cX8_takeJar 27 = .ok (.iastore, 1) := by decide +kernel
theorem dX8_takeJar_28 : decode cX8_takeJar 28 = .ok (.iinc 2 1, 3) := by decide +kernel
theorem dX8_takeJar_31 : decode cX8_takeJar 31 = .ok (.goto (-29), 3) := by decide +kernel
theorem dX8_takeJar_34 : decode cX8_takeJar 34 = .ok (.return_, 1) := by decide +kernel
theorem dX8_greatestIn_0 : decode cX8_greatestIn 0 = .ok (.iconst 0, 1) := by decide +kernel
theorem dX8_greatestIn_1 : decode cX8_greatestIn 1 = .ok (.istore_n 1, 1) := by decide +kernel
theorem dX8_greatestIn_2 : decode cX8_greatestIn 2 = .ok (.iconst 1, 1) := by decide +kernel
theorem dX8_greatestIn_3 : decode cX8_greatestIn 3 = .ok (.istore_n 2, 1) := by decide +kernel
theorem dX8_greatestIn_4 : decode cX8_greatestIn 4 = .ok (.iload_n 2, 1) := by decide +kernel
theorem dX8_greatestIn_5 : decode cX8_greatestIn 5 = .ok (.bipush 10, 2) := by decide +kernel
theorem dX8_greatestIn_7 : decode cX8_greatestIn 7 = .ok (.if_icmp .ge 24, 3) := by decide +kernel
theorem dX8_greatestIn_10 : decode cX8_greatestIn 10 = .ok (.aload_n 0, 1) := by decide +kernel
theorem dX8_greatestIn_11 : decode cX8_greatestIn 11 = .ok (.getfield 29, 3) := by decide +kernel
theorem dX8_greatestIn_14 : decode cX8_greatestIn 14 = .ok (.iload_n 2, 1) := by decide +kernel
theorem dX8_greatestIn_15 : decode cX8_greatestIn 15 = .ok (.iaload, 1) := by decide +kernel
theorem dX8_greatestIn_16 : decode cX8_greatestIn 16 = .ok (.ifCond .le 7, 3) := by decide +kernel
theorem dX8_greatestIn_19 : decode cX8_greatestIn 19 = .ok (.iload_n 2, 1) := by decide +kernel
theorem dX8_greatestIn_20 : decode cX8_greatestIn 20 = .ok (.goto 4, 3) := by decide +kernel
theorem dX8_greatestIn_23 : decode cX8_greatestIn 23 = .ok (.iload_n 1, 1) := by decide +kernel
theorem dX8_greatestIn_24 : decode cX8_greatestIn 24 = .ok (.istore_n 1, 1) := by decide +kernel
theorem dX8_greatestIn_25 : decode cX8_greatestIn 25 = .ok (.iinc 2 1, 3) := by decide +kernel
theorem dX8_greatestIn_28 : decode cX8_greatestIn 28 = .ok (.goto (-24), 3) := by decide +kernel
theorem dX8_greatestIn_31 : decode cX8_greatestIn 31 = .ok (.iload_n 1, 1) := by decide +kernel
theorem dX8_greatestIn_32 : decode cX8_greatestIn 32 = .ok (.ireturn, 1) := by decide +kernel
set_option maxRecDepth 20000 in
theorem dX8_then_0 : decode cX8_then 0 = .ok (.aload_n 0, 1) := by decide +kernel
theorem dX8_then_1 : decode cX8_then 1 = .ok (.iload_n 1, 1) := by decide +kernel
theorem dX8_then_2 : decode cX8_then 2 = .ok (.invokevirtual 116, 3) := by decide +kernel
theorem dX8_then_5 : decode cX8_then 5 = .ok (.ifCond .eq 40, 3) := by decide +kernel
theorem dX8_then_8 : decode cX8_then 8 = .ok (.iload_n 2, 1) := by decide +kernel
theorem dX8_then_9 : decode cX8_then 9 = .ok (.i2l, 1) := by decide +kernel
theorem dX8_then_10 : decode cX8_then 10 = .ok (.lconst 0, 1) := by decide +kernel
theorem dX8_then_11 : decode cX8_then 11 = .ok (.ldc2_w 209, 3) := by decide +kernel
theorem dX8_then_14 : decode cX8_then 14 = .ok (.invokestatic 60, 3) := by decide +kernel
theorem dX8_then_17 : decode cX8_then 17 = .ok (.ifCond .eq 28, 3) := by decide +kernel
theorem dX8_then_20 : decode cX8_then 20 = .ok (.iload_n 3, 1) := by decide +kernel
theorem dX8_then_21 : decode cX8_then 21 = .ok (.i2l, 1) := by decide +kernel
theorem dX8_then_22 : decode cX8_then 22 = .ok (.lconst 0, 1) := by decide +kernel
theorem dX8_then_23 : decode cX8_then 23 = .ok (.ldc2_w 101, 3) := by decide +kernel
theorem dX8_then_26 : decode cX8_then 26 = .ok (.invokestatic 60, 3) := by decide +kernel
theorem dX8_then_29 : decode cX8_then 29 = .ok (.ifCond .eq 16, 3) := by decide +kernel
theorem dX8_then_32 : decode cX8_then 32 = .ok (.iload 4, 2) := by decide +kernel
theorem dX8_then_34 : decode cX8_then 34 = .ok (.i2l, 1) := by decide +kernel
theorem dX8_then_35 : decode cX8_then 35 = .ok (.lconst 0, 1) := by decide +kernel
theorem dX8_then_36 : decode cX8_then 36 = .ok (.ldc2_w 246, 3) := by decide +kernel
theorem dX8_then_39 : decode cX8_then 39 = .ok (.invokestatic 60, 3) := by decide +kernel
theorem dX8_then_42 : decode cX8_then 42 = .ok (.ifCond .ne 8, 3) := by decide +kernel
theorem dX8_then_45 : decode cX8_then 45 = .ok (.aload_n 0, 1) := by decide +kernel
theorem dX8_then_46 : decode cX8_then 46 = .ok (.invokevirtual 103, 3) := by decide +kernel
theorem dX8_then_49 : decode cX8_then 49 = .ok (.ireturn, 1) := by decide +kernel
theorem dX8_then_50 : decode cX8_then 50 = .ok (.aload_n 0, 1) := by decide +kernel
theorem dX8_then_51 : decode cX8_then 51 = .ok (.iload_n 1, 1) := by decide +kernel
theorem dX8_then_52 : decode cX8_then 52 = .ok (.invokevirtual 248, 3) := by decide +kernel
theorem dX8_then_55 : decode cX8_then 55 = .ok (.iconst 0, 1) := by decide +kernel
theorem dX8_then_56 : decode cX8_then 56 = .ok (.istore 5, 2) := by decide +kernel
theorem dX8_then_58 : decode cX8_then 58 = .ok (.iload 5, 2) := by decide +kernel
theorem dX8_then_60 : decode cX8_then 60 = .ok (.iload_n 2, 1) := by decide +kernel
theorem dX8_then_61 : decode cX8_then 61 = .ok (.if_icmp .ge 69, 3) := by decide +kernel
theorem dX8_then_64 : decode cX8_then 64 = .ok (.aload_n 0, 1) := by decide +kernel
theorem dX8_then_65 : decode cX8_then 65 = .ok (.getfield 29, 3) := by decide +kernel
theorem dX8_then_68 : decode cX8_then 68 = .ok (.iconst 0, 1) := by decide +kernel
theorem dX8_then_69 : decode cX8_then 69 = .ok (.iload_n 3, 1) := by decide +kernel
theorem dX8_then_70 : decode cX8_then 70 = .ok (.aload_n 0, 1) := by decide +kernel
theorem dX8_then_71 : decode cX8_then 71 = .ok (.getfield 7, 3) := by decide +kernel
theorem dX8_then_74 : decode cX8_then 74 = .ok (.bipush 8, 2) := by decide +kernel
theorem dX8_then_76 : decode cX8_then 76 = .ok (.iload_n 1, 1) := by decide +kernel
theorem dX8_then_77 : decode cX8_then 77 = .ok (.iadd, 1) := by decide +kernel
theorem dX8_then_78 : decode cX8_then 78 = .ok (.iaload, 1) := by decide +kernel
theorem dX8_then_79 : decode cX8_then 79 = .ok (.invokestatic 217, 3) := by decide +kernel
theorem dX8_then_82 : decode cX8_then 82 = .ok (.imul, 1) := by decide +kernel
theorem dX8_then_83 : decode cX8_then 83 = .ok (.invokestatic 90, 3) := by decide +kernel
theorem dX8_then_86 : decode cX8_then 86 = .ok (.aload_n 0, 1) := by decide +kernel
theorem dX8_then_87 : decode cX8_then 87 = .ok (.getfield 29, 3) := by decide +kernel
theorem dX8_then_90 : decode cX8_then 90 = .ok (.iconst 0, 1) := by decide +kernel
theorem dX8_then_91 : decode cX8_then 91 = .ok (.aload_n 0, 1) := by decide +kernel
theorem dX8_then_92 : decode cX8_then 92 = .ok (.getfield 7, 3) := by decide +kernel
theorem dX8_then_95 : decode cX8_then 95 = .ok (.bipush 8, 2) := by decide +kernel
theorem dX8_then_97 : decode cX8_then 97 = .ok (.iload_n 1, 1) := by decide +kernel
theorem dX8_then_98 : decode cX8_then 98 = .ok (.iadd, 1) := by decide +kernel
theorem dX8_then_99 : decode cX8_then 99 = .ok (.iaload, 1) := by decide +kernel
theorem dX8_then_100 : decode cX8_then 100 = .ok (.aload_n 0, 1) := by decide +kernel
theorem dX8_then_101 : decode cX8_then 101 = .ok (.getfield 7, 3) := by decide +kernel
theorem dX8_then_104 : decode cX8_then 104 = .ok (.iconst 3, 1) := by decide +kernel
theorem dX8_then_105 : decode cX8_then 105 = .ok (.iaload, 1) := by decide +kernel
theorem dX8_then_106 : decode cX8_then 106 = .ok (.iload 5, 2) := by decide +kernel
theorem dX8_then_108 : decode cX8_then 108 = .ok (.iadd, 1) := by decide +kernel
theorem dX8_then_109 : decode cX8_then 109 = .ok (.aload_n 0, 1) := by decide +kernel
theorem dX8_then_110 : decode cX8_then 110 = .ok (.getfield 7, 3) := by decide +kernel
theorem dX8_then_113 : decode cX8_then 113 = .ok (.bipush 13, 2) := by decide +kernel
theorem dX8_then_115 : decode cX8_then 115 = .ok (.iload_n 1, 1) := by decide +kernel
theorem dX8_then_116 : decode cX8_then 116 = .ok (.iadd, 1) := by decide +kernel
theorem dX8_then_117 : decode cX8_then 117 = .ok (.iaload, 1) := by decide +kernel
theorem dX8_then_118 : decode cX8_then 118 = .ok (.invokestatic 87, 3) := by decide +kernel
theorem dX8_then_121 : decode cX8_then 121 = .ok (.invokestatic 90, 3) := by decide +kernel
theorem dX8_then_124 : decode cX8_then 124 = .ok (.iinc 5 1, 3) := by decide +kernel
theorem dX8_then_127 : decode cX8_then 127 = .ok (.goto (-69), 3) := by decide +kernel
theorem dX8_then_130 : decode cX8_then 130 = .ok (.iconst 0, 1) := by decide +kernel
theorem dX8_then_131 : decode cX8_then 131 = .ok (.istore 5, 2) := by decide +kernel
theorem dX8_then_133 : decode cX8_then 133 = .ok (.iconst 1, 1) := by decide +kernel
theorem dX8_then_134 : decode cX8_then 134 = .ok (.istore 6, 2) := by decide +kernel
theorem dX8_then_136 : decode cX8_then 136 = .ok (.iload 6, 2) := by decide +kernel
theorem dX8_then_138 : decode cX8_then 138 = .ok (.bipush 10, 2) := by decide +kernel
theorem dX8_then_140 : decode cX8_then 140 = .ok (.if_icmp .ge 40, 3) := by decide +kernel
theorem dX8_then_143 : decode cX8_then 143 = .ok (.iload 5, 2) := by decide +kernel
theorem dX8_then_145 : decode cX8_then 145 = .ok (.iload 4, 2) := by decide +kernel
theorem dX8_then_147 : decode cX8_then 147 = .ok (.ifCond .eq 13, 3) := by decide +kernel
theorem dX8_then_150 : decode cX8_then 150 = .ok (.iload 6, 2) := by decide +kernel
theorem dX8_then_152 : decode cX8_then 152 = .ok (.invokestatic 68, 3) := by decide +kernel
theorem dX8_then_155 : decode cX8_then 155 = .ok (.iload 4, 2) := by decide +kernel
theorem dX8_then_157 : decode cX8_then 157 = .ok (.if_icmp .ne 13, 3) := by decide +kernel
theorem dX8_then_160 : decode cX8_then 160 = .ok (.aload_n 0, 1) := by decide +kernel
theorem dX8_then_161 : decode cX8_then 161 = .ok (.getfield 29, 3) := by decide +kernel
theorem dX8_then_164 : decode cX8_then 164 = .ok (.iload 6, 2) := by decide +kernel
theorem dX8_then_166 : decode cX8_then 166 = .ok (.iaload, 1) := by decide +kernel
theorem dX8_then_167 : decode cX8_then 167 = .ok (.goto 4, 3) := by decide +kernel
theorem dX8_then_170 : decode cX8_then 170 = .ok (.iconst 0, 1) := by decide +kernel
theorem dX8_then_171 : decode cX8_then 171 = .ok (.iadd, 1) := by decide +kernel
theorem dX8_then_172 : decode cX8_then 172 = .ok (.istore 5, 2) := by decide +kernel
theorem dX8_then_174 : decode cX8_then 174 = .ok (.iinc 6 1, 3) := by decide +kernel
theorem dX8_then_177 : decode cX8_then 177 = .ok (.goto (-41), 3) := by decide +kernel
theorem dX8_then_180 : decode cX8_then 180 = .ok (.iload 4, 2) := by decide +kernel
theorem dX8_then_182 : decode cX8_then 182 = .ok (.iconst 4, 1) := by decide +kernel
theorem dX8_then_183 : decode cX8_then 183 = .ok (.if_icmp .ne 10, 3) := by decide +kernel
theorem dX8_then_186 : decode cX8_then 186 = .ok (.aload_n 0, 1) := by decide +kernel
theorem dX8_then_187 : decode cX8_then 187 = .ok (.invokevirtual 251, 3) := by decide +kernel
theorem dX8_then_190 : decode cX8_then 190 = .ok (.goto 5, 3) := by decide +kernel
theorem dX8_then_193 : decode cX8_then 193 = .ok (.iload 5, 2) := by decide +kernel
theorem dX8_then_195 : decode cX8_then 195 = .ok (.ireturn, 1) := by decide +kernel
set_option maxRecDepth 20000 in
theorem dX8_lasts_0 : decode cX8_lasts 0 = .ok (.aload_n 0, 1) := by decide +kernel
theorem dX8_lasts_1 : decode cX8_lasts 1 = .ok (.iload_n 1, 1) := by decide +kernel
theorem dX8_lasts_2 : decode cX8_lasts 2 = .ok (.invokevirtual 116, 3) := by decide +kernel
theorem dX8_lasts_5 : decode cX8_lasts 5 = .ok (.ifCond .eq 15, 3) := by decide +kernel
theorem dX8_lasts_8 : decode cX8_lasts 8 = .ok (.iload_n 2, 1) := by decide +kernel
theorem dX8_lasts_9 : decode cX8_lasts 9 = .ok (.i2l, 1) := by decide +kernel
theorem dX8_lasts_10 : decode cX8_lasts 10 = .ok (.lconst 1, 1) := by decide +kernel
theorem dX8_lasts_11 : decode cX8_lasts 11 = .ok (.ldc2_w 101, 3) := by decide +kernel
theorem dX8_lasts_14 : decode cX8_lasts 14 = .ok (.invokestatic 60, 3) := by decide +kernel
theorem dX8_lasts_17 : decode cX8_lasts 17 = .ok (.ifCond .ne 8, 3) := by decide +kernel
theorem dX8_lasts_20 : decode cX8_lasts 20 = .ok (.aload_n 0, 1) := by decide +kernel
theorem dX8_lasts_21 : decode cX8_lasts 21 = .ok (.invokevirtual 103, 3) := by decide +kernel
theorem dX8_lasts_24 : decode cX8_lasts 24 = .ok (.ireturn, 1) := by decide +kernel
theorem dX8_lasts_25 : decode cX8_lasts 25 = .ok (.aload_n 0, 1) := by decide +kernel
theorem dX8_lasts_26 : decode cX8_lasts 26 = .ok (.iload_n 1, 1) := by decide +kernel
theorem dX8_lasts_27 : decode cX8_lasts 27 = .ok (.invokevirtual 248, 3) := by decide +kernel
theorem dX8_lasts_30 : decode cX8_lasts 30 = .ok (.iconst 0, 1) := by decide +kernel
theorem dX8_lasts_31 : decode cX8_lasts 31 = .ok (.istore_n 3, 1) := by decide +kernel
theorem dX8_lasts_32 : decode cX8_lasts 32 = .ok (.iload_n 3, 1) := by decide +kernel
theorem dX8_lasts_33 : decode cX8_lasts 33 = .ok (.bipush 100, 2) := by decide +kernel
theorem dX8_lasts_35 : decode cX8_lasts 35 = .ok (.if_icmp .ge 56, 3) := by decide +kernel
theorem dX8_lasts_38 : decode cX8_lasts 38 = .ok (.aload_n 0, 1) := by decide +kernel
theorem dX8_lasts_39 : decode cX8_lasts 39 = .ok (.invokevirtual 251, 3) := by decide +kernel
theorem dX8_lasts_42 : decode cX8_lasts 42 = .ok (.iload_n 2, 1) := by decide +kernel
theorem dX8_lasts_43 : decode cX8_lasts 43 = .ok (.if_icmp .ge 5, 3) := by decide +kernel
theorem dX8_lasts_46 : decode cX8_lasts 46 = .ok (.iload_n 3, 1) := by decide +kernel
theorem dX8_lasts_47 : decode cX8_lasts 47 = .ok (.ireturn, 1) := by decide +kernel
theorem dX8_lasts_48 : decode cX8_lasts 48 = .ok (.aload_n 0, 1) := by decide +kernel
theorem dX8_lasts_49 : decode cX8_lasts 49 = .ok (.getfield 29, 3) := by decide +kernel
theorem dX8_lasts_52 : decode cX8_lasts 52 = .ok (.iconst 0, 1) := by decide +kernel
theorem dX8_lasts_53 : decode cX8_lasts 53 = .ok (.aload_n 0, 1) := by decide +kernel
theorem dX8_lasts_54 : decode cX8_lasts 54 = .ok (.getfield 7, 3) := by decide +kernel
theorem dX8_lasts_57 : decode cX8_lasts 57 = .ok (.bipush 8, 2) := by decide +kernel
theorem dX8_lasts_59 : decode cX8_lasts 59 = .ok (.iload_n 1, 1) := by decide +kernel
theorem dX8_lasts_60 : decode cX8_lasts 60 = .ok (.iadd, 1) := by decide +kernel
theorem dX8_lasts_61 : decode cX8_lasts 61 = .ok (.iaload, 1) := by decide +kernel
theorem dX8_lasts_62 : decode cX8_lasts 62 = .ok (.aload_n 0, 1) := by decide +kernel
theorem dX8_lasts_63 : decode cX8_lasts 63 = .ok (.getfield 7, 3) := by decide +kernel
theorem dX8_lasts_66 : decode cX8_lasts 66 = .ok (.iconst 3, 1) := by decide +kernel
theorem dX8_lasts_67 : decode cX8_lasts 67 = .ok (.iaload, 1) := by decide +kernel
theorem dX8_lasts_68 : decode cX8_lasts 68 = .ok (.iload_n 3, 1) := by decide +kernel
theorem dX8_lasts_69 : decode cX8_lasts 69 = .ok (.iadd, 1) := by decide +kernel
theorem dX8_lasts_70 : decode cX8_lasts 70 = .ok (.aload_n 0, 1) := by decide +kernel
theorem dX8_lasts_71 : decode cX8_lasts 71 = .ok (.getfield 7, 3) := by decide +kernel
theorem dX8_lasts_74 : decode cX8_lasts 74 = .ok (.bipush 13, 2) := by decide +kernel
theorem dX8_lasts_76 : decode cX8_lasts 76 = .ok (.iload_n 1, 1) := by decide +kernel
theorem dX8_lasts_77 : decode cX8_lasts 77 = .ok (.iadd, 1) := by decide +kernel
theorem dX8_lasts_78 : decode cX8_lasts 78 = .ok (.iaload, 1) := by decide +kernel
theorem dX8_lasts_79 : decode cX8_lasts 79 = .ok (.invokestatic 87, 3) := by decide +kernel
theorem dX8_lasts_82 : decode cX8_lasts 82 = .ok (.invokestatic 90, 3) := by decide +kernel
theorem dX8_lasts_85 : decode cX8_lasts 85 = .ok (.iinc 3 1, 3) := by decide +kernel
theorem dX8_lasts_88 : decode cX8_lasts 88 = .ok (.goto (-56), 3) := by decide +kernel
theorem dX8_lasts_91 : decode cX8_lasts 91 = .ok (.iconst (-1), 1) := by decide +kernel
theorem dX8_lasts_92 : decode cX8_lasts 92 = .ok (.ireturn, 1) := by decide +kernel
set_option maxRecDepth 20000 in
theorem dX8_least_0 : decode cX8_least 0 = .ok (.aload_n 0, 1) := by decide +kernel
theorem dX8_least_1 : decode cX8_least 1 = .ok (.iload_n 1, 1) := by decide +kernel
theorem dX8_least_2 : decode cX8_least 2 = .ok (.invokevirtual 116, 3) := by decide +kernel
theorem dX8_least_5 : decode cX8_least 5 = .ok (.ifCond .eq 27, 3) := by decide +kernel
theorem dX8_least_8 : decode cX8_least 8 = .ok (.iload_n 2, 1) := by decide +kernel
theorem dX8_least_9 : decode cX8_least 9 = .ok (.i2l, 1) := by decide +kernel
theorem dX8_least_10 : decode cX8_least 10 = .ok (.lconst 1, 1) := by decide +kernel
theorem dX8_least_11 : decode cX8_least 11 = .ok (.ldc2_w 101, 3) := by decide +kernel
theorem dX8_least_14 : decode cX8_least 14 = .ok (.invokestatic 60, 3) := by decide +kernel
theorem dX8_least_17 : decode cX8_least 17 = .ok (.ifCond .eq 15, 3) := by decide +kernel
theorem dX8_least_20 : decode cX8_least 20 = .ok (.iload_n 3, 1) := by decide +kernel
theorem dX8_least_21 : decode cX8_least 21 = .ok (.i2l, 1) := by decide +kernel
theorem dX8_least_22 : decode cX8_least 22 = .ok (.lconst 0, 1) := by decide +kernel
theorem dX8_least_23 : decode cX8_least 23 = .ok (.ldc2_w 209, 3) := by decide +kernel
theorem dX8_least_26 : decode cX8_least 26 = .ok (.invokestatic 60, 3) := by decide +kernel
theorem dX8_least_29 : decode cX8_least 29 = .ok (.ifCond .ne 8, 3) := by decide +kernel
theorem dX8_least_32 : decode cX8_least 32 = .ok (.aload_n 0, 1) := by decide +kernel
theorem dX8_least_33 : decode cX8_least 33 = .ok (.invokevirtual 103, 3) := by decide +kernel
theorem dX8_least_36 : decode cX8_least 36 = .ok (.ireturn, 1) := by decide +kernel
theorem dX8_least_37 : decode cX8_least 37 = .ok (.iconst 0, 1) := by decide +kernel
theorem dX8_least_38 : decode cX8_least 38 = .ok (.istore 4, 2) := by decide +kernel
theorem dX8_least_40 : decode cX8_least 40 = .ok (.iload 4, 2) := by decide +kernel
theorem dX8_least_42 : decode cX8_least 42 = .ok (.bipush 10, 2) := by decide +kernel
theorem dX8_least_44 : decode cX8_least 44 = .ok (.if_icmp .ge 71, 3) := by decide +kernel
theorem dX8_least_47 : decode cX8_least 47 = .ok (.aload_n 0, 1) := by decide +kernel
theorem dX8_least_48 : decode cX8_least 48 = .ok (.iload_n 1, 1) := by decide +kernel
theorem dX8_least_49 : decode cX8_least 49 = .ok (.invokevirtual 248, 3) := by decide +kernel
theorem dX8_least_52 : decode cX8_least 52 = .ok (.iconst 0, 1) := by decide +kernel
theorem dX8_least_53 : decode cX8_least 53 = .ok (.istore 5, 2) := by decide +kernel
theorem dX8_least_55 : decode cX8_least 55 = .ok (.iload 5, 2) := by decide +kernel
theorem dX8_least_57 : decode cX8_least 57 = .ok (.iload_n 3, 1) := by decide +kernel
theorem dX8_least_58 : decode cX8_least 58 = .ok (.if_icmp .ge 40, 3) := by decide +kernel
theorem dX8_least_61 : decode cX8_least 61 = .ok (.aload_n 0, 1) := by decide +kernel
theorem dX8_least_62 : decode cX8_least 62 = .ok (.getfield 29, 3) := by decide +kernel
theorem dX8_least_65 : decode cX8_least 65 = .ok (.iconst 0, 1) := by decide +kernel
theorem dX8_least_66 : decode cX8_least 66 = .ok (.aload_n 0, 1) := by decide +kernel
theorem dX8_least_67 : decode cX8_least 67 = .ok (.getfield 7, 3) := by decide +kernel
theorem dX8_least_70 : decode cX8_least 70 = .ok (.bipush 8, 2) := by decide +kernel
theorem dX8_least_72 : decode cX8_least 72 = .ok (.iload_n 1, 1) := by decide +kernel
theorem dX8_least_73 : decode cX8_least 73 = .ok (.iadd, 1) := by decide +kernel
theorem dX8_least_74 : decode cX8_least 74 = .ok (.iaload, 1) := by decide +kernel
theorem dX8_least_75 : decode cX8_least 75 = .ok (.aload_n 0, 1) := by decide +kernel
theorem dX8_least_76 : decode cX8_least 76 = .ok (.getfield 7, 3) := by decide +kernel
theorem dX8_least_79 : decode cX8_least 79 = .ok (.iconst 3, 1) := by decide +kernel
theorem dX8_least_80 : decode cX8_least 80 = .ok (.iaload, 1) := by decide +kernel
theorem dX8_least_81 : decode cX8_least 81 = .ok (.iload 5, 2) := by decide +kernel
theorem dX8_least_83 : decode cX8_least 83 = .ok (.iadd, 1) := by decide +kernel
theorem dX8_least_84 : decode cX8_least 84 = .ok (.iload 4, 2) := by decide +kernel
theorem dX8_least_86 : decode cX8_least 86 = .ok (.invokestatic 87, 3) := by decide +kernel
theorem dX8_least_89 : decode cX8_least 89 = .ok (.invokestatic 90, 3) := by decide +kernel
theorem dX8_least_92 : decode cX8_least 92 = .ok (.iinc 5 1, 3) := by decide +kernel
theorem dX8_least_95 : decode cX8_least 95 = .ok (.goto (-40), 3) := by decide +kernel
theorem dX8_least_98 : decode cX8_least 98 = .ok (.aload_n 0, 1) := by decide +kernel
theorem dX8_least_99 : decode cX8_least 99 = .ok (.invokevirtual 251, 3) := by decide +kernel
theorem dX8_least_102 : decode cX8_least 102 = .ok (.iload_n 2, 1) := by decide +kernel
theorem dX8_least_103 : decode cX8_least 103 = .ok (.if_icmp .lt 6, 3) := by decide +kernel
theorem dX8_least_106 : decode cX8_least 106 = .ok (.iload 4, 2) := by decide +kernel
theorem dX8_least_108 : decode cX8_least 108 = .ok (.ireturn, 1) := by decide +kernel
theorem dX8_least_109 : decode cX8_least 109 = .ok (.iinc 4 1, 3) := by decide +kernel
theorem dX8_least_112 : decode cX8_least 112 = .ok (.goto (-72), 3) := by decide +kernel
theorem dX8_least_115 : decode cX8_least 115 = .ok (.iconst (-1), 1) := by decide +kernel
theorem dX8_least_116 : decode cX8_least 116 = .ok (.ireturn, 1) := by decide +kernel
set_option maxRecDepth 20000 in
theorem dX8_throwsOf_0 : decode cX8_throwsOf 0 = .ok (.aload_n 0, 1) := by decide +kernel
theorem dX8_throwsOf_1 : decode cX8_throwsOf 1 = .ok (.iload_n 1, 1) := by decide +kernel
theorem dX8_throwsOf_2 : decode cX8_throwsOf 2 = .ok (.invokevirtual 223, 3) := by decide +kernel
theorem dX8_throwsOf_5 : decode cX8_throwsOf 5 = .ok (.ifCond .eq 25, 3) := by decide +kernel
theorem dX8_throwsOf_8 : decode cX8_throwsOf 8 = .ok (.iload_n 2, 1) := by decide +kernel
theorem dX8_throwsOf_9 : decode cX8_throwsOf 9 = .ok (.i2l, 1) := by decide +kernel
theorem dX8_throwsOf_10 : decode cX8_throwsOf 10 = .ok (.lconst 1, 1) := by decide +kernel
theorem dX8_throwsOf_11 : decode cX8_throwsOf 11 = .ok (.ldc2_w 101, 3) := by decide +kernel
theorem dX8_throwsOf_14 : decode cX8_throwsOf 14 = .ok (.invokestatic 60, 3) := by decide +kernel
theorem dX8_throwsOf_17 : decode cX8_throwsOf 17 = .ok (.ifCond .eq 13, 3) := by decide +kernel
theorem dX8_throwsOf_20 : decode cX8_throwsOf 20 = .ok (.iload_n 3, 1) := by decide +kernel
theorem dX8_throwsOf_21 : decode cX8_throwsOf 21 = .ok (.i2l, 1) := by decide +kernel
theorem dX8_throwsOf_22 : decode cX8_throwsOf 22 = .ok (.lconst 0, 1) := by decide +kernel
theorem dX8_throwsOf_23 : decode cX8_throwsOf 23 = .ok (.lconst 1, 1) := by decide +kernel
theorem dX8_throwsOf_24 : decode cX8_throwsOf 24 = .ok (.invokestatic 60, 3) := by decide +kernel
theorem dX8_throwsOf_27 : decode cX8_throwsOf 27 = .ok (.ifCond .ne 8, 3) := by decide +kernel
theorem dX8_throwsOf_30 : decode cX8_throwsOf 30 = .ok (.aload_n 0, 1) := by decide +kernel
theorem dX8_throwsOf_31 : decode cX8_throwsOf 31 = .ok (.invokevirtual 103, 3) := by decide +kernel
theorem dX8_throwsOf_34 : decode cX8_throwsOf 34 = .ok (.ireturn, 1) := by decide +kernel
theorem dX8_throwsOf_35 : decode cX8_throwsOf 35 = .ok (.iload_n 3, 1) := by decide +kernel
theorem dX8_throwsOf_36 : decode cX8_throwsOf 36 = .ok (.ifCond .ne 18, 3) := by decide +kernel
theorem dX8_throwsOf_39 : decode cX8_throwsOf 39 = .ok (.aload_n 0, 1) := by decide +kernel
theorem dX8_throwsOf_40 : decode cX8_throwsOf 40 = .ok (.iload_n 1, 1) := by decide +kernel
theorem dX8_throwsOf_41 : decode cX8_throwsOf 41 = .ok (.iload_n 2, 1) := by decide +kernel
theorem dX8_throwsOf_42 : decode cX8_throwsOf 42 = .ok (.aload_n 0, 1) := by decide +kernel
theorem dX8_throwsOf_43 : decode cX8_throwsOf 43 = .ok (.getfield 7, 3) := by decide +kernel
theorem dX8_throwsOf_46 : decode cX8_throwsOf 46 = .ok (.iconst 4, 1) := by decide +kernel
theorem dX8_throwsOf_47 : decode cX8_throwsOf 47 = .ok (.iaload, 1) := by decide +kernel
theorem dX8_throwsOf_48 : decode cX8_throwsOf 48 = .ok (.invokevirtual 79, 3) := by decide +kernel
theorem dX8_throwsOf_51 : decode cX8_throwsOf 51 = .ok (.goto 9, 3) := by decide +kernel
theorem dX8_throwsOf_54 : decode cX8_throwsOf 54 = .ok (.aload_n 0, 1) := by decide +kernel
theorem dX8_throwsOf_55 : decode cX8_throwsOf 55 = .ok (.iload_n 1, 1) := by decide +kernel
theorem dX8_throwsOf_56 : decode cX8_throwsOf 56 = .ok (.iload_n 2, 1) := by decide +kernel
theorem dX8_throwsOf_57 : decode cX8_throwsOf 57 = .ok (.invokevirtual 236, 3) := by decide +kernel
theorem dX8_throwsOf_60 : decode cX8_throwsOf 60 = .ok (.ireturn, 1) := by decide +kernel
set_option maxRecDepth 20000 in
theorem dX8_reach_0 : decode cX8_reach 0 = .ok (.aload_n 0, 1) := by decide +kernel
theorem dX8_reach_1 : decode cX8_reach 1 = .ok (.iload_n 1, 1) := by decide +kernel
theorem dX8_reach_2 : decode cX8_reach 2 = .ok (.invokevirtual 223, 3) := by decide +kernel
theorem dX8_reach_5 : decode cX8_reach 5 = .ok (.ifCond .eq 11, 3) := by decide +kernel
theorem dX8_reach_8 : decode cX8_reach 8 = .ok (.aload_n 0, 1) := by decide +kernel
theorem dX8_reach_9 : decode cX8_reach 9 = .ok (.iload_n 2, 1) := by decide +kernel
theorem dX8_reach_10 : decode cX8_reach 10 = .ok (.invokevirtual 226, 3) := by decide +kernel
theorem dX8_reach_13 : decode cX8_reach 13 = .ok (.ifCond .ne 8, 3) := by decide +kernel
theorem dX8_reach_16 : decode cX8_reach 16 = .ok (.aload_n 0, 1) := by decide +kernel
theorem dX8_reach_17 : decode cX8_reach 17 = .ok (.invokevirtual 103, 3) := by decide +kernel
theorem dX8_reach_20 : decode cX8_reach 20 = .ok (.ireturn, 1) := by decide +kernel
theorem dX8_reach_21 : decode cX8_reach 21 = .ok (.iconst 0, 1) := by decide +kernel
theorem dX8_reach_22 : decode cX8_reach 22 = .ok (.istore_n 3, 1) := by decide +kernel
theorem dX8_reach_23 : decode cX8_reach 23 = .ok (.iconst 1, 1) := by decide +kernel
theorem dX8_reach_24 : decode cX8_reach 24 = .ok (.istore 4, 2) := by decide +kernel
theorem dX8_reach_26 : decode cX8_reach 26 = .ok (.iload 4, 2) := by decide +kernel
theorem dX8_reach_28 : decode cX8_reach 28 = .ok (.bipush 10, 2) := by decide +kernel
theorem dX8_reach_30 : decode cX8_reach 30 = .ok (.if_icmp .ge 37, 3) := by decide +kernel
theorem dX8_reach_33 : decode cX8_reach 33 = .ok (.iload_n 3, 1) := by decide +kernel
theorem dX8_reach_34 : decode cX8_reach 34 = .ok (.aload_n 0, 1) := by decide +kernel
theorem dX8_reach_35 : decode cX8_reach 35 = .ok (.iload_n 1, 1) := by decide +kernel
theorem dX8_reach_36 : decode cX8_reach 36 = .ok (.iload 4, 2) := by decide +kernel
theorem dX8_reach_38 : decode cX8_reach 38 = .ok (.iload_n 2, 1) := by decide +kernel
theorem dX8_reach_39 : decode cX8_reach 39 = .ok (.aload_n 0, 1) := by decide +kernel
theorem dX8_reach_40 : decode cX8_reach 40 = .ok (.getfield 7, 3) := by decide +kernel
theorem dX8_reach_43 : decode cX8_reach 43 = .ok (.iconst 4, 1) := by decide +kernel
theorem dX8_reach_44 : decode cX8_reach 44 = .ok (.iaload, 1) := by decide +kernel
theorem dX8_reach_45 : decode cX8_reach 45 = .ok (.invokevirtual 232, 3) := by decide +kernel
theorem dX8_reach_48 : decode cX8_reach 48 = .ok (.ifCond .eq 10, 3) := by decide +kernel
theorem dX8_reach_51 : decode cX8_reach 51 = .ok (.iconst 1, 1) := by decide +kernel
theorem dX8_reach_52 : decode cX8_reach 52 = .ok (.iload 4, 2) := by decide +kernel
theorem dX8_reach_54 : decode cX8_reach 54 = .ok (.ishl, 1) := by decide +kernel
theorem dX8_reach_55 : decode cX8_reach 55 = .ok (.goto 4, 3) := by decide +kernel
theorem dX8_reach_58 : decode cX8_reach 58 = .ok (.iconst 0, 1) := by decide +kernel
theorem dX8_reach_59 : decode cX8_reach 59 = .ok (.ior, 1) := by decide +kernel
theorem dX8_reach_60 : decode cX8_reach 60 = .ok (.istore_n 3, 1) := by decide +kernel
theorem dX8_reach_61 : decode cX8_reach 61 = .ok (.iinc 4 1, 3) := by decide +kernel
theorem dX8_reach_64 : decode cX8_reach 64 = .ok (.goto (-38), 3) := by decide +kernel
theorem dX8_reach_67 : decode cX8_reach 67 = .ok (.iload_n 3, 1) := by decide +kernel
theorem dX8_reach_68 : decode cX8_reach 68 = .ok (.ireturn, 1) := by decide +kernel
theorem dX8_throwOne_0 : decode cX8_throwOne 0 = .ok (.iload_n 3, 1) := by decide +kernel
theorem dX8_throwOne_1 : decode cX8_throwOne 1 = .ok (.iconst 1, 1) := by decide +kernel
theorem dX8_throwOne_2 : decode cX8_throwOne 2 = .ok (.isub, 1) := by decide +kernel
theorem dX8_throwOne_3 : decode cX8_throwOne 3 = .ok (.istore 4, 2) := by decide +kernel
theorem dX8_throwOne_5 : decode cX8_throwOne 5 = .ok (.iload 4, 2) := by decide +kernel
theorem dX8_throwOne_7 : decode cX8_throwOne 7 = .ok (.ifCond .lt 73, 3) := by decide +kernel
theorem dX8_throwOne_10 : decode cX8_throwOne 10 = .ok (.iload 4, 2) := by decide +kernel
theorem dX8_throwOne_12 : decode cX8_throwOne 12 = .ok (.iload_n 2, 1) := by decide +kernel
theorem dX8_throwOne_13 : decode cX8_throwOne 13 = .ok (.iadd, 1) := by decide +kernel
theorem dX8_throwOne_14 : decode cX8_throwOne 14 = .ok (.iload_n 3, 1) := by decide +kernel
theorem dX8_throwOne_15 : decode cX8_throwOne 15 = .ok (.if_icmp .ge 10, 3) := by decide +kernel
theorem dX8_throwOne_18 : decode cX8_throwOne 18 = .ok (.iload 4, 2) := by decide +kernel
theorem dX8_throwOne_20 : decode cX8_throwOne 20 = .ok (.iload_n 2, 1) := by decide +kernel
theorem dX8_throwOne_21 : decode cX8_throwOne 21 = .ok (.iadd, 1) := by decide +kernel
theorem dX8_throwOne_22 : decode cX8_throwOne 22 = .ok (.goto 4, 3) := by decide +kernel
theorem dX8_throwOne_25 : decode cX8_throwOne 25 = .ok (.iload_n 3, 1) := by decide +kernel
theorem dX8_throwOne_26 : decode cX8_throwOne 26 = .ok (.istore 5, 2) := by decide +kernel
theorem dX8_throwOne_28 : decode cX8_throwOne 28 = .ok (.aload_n 0, 1) := by decide +kernel
theorem dX8_throwOne_29 : decode cX8_throwOne 29 = .ok (.getfield 32, 3) := by decide +kernel
theorem dX8_throwOne_32 : decode cX8_throwOne 32 = .ok (.iload 4, 2) := by decide +kernel
theorem dX8_throwOne_34 : decode cX8_throwOne 34 = .ok (.iaload, 1) := by decide +kernel
theorem dX8_throwOne_35 : decode cX8_throwOne 35 = .ok (.sipush 1000, 3) := by decide +kernel
theorem dX8_throwOne_38 : decode cX8_throwOne 38 = .ok (.iadd, 1) := by decide +kernel
theorem dX8_throwOne_39 : decode cX8_throwOne 39 = .ok (.iload_n 1, 1) := by decide +kernel
theorem dX8_throwOne_40 : decode cX8_throwOne 40 = .ok (.iadd, 1) := by decide +kernel
theorem dX8_throwOne_41 : decode cX8_throwOne 41 = .ok (.istore 6, 2) := by decide +kernel
theorem dX8_throwOne_43 : decode cX8_throwOne 43 = .ok (.aload_n 0, 1) := by decide +kernel
theorem dX8_throwOne_44 : decode cX8_throwOne 44 = .ok (.getfield 32, 3) := by decide +kernel
theorem dX8_throwOne_47 : decode cX8_throwOne 47 = .ok (.iload 5, 2) := by decide +kernel
theorem dX8_throwOne_49 : decode cX8_throwOne 49 = .ok (.iload 6, 2) := by decide +kernel
theorem dX8_throwOne_51 : decode cX8_throwOne 51 = .ok (.aload_n 0, 1) := by decide +kernel
theorem dX8_throwOne_52 : decode cX8_throwOne 52 = .ok (.getfield 32, 3) := by decide +kernel
theorem dX8_throwOne_55 : decode cX8_throwOne 55 = .ok (.iload 5, 2) := by decide +kernel
theorem dX8_throwOne_57 : decode cX8_throwOne 57 = .ok (.iaload, 1) := by decide +kernel
theorem dX8_throwOne_58 : decode cX8_throwOne 58 = .ok (.if_icmp .ge 8, 3) := by decide +kernel
theorem dX8_throwOne_61 : decode cX8_throwOne 61 = .ok (.iload 6, 2) := by decide +kernel
theorem dX8_throwOne_63 : decode cX8_throwOne 63 = .ok (.goto 10, 3) := by decide +kernel
theorem dX8_throwOne_66 : decode cX8_throwOne 66 = .ok (.aload_n 0, 1) := by decide +kernel
theorem dX8_throwOne_67 : decode cX8_throwOne 67 = .ok (.getfield 32, 3) := by decide +kernel
theorem dX8_throwOne_70 : decode cX8_throwOne 70 = .ok (.iload 5, 2) := by decide +kernel
theorem dX8_throwOne_72 : decode cX8_throwOne 72 = .ok (.iaload, 1) := by decide +kernel
theorem dX8_throwOne_73 : decode cX8_throwOne 73 = .ok (.iastore, 1) := by decide +kernel
theorem dX8_throwOne_74 : decode cX8_throwOne 74 = .ok (.iinc 4 (-1), 3) := by decide +kernel
theorem dX8_throwOne_77 : decode cX8_throwOne 77 = .ok (.goto (-72), 3) := by decide +kernel
theorem dX8_throwOne_80 : decode cX8_throwOne 80 = .ok (.return_, 1) := by decide +kernel
set_option maxRecDepth 20000 in
theorem dX8_turn_0 : decode cX8_turn 0 = .ok (.aload_n 0, 1) := by decide +kernel
theorem dX8_turn_1 : decode cX8_turn 1 = .ok (.iload_n 1, 1) := by decide +kernel
theorem dX8_turn_2 : decode cX8_turn 2 = .ok (.invokevirtual 226, 3) := by decide +kernel
theorem dX8_turn_5 : decode cX8_turn 5 = .ok (.ifCond .eq 30, 3) := by decide +kernel
theorem dX8_turn_8 : decode cX8_turn 8 = .ok (.aload_n 0, 1) := by decide +kernel
theorem dX8_turn_9 : decode cX8_turn 9 = .ok (.iload_n 2, 1) := by decide +kernel
theorem dX8_turn_10 : decode cX8_turn 10 = .ok (.invokevirtual 223, 3) := by decide +kernel
theorem dX8_turn_13 : decode cX8_turn 13 = .ok (.ifCond .eq 22, 3) := by decide +kernel
theorem dX8_turn_16 : decode cX8_turn 16 = .ok (.aload_n 0, 1) := by decide +kernel
theorem dX8_turn_17 : decode cX8_turn 17 = .ok (.iload_n 3, 1) := by decide +kernel
theorem dX8_turn_18 : decode cX8_turn 18 = .ok (.invokevirtual 116, 3) := by decide +kernel
theorem dX8_turn_21 : decode cX8_turn 21 = .ok (.ifCond .eq 14, 3) := by decide +kernel
theorem dX8_turn_24 : decode cX8_turn 24 = .ok (.iload 4, 2) := by decide +kernel
theorem dX8_turn_26 : decode cX8_turn 26 = .ok (.i2l, 1) := by decide +kernel
theorem dX8_turn_27 : decode cX8_turn 27 = .ok (.lconst 0, 1) := by decide +kernel
theorem dX8_turn_28 : decode cX8_turn 28 = .ok (.lconst 1, 1) := by decide +kernel
theorem dX8_turn_29 : decode cX8_turn 29 = .ok (.invokestatic 60, 3) := by decide +kernel
theorem dX8_turn_32 : decode cX8_turn 32 = .ok (.ifCond .ne 8, 3) := by decide +kernel
theorem dX8_turn_35 : decode cX8_turn 35 = .ok (.aload_n 0, 1) := by decide +kernel
theorem dX8_turn_36 : decode cX8_turn 36 = .ok (.invokevirtual 103, 3) := by decide +kernel
theorem dX8_turn_39 : decode cX8_turn 39 = .ok (.ireturn, 1) := by decide +kernel
theorem dX8_turn_40 : decode cX8_turn 40 = .ok (.aload_n 0, 1) := by decide +kernel
theorem dX8_turn_41 : decode cX8_turn 41 = .ok (.getfield 7, 3) := by decide +kernel
theorem dX8_turn_44 : decode cX8_turn 44 = .ok (.bipush 84, 2) := by decide +kernel
theorem dX8_turn_46 : decode cX8_turn 46 = .ok (.iload_n 1, 1) := by decide +kernel
theorem dX8_turn_47 : decode cX8_turn 47 = .ok (.iadd, 1) := by decide +kernel
theorem dX8_turn_48 : decode cX8_turn 48 = .ok (.iaload, 1) := by decide +kernel
theorem dX8_turn_49 : decode cX8_turn 49 = .ok (.aload_n 0, 1) := by decide +kernel
theorem dX8_turn_50 : decode cX8_turn 50 = .ok (.getfield 7, 3) := by decide +kernel
theorem dX8_turn_53 : decode cX8_turn 53 = .ok (.bipush 88, 2) := by decide +kernel
theorem dX8_turn_55 : decode cX8_turn 55 = .ok (.iload_n 1, 1) := by decide +kernel
theorem dX8_turn_56 : decode cX8_turn 56 = .ok (.iadd, 1) := by decide +kernel
theorem dX8_turn_57 : decode cX8_turn 57 = .ok (.iaload, 1) := by decide +kernel
theorem dX8_turn_58 : decode cX8_turn 58 = .ok (.isub, 1) := by decide +kernel
theorem dX8_turn_59 : decode cX8_turn 59 = .ok (.invokestatic 64, 3) := by decide +kernel
theorem dX8_turn_62 : decode cX8_turn 62 = .ok (.istore 5, 2) := by decide +kernel
theorem dX8_turn_64 : decode cX8_turn 64 = .ok (.iconst 0, 1) := by decide +kernel
theorem dX8_turn_65 : decode cX8_turn 65 = .ok (.istore 6, 2) := by decide +kernel
theorem dX8_turn_67 : decode cX8_turn 67 = .ok (.iload 6, 2) := by decide +kernel
theorem dX8_turn_69 : decode cX8_turn 69 = .ok (.bipush 41, 2) := by decide +kernel
theorem dX8_turn_71 : decode cX8_turn 71 = .ok (.if_icmp .ge 27, 3) := by decide +kernel
theorem dX8_turn_74 : decode cX8_turn 74 = .ok (.aload_n 0, 1) := by decide +kernel
theorem dX8_turn_75 : decode cX8_turn 75 = .ok (.getfield 32, 3) := by decide +kernel
theorem dX8_turn_78 : decode cX8_turn 78 = .ok (.iload 6, 2) := by decide +kernel
theorem dX8_turn_80 : decode cX8_turn 80 = .ok (.iload 6, 2) := by decide +kernel
theorem dX8_turn_82 : decode cX8_turn 82 = .ok (.ifCond .ne 7, 3) := by decide +kernel
theorem dX8_turn_85 : decode cX8_turn 85 = .ok (.iconst 0, 1) := by decide +kernel
theorem dX8_turn_86 : decode cX8_turn 86 = .ok (.goto 5, 3) := by decide +kernel
theorem dX8_turn_89 : decode cX8_turn 89 = .ok (.ldc 160, 2) := by decide +kernel
theorem dX8_turn_91 : decode cX8_turn 91 = .ok (.iastore, 1) := by decide +kernel
theorem dX8_turn_92 : decode cX8_turn 92 = .ok (.iinc 6 1, 3) := by decide +kernel
theorem dX8_turn_95 : decode cX8_turn 95 = .ok (.goto (-28), 3) := by decide +kernel
theorem dX8_turn_98 : decode cX8_turn 98 = .ok (.iconst 1, 1) := by decide +kernel
theorem dX8_turn_99 : decode cX8_turn 99 = .ok (.istore 6, 2) := by decide +kernel
theorem dX8_turn_101 : decode cX8_turn 101 = .ok (.iload 6, 2) := by decide +kernel
theorem dX8_turn_103 : decode cX8_turn 103 = .ok (.bipush 10, 2) := by decide +kernel
theorem dX8_turn_105 : decode cX8_turn 105 = .ok (.if_icmp .ge 77, 3) := by decide +kernel
theorem dX8_turn_108 : decode cX8_turn 108 = .ok (.iconst 0, 1) := by decide +kernel
theorem dX8_turn_109 : decode cX8_turn 109 = .ok (.istore 7, 2) := by decide +kernel
theorem dX8_turn_111 : decode cX8_turn 111 = .ok (.iload 7, 2) := by decide +kernel
theorem dX8_turn_113 : decode cX8_turn 113 = .ok (.aload_n 0, 1) := by decide +kernel
theorem dX8_turn_114 : decode cX8_turn 114 = .ok (.getfield 7, 3) := by decide +kernel
theorem dX8_turn_117 : decode cX8_turn 117 = .ok (.bipush 18, 2) := by decide +kernel
theorem dX8_turn_119 : decode cX8_turn 119 = .ok (.bipush 10, 2) := by decide +kernel
theorem dX8_turn_121 : decode cX8_turn 121 = .ok (.iload_n 3, 1) := by decide +kernel
theorem dX8_turn_122 : decode cX8_turn 122 = .ok (.imul, 1) := by decide +kernel
theorem dX8_turn_123 : decode cX8_turn 123 = .ok (.iadd, 1) := by decide +kernel
theorem dX8_turn_124 : decode cX8_turn 124 = .ok (.iload 6, 2) := by decide +kernel
theorem dX8_turn_126 : decode cX8_turn 126 = .ok (.iadd, 1) := by decide +kernel
theorem dX8_turn_127 : decode cX8_turn 127 = .ok (.iaload, 1) := by decide +kernel
theorem dX8_turn_128 : decode cX8_turn 128 = .ok (.if_icmp .ge 48, 3) := by decide +kernel
theorem dX8_turn_131 : decode cX8_turn 131 = .ok (.iload 7, 2) := by decide +kernel
theorem dX8_turn_133 : decode cX8_turn 133 = .ok (.bipush 40, 2) := by decide +kernel
theorem dX8_turn_135 : decode cX8_turn 135 = .ok (.if_icmp .ge 41, 3) := by decide +kernel
theorem dX8_turn_138 : decode cX8_turn 138 = .ok (.aload_n 0, 1) := by decide +kernel
theorem dX8_turn_139 : decode cX8_turn 139 = .ok (.iload_n 2, 1) := by decide +kernel
theorem dX8_turn_140 : decode cX8_turn 140 = .ok (.iload 6, 2) := by decide +kernel
theorem dX8_turn_142 : decode cX8_turn 142 = .ok (.iload_n 1, 1) := by decide +kernel
theorem dX8_turn_143 : decode cX8_turn 143 = .ok (.aload_n 0, 1) := by decide +kernel
theorem dX8_turn_144 : decode cX8_turn 144 = .ok (.getfield 7, 3) := by decide +kernel
theorem dX8_turn_147 : decode cX8_turn 147 = .ok (.iconst 4, 1) := by decide +kernel
theorem dX8_turn_148 : decode cX8_turn 148 = .ok (.iaload, 1) := by decide +kernel
theorem dX8_turn_149 : decode cX8_turn 149 = .ok (.invokevirtual 232, 3) := by decide +kernel
theorem dX8_turn_152 : decode cX8_turn 152 = .ok (.ifCond .eq 24, 3) := by decide +kernel
theorem dX8_turn_155 : decode cX8_turn 155 = .ok (.aload_n 0, 1) := by decide +kernel
theorem dX8_turn_156 : decode cX8_turn 156 = .ok (.iload 6, 2) := by decide +kernel
theorem dX8_turn_158 : decode cX8_turn 158 = .ok (.aload_n 0, 1) := by decide +kernel
theorem dX8_turn_159 : decode cX8_turn 159 = .ok (.iload_n 2, 1) := by decide +kernel
theorem dX8_turn_160 : decode cX8_turn 160 = .ok (.iload 6, 2) := by decide +kernel
theorem dX8_turn_162 : decode cX8_turn 162 = .ok (.invokevirtual 236, 3) := by decide +kernel
theorem dX8_turn_165 : decode cX8_turn 165 = .ok (.iload 5, 2) := by decide +kernel
theorem dX8_turn_167 : decode cX8_turn 167 = .ok (.invokevirtual 254, 3) := by decide +kernel
theorem dX8_turn_170 : decode cX8_turn 170 = .ok (.iinc 7 1, 3) := by decide +kernel
theorem dX8_turn_173 : decode cX8_turn 173 = .ok (.goto (-62), 3) := by decide +kernel
theorem dX8_turn_176 : decode cX8_turn 176 = .ok (.iinc 6 1, 3) := by decide +kernel
theorem dX8_turn_179 : decode cX8_turn 179 = .ok (.goto (-78), 3) := by decide +kernel
theorem dX8_turn_182 : decode cX8_turn 182 = .ok (.aload_n 0, 1) := by decide +kernel
theorem dX8_turn_183 : decode cX8_turn 183 = .ok (.getfield 32, 3) := by decide +kernel
theorem dX8_turn_186 : decode cX8_turn 186 = .ok (.iload 5, 2) := by decide +kernel
theorem dX8_turn_188 : decode cX8_turn 188 = .ok (.iaload, 1) := by decide +kernel
theorem dX8_turn_189 : decode cX8_turn 189 = .ok (.ldc 160, 2) := by decide +kernel
theorem dX8_turn_191 : decode cX8_turn 191 = .ok (.if_icmp .lt 5, 3) := by decide +kernel
theorem dX8_turn_194 : decode cX8_turn 194 = .ok (.iconst (-1), 1) := by decide +kernel
theorem dX8_turn_195 : decode cX8_turn 195 = .ok (.ireturn, 1) := by decide +kernel
theorem dX8_turn_196 : decode cX8_turn 196 = .ok (.iload 4, 2) := by decide +kernel
theorem dX8_turn_198 : decode cX8_turn 198 = .ok (.ifCond .ne 17, 3) := by decide +kernel
theorem dX8_turn_201 : decode cX8_turn 201 = .ok (.aload_n 0, 1) := by decide +kernel
theorem dX8_turn_202 : decode cX8_turn 202 = .ok (.getfield 32, 3) := by decide +kernel
theorem dX8_turn_205 : decode cX8_turn 205 = .ok (.iload 5, 2) := by decide +kernel
theorem dX8_turn_207 : decode cX8_turn 207 = .ok (.iaload, 1) := by decide +kernel
theorem dX8_turn_208 : decode cX8_turn 208 = .ok (.sipush 1000, 3) := by decide +kernel
theorem dX8_turn_211 : decode cX8_turn 211 = .ok (.idiv, 1) := by decide +kernel
theorem dX8_turn_212 : decode cX8_turn 212 = .ok (.goto 14, 3) := by decide +kernel
theorem dX8_turn_215 : decode cX8_turn 215 = .ok (.aload_n 0, 1) := by decide +kernel
theorem dX8_turn_216 : decode cX8_turn 216 = .ok (.getfield 32, 3) := by decide +kernel
theorem dX8_turn_219 : decode cX8_turn 219 = .ok (.iload 5, 2) := by decide +kernel
theorem dX8_turn_221 : decode cX8_turn 221 = .ok (.iaload, 1) := by decide +kernel
theorem dX8_turn_222 : decode cX8_turn 222 = .ok (.sipush 1000, 3) := by decide +kernel
theorem dX8_turn_225 : decode cX8_turn 225 = .ok (.irem, 1) := by decide +kernel
theorem dX8_turn_226 : decode cX8_turn 226 = .ok (.ireturn, 1) := by decide +kernel
theorem dX8_ways_0 : decode cX8_ways 0 = .ok (.iconst 1, 1) := by decide +kernel
theorem dX8_ways_1 : decode cX8_ways 1 = .ok (.istore_n 1, 1) := by decide +kernel
theorem dX8_ways_2 : decode cX8_ways 2 = .ok (.iconst 0, 1) := by decide +kernel
theorem dX8_ways_3 : decode cX8_ways 3 = .ok (.istore_n 2, 1) := by decide +kernel
theorem dX8_ways_4 : decode cX8_ways 4 = .ok (.iload_n 2, 1) := by decide +kernel
theorem dX8_ways_5 : decode cX8_ways 5 = .ok (.aload_n 0, 1) := by decide +kernel
theorem dX8_ways_6 : decode cX8_ways 6 = .ok (.getfield 7, 3) := by decide +kernel
theorem dX8_ways_9 : decode cX8_ways 9 = .ok (.iconst 1, 1) := by decide +kernel
theorem dX8_ways_10 : decode cX8_ways 10 = .ok (.iaload, 1) := by decide +kernel
theorem dX8_ways_11 : decode cX8_ways 11 = .ok (.if_icmp .ge 18, 3) := by decide +kernel
theorem dX8_ways_14 : decode cX8_ways 14 = .ok (.iload_n 1, 1) := by decide +kernel
theorem dX8_ways_15 : decode cX8_ways 15 = .ok (.aload_n 0, 1) := by decide +kernel
theorem dX8_ways_16 : decode cX8_ways 16 = .ok (.getfield 7, 3) := by decide +kernel
theorem dX8_ways_19 : decode cX8_ways 19 = .ok (.iconst 2, 1) := by decide +kernel
theorem dX8_ways_20 : decode cX8_ways 20 = .ok (.iaload, 1) := by decide +kernel
theorem dX8_ways_21 : decode cX8_ways 21 = .ok (.imul, 1) := by decide +kernel
theorem dX8_ways_22 : decode cX8_ways 22 = .ok (.istore_n 1, 1) := by decide +kernel
theorem dX8_ways_23 : decode cX8_ways 23 = .ok (.iinc 2 1, 3) := by decide +kernel
theorem dX8_ways_26 : decode cX8_ways 26 = .ok (.goto (-22), 3) := by decide +kernel
theorem dX8_ways_29 : decode cX8_ways 29 = .ok (.iload_n 1, 1) := by decide +kernel
theorem dX8_ways_30 : decode cX8_ways 30 = .ok (.ireturn, 1) := by decide +kernel
theorem dX8_cloudOf_0 : decode cX8_cloudOf 0 = .ok (.iload_n 1, 1) := by decide +kernel
theorem dX8_cloudOf_1 : decode cX8_cloudOf 1 = .ok (.istore_n 3, 1) := by decide +kernel
theorem dX8_cloudOf_2 : decode cX8_cloudOf 2 = .ok (.aload_n 0, 1) := by decide +kernel
theorem dX8_cloudOf_3 : decode cX8_cloudOf 3 = .ok (.getfield 7, 3) := by decide +kernel
theorem dX8_cloudOf_6 : decode cX8_cloudOf 6 = .ok (.iconst 1, 1) := by decide +kernel
theorem dX8_cloudOf_7 : decode cX8_cloudOf 7 = .ok (.iaload, 1) := by decide +kernel
theorem dX8_cloudOf_8 : decode cX8_cloudOf 8 = .ok (.iconst 1, 1) := by decide +kernel
theorem dX8_cloudOf_9 : decode cX8_cloudOf 9 = .ok (.isub, 1) := by decide +kernel
theorem dX8_cloudOf_10 : decode cX8_cloudOf 10 = .ok (.istore 4, 2) := by decide +kernel
theorem dX8_cloudOf_12 : decode cX8_cloudOf 12 = .ok (.iload 4, 2) := by decide +kernel
theorem dX8_cloudOf_14 : decode cX8_cloudOf 14 = .ok (.iload_n 2, 1) := by decide +kernel
theorem dX8_cloudOf_15 : decode cX8_cloudOf 15 = .ok (.if_icmp .le 18, 3) := by decide +kernel
theorem dX8_cloudOf_18 : decode cX8_cloudOf 18 = .ok (.iload_n 3, 1) := by decide +kernel
theorem dX8_cloudOf_19 : decode cX8_cloudOf 19 = .ok (.aload_n 0, 1) := by decide +kernel
theorem dX8_cloudOf_20 : decode cX8_cloudOf 20 = .ok (.getfield 7, 3) := by decide +kernel
theorem dX8_cloudOf_23 : decode cX8_cloudOf 23 = .ok (.iconst 2, 1) := by decide +kernel
theorem dX8_cloudOf_24 : decode cX8_cloudOf 24 = .ok (.iaload, 1) := by decide +kernel
theorem dX8_cloudOf_25 : decode cX8_cloudOf 25 = .ok (.idiv, 1) := by decide +kernel
theorem dX8_cloudOf_26 : decode cX8_cloudOf 26 = .ok (.istore_n 3, 1) := by decide +kernel
theorem dX8_cloudOf_27 : decode cX8_cloudOf 27 = .ok (.iinc 4 (-1), 3) := by decide +kernel
theorem dX8_cloudOf_30 : decode cX8_cloudOf 30 = .ok (.goto (-18), 3) := by decide +kernel
theorem dX8_cloudOf_33 : decode cX8_cloudOf 33 = .ok (.iload_n 3, 1) := by decide +kernel
theorem dX8_cloudOf_34 : decode cX8_cloudOf 34 = .ok (.aload_n 0, 1) := by decide +kernel
theorem dX8_cloudOf_35 : decode cX8_cloudOf 35 = .ok (.getfield 7, 3) := by decide +kernel
theorem dX8_cloudOf_38 : decode cX8_cloudOf 38 = .ok (.iconst 2, 1) := by decide +kernel
theorem dX8_cloudOf_39 : decode cX8_cloudOf 39 = .ok (.iaload, 1) := by decide +kernel
theorem dX8_cloudOf_40 : decode cX8_cloudOf 40 = .ok (.irem, 1) := by decide +kernel
theorem dX8_cloudOf_41 : decode cX8_cloudOf 41 = .ok (.ireturn, 1) := by decide +kernel
set_option maxRecDepth 20000 in
theorem dX8_anHour_0 : decode cX8_anHour 0 = .ok (.iconst 0, 1) := by decide +kernel
theorem dX8_anHour_1 : decode cX8_anHour 1 = .ok (.istore_n 3, 1) := by decide +kernel
theorem dX8_anHour_2 : decode cX8_anHour 2 = .ok (.iload_n 3, 1) := by decide +kernel
theorem dX8_anHour_3 : decode cX8_anHour 3 = .ok (.aload_n 0, 1) := by decide +kernel
theorem dX8_anHour_4 : decode cX8_anHour 4 = .ok (.getfield 7, 3) := by decide +kernel
theorem dX8_anHour_7 : decode cX8_anHour 7 = .ok (.iconst 1, 1) := by decide +kernel
theorem dX8_anHour_8 : decode cX8_anHour 8 = .ok (.iaload, 1) := by decide +kernel
theorem dX8_anHour_9 : decode cX8_anHour 9 = .ok (.if_icmp .ge 81, 3) := by decide +kernel
theorem dX8_anHour_12 : decode cX8_anHour 12 = .ok (.aload_n 0, 1) := by decide +kernel
theorem dX8_anHour_13 : decode cX8_anHour 13 = .ok (.iload_n 1, 1) := by decide +kernel
theorem dX8_anHour_14 : decode cX8_anHour 14 = .ok (.iload_n 3, 1) := by decide +kernel
theorem dX8_anHour_15 : decode cX8_anHour 15 = .ok (.invokevirtual 258, 3) := by decide +kernel
theorem dX8_anHour_18 : decode cX8_anHour 18 = .ok (.istore 4, 2) := by decide +kernel
theorem dX8_anHour_20 : decode cX8_anHour 20 = .ok (.aload_n 0, 1) := by decide +kernel
theorem dX8_anHour_21 : decode cX8_anHour 21 = .ok (.getfield 35, 3) := by decide +kernel
theorem dX8_anHour_24 : decode cX8_anHour 24 = .ok (.iload 4, 2) := by decide +kernel
theorem dX8_anHour_26 : decode cX8_anHour 26 = .ok (.iaload, 1) := by decide +kernel
theorem dX8_anHour_27 : decode cX8_anHour 27 = .ok (.ifCond .le 29, 3) := by decide +kernel
theorem dX8_anHour_30 : decode cX8_anHour 30 = .ok (.aload_n 0, 1) := by decide +kernel
theorem dX8_anHour_31 : decode cX8_anHour 31 = .ok (.getfield 35, 3) := by decide +kernel
theorem dX8_anHour_34 : decode cX8_anHour 34 = .ok (.iload 4, 2) := by decide +kernel
theorem dX8_anHour_36 : decode cX8_anHour 36 = .ok (.iaload, 1) := by decide +kernel
theorem dX8_anHour_37 : decode cX8_anHour 37 = .ok (.aload_n 0, 1) := by decide +kernel
theorem dX8_anHour_38 : decode cX8_anHour 38 = .ok (.iload_n 3, 1) := by decide +kernel
theorem dX8_anHour_39 : decode cX8_anHour 39 = .ok (.iload_n 2, 1) := by decide +kernel
theorem dX8_anHour_40 : decode cX8_anHour 40 = .ok (.aload_n 0, 1) := by decide +kernel
theorem dX8_anHour_41 : decode cX8_anHour 41 = .ok (.getfield 7, 3) := by decide +kernel
theorem dX8_anHour_44 : decode cX8_anHour 44 = .ok (.iconst 4, 1) := by decide +kernel
theorem dX8_anHour_45 : decode cX8_anHour 45 = .ok (.iaload, 1) := by decide +kernel
theorem dX8_anHour_46 : decode cX8_anHour 46 = .ok (.invokevirtual 79, 3) := by decide +kernel
theorem dX8_anHour_49 : decode cX8_anHour 49 = .ok (.if_icmp .gt 7, 3) := by decide +kernel
theorem dX8_anHour_52 : decode cX8_anHour 52 = .ok (.iconst 1, 1) := by decide +kernel
theorem dX8_anHour_53 : decode cX8_anHour 53 = .ok (.goto 4, 3) := by decide +kernel
theorem dX8_anHour_56 : decode cX8_anHour 56 = .ok (.iconst 0, 1) := by decide +kernel
theorem dX8_anHour_57 : decode cX8_anHour 57 = .ok (.istore 5, 2) := by decide +kernel
theorem dX8_anHour_59 : decode cX8_anHour 59 = .ok (.aload_n 0, 1) := by decide +kernel
theorem dX8_anHour_60 : decode cX8_anHour 60 = .ok (.getfield 38, 3) := by decide +kernel
theorem dX8_anHour_63 : decode cX8_anHour 63 = .ok (.iload 4, 2) := by decide +kernel
theorem dX8_anHour_65 : decode cX8_anHour 65 = .ok (.dup2, 1) := by decide +kernel
theorem dX8_anHour_66 : decode cX8_anHour 66 = .ok (.iaload, 1) := by decide +kernel
theorem dX8_anHour_67 : decode cX8_anHour 67 = .ok (.iload 5, 2) := by decide +kernel
theorem dX8_anHour_69 : decode cX8_anHour 69 = .ok (.ifCond .eq 12, 3) := by decide +kernel
theorem dX8_anHour_72 : decode cX8_anHour 72 = .ok (.aload_n 0, 1) := by decide +kernel
theorem dX8_anHour_73 : decode cX8_anHour 73 = .ok (.iload_n 3, 1) := by decide +kernel
theorem dX8_anHour_74 : decode cX8_anHour 74 = .ok (.iload_n 2, 1) := by decide +kernel
theorem dX8_anHour_75 : decode cX8_anHour 75 = .ok (.invokevirtual 236, 3) := by decide +kernel
theorem dX8_anHour_78 : decode cX8_anHour 78 = .ok (.goto 4, 3) := by decide +kernel
theorem dX8_anHour_81 : decode cX8_anHour 81 = .ok (.iconst 0, 1) := by decide +kernel
theorem dX8_anHour_82 : decode cX8_anHour 82 = .ok (.iadd, 1) := by decide +kernel
theorem dX8_anHour_83 : decode cX8_anHour 83 = .ok (.iastore, 1) := by decide +kernel
theorem dX8_anHour_84 : decode cX8_anHour 84 = .ok (.iinc 3 1, 3) := by decide +kernel
theorem dX8_anHour_87 : decode cX8_anHour 87 = .ok (.goto (-85), 3) := by decide +kernel
theorem dX8_anHour_90 : decode cX8_anHour 90 = .ok (.iconst 0, 1) := by decide +kernel
theorem dX8_anHour_91 : decode cX8_anHour 91 = .ok (.istore_n 3, 1) := by decide +kernel
theorem dX8_anHour_92 : decode cX8_anHour 92 = .ok (.iload_n 3, 1) := by decide +kernel
theorem dX8_anHour_93 : decode cX8_anHour 93 = .ok (.aload_n 0, 1) := by decide +kernel
theorem dX8_anHour_94 : decode cX8_anHour 94 = .ok (.getfield 7, 3) := by decide +kernel
theorem dX8_anHour_97 : decode cX8_anHour 97 = .ok (.iconst 2, 1) := by decide +kernel
theorem dX8_anHour_98 : decode cX8_anHour 98 = .ok (.iaload, 1) := by decide +kernel
theorem dX8_anHour_99 : decode cX8_anHour 99 = .ok (.if_icmp .ge 50, 3) := by decide +kernel
theorem dX8_anHour_102 : decode cX8_anHour 102 = .ok (.aload_n 0, 1) := by decide +kernel
theorem dX8_anHour_103 : decode cX8_anHour 103 = .ok (.getfield 35, 3) := by decide +kernel
theorem dX8_anHour_106 : decode cX8_anHour 106 = .ok (.iload_n 3, 1) := by decide +kernel
theorem dX8_anHour_107 : decode cX8_anHour 107 = .ok (.dup2, 1) := by decide +kernel
theorem dX8_anHour_108 : decode cX8_anHour 108 = .ok (.iaload, 1) := by decide +kernel
theorem dX8_anHour_109 : decode cX8_anHour 109 = .ok (.aload_n 0, 1) := by decide +kernel
theorem dX8_anHour_110 : decode cX8_anHour 110 = .ok (.getfield 38, 3) := by decide +kernel
theorem dX8_anHour_113 : decode cX8_anHour 113 = .ok (.iload_n 3, 1) := by decide +kernel
theorem dX8_anHour_114 : decode cX8_anHour 114 = .ok (.iaload, 1) := by decide +kernel
theorem dX8_anHour_115 : decode cX8_anHour 115 = .ok (.aload_n 0, 1) := by decide +kernel
theorem dX8_anHour_116 : decode cX8_anHour 116 = .ok (.getfield 7, 3) := by decide +kernel
theorem dX8_anHour_119 : decode cX8_anHour 119 = .ok (.bipush 84, 2) := by decide +kernel
theorem dX8_anHour_121 : decode cX8_anHour 121 = .ok (.iload_n 3, 1) := by decide +kernel
theorem dX8_anHour_122 : decode cX8_anHour 122 = .ok (.iadd, 1) := by decide +kernel
theorem dX8_anHour_123 : decode cX8_anHour 123 = .ok (.iaload, 1) := by decide +kernel
theorem dX8_anHour_124 : decode cX8_anHour 124 = .ok (.if_icmp .ge 16, 3) := by decide +kernel
theorem dX8_anHour_127 : decode cX8_anHour 127 = .ok (.aload_n 0, 1) := by decide +kernel
theorem dX8_anHour_128 : decode cX8_anHour 128 = .ok (.getfield 35, 3) := by decide +kernel
theorem dX8_anHour_131 : decode cX8_anHour 131 = .ok (.iload_n 3, 1) := by decide +kernel
theorem dX8_anHour_132 : decode cX8_anHour 132 = .ok (.iaload, 1) := by decide +kernel
theorem dX8_anHour_133 : decode cX8_anHour 133 = .ok (.ifCond .le 7, 3) := by decide +kernel
theorem dX8_anHour_136 : decode cX8_anHour 136 = .ok (.iconst 1, 1) := by decide +kernel
theorem dX8_anHour_137 : decode cX8_anHour 137 = .ok (.goto 4, 3) := by decide +kernel
theorem dX8_anHour_140 : decode cX8_anHour 140 = .ok (.iconst 0, 1) := by decide +kernel
theorem dX8_anHour_141 : decode cX8_anHour 141 = .ok (.isub, 1) := by decide +kernel
theorem dX8_anHour_142 : decode cX8_anHour 142 = .ok (.iastore, 1) := by decide +kernel
theorem dX8_anHour_143 : decode cX8_anHour 143 = .ok (.iinc 3 1, 3) := by decide +kernel
theorem dX8_anHour_146 : decode cX8_anHour 146 = .ok (.goto (-54), 3) := by decide +kernel
theorem dX8_anHour_149 : decode cX8_anHour 149 = .ok (.return_, 1) := by decide +kernel
set_option maxRecDepth 20000 in
theorem dX8_turnedBy_0 : decode cX8_turnedBy 0 = .ok (.iconst 0, 1) := by decide +kernel
theorem dX8_turnedBy_1 : decode cX8_turnedBy 1 = .ok (.istore_n 3, 1) := by decide +kernel
theorem dX8_turnedBy_2 : decode cX8_turnedBy 2 = .ok (.iload_n 3, 1) := by decide +kernel
theorem dX8_turnedBy_3 : decode cX8_turnedBy 3 = .ok (.aload_n 0, 1) := by decide +kernel
theorem dX8_turnedBy_4 : decode cX8_turnedBy 4 = .ok (.getfield 7, 3) := by decide +kernel
theorem dX8_turnedBy_7 : decode cX8_turnedBy 7 = .ok (.iconst 2, 1) := by decide +kernel
theorem dX8_turnedBy_8 : decode cX8_turnedBy 8 = .ok (.iaload, 1) := by decide +kernel
theorem dX8_turnedBy_9 : decode cX8_turnedBy 9 = .ok (.if_icmp .ge 39, 3) := by decide +kernel
theorem dX8_turnedBy_12 : decode cX8_turnedBy 12 = .ok (.aload_n 0, 1) := by decide +kernel
theorem dX8_turnedBy_13 : decode cX8_turnedBy 13 = .ok (.getfield 35, 3) := by decide +kernel
theorem dX8_turnedBy_16 : decode cX8_turnedBy 16 = .ok (.iload_n 3, 1) := by decide +kernel
theorem dX8_turnedBy_17 : decode cX8_turnedBy 17 = .ok (.aload_n 0, 1) := by decide +kernel
theorem dX8_turnedBy_18 : decode cX8_turnedBy 18 = .ok (.getfield 7, 3) := by decide +kernel
theorem dX8_turnedBy_21 : decode cX8_turnedBy 21 = .ok (.bipush 80, 2) := by decide +kernel
theorem dX8_turnedBy_23 : decode cX8_turnedBy 23 = .ok (.iload_n 3, 1) := by decide +kernel
theorem dX8_turnedBy_24 : decode cX8_turnedBy 24 = .ok (.iadd, 1) := by decide +kernel
theorem dX8_turnedBy_25 : decode cX8_turnedBy 25 = .ok (.iaload, 1) := by decide +kernel
theorem dX8_turnedBy_26 : decode cX8_turnedBy 26 = .ok (.iastore, 1) := by decide +kernel
theorem dX8_turnedBy_27 : decode cX8_turnedBy 27 = .ok (.aload_n 0, 1) := by decide +kernel
theorem dX8_turnedBy_28 : decode cX8_turnedBy 28 = .ok (.getfield 38, 3) := by decide +kernel
theorem dX8_turnedBy_31 : decode cX8_turnedBy 31 = .ok (.iload_n 3, 1) := by decide +kernel
theorem dX8_turnedBy_32 : decode cX8_turnedBy 32 = .ok (.aload_n 0, 1) := by decide +kernel
theorem dX8_turnedBy_33 : decode cX8_turnedBy 33 = .ok (.getfield 7, 3) := by decide +kernel
theorem dX8_turnedBy_36 : decode cX8_turnedBy 36 = .ok (.bipush 88, 2) := by decide +kernel
theorem dX8_turnedBy_38 : decode cX8_turnedBy 38 = .ok (.iload_n 3, 1) := by decide +kernel
theorem dX8_turnedBy_39 : decode cX8_turnedBy 39 = .ok (.iadd, 1) := by decide +kernel
theorem dX8_turnedBy_40 : decode cX8_turnedBy 40 = .ok (.iaload, 1) := by decide +kernel
theorem dX8_turnedBy_41 : decode cX8_turnedBy 41 = .ok (.iastore, 1) := by decide +kernel
theorem dX8_turnedBy_42 : decode cX8_turnedBy 42 = .ok (.iinc 3 1, 3) := by decide +kernel
theorem dX8_turnedBy_45 : decode cX8_turnedBy 45 = .ok (.goto (-43), 3) := by decide +kernel
theorem dX8_turnedBy_48 : decode cX8_turnedBy 48 = .ok (.iconst 0, 1) := by decide +kernel
theorem dX8_turnedBy_49 : decode cX8_turnedBy 49 = .ok (.istore_n 3, 1) := by decide +kernel
theorem dX8_turnedBy_50 : decode cX8_turnedBy 50 = .ok (.iload_n 3, 1) := by decide +kernel
theorem dX8_turnedBy_51 : decode cX8_turnedBy 51 = .ok (.bipush 30, 2) := by decide +kernel
theorem dX8_turnedBy_53 : decode cX8_turnedBy 53 = .ok (.if_icmp .ge 15, 3) := by decide +kernel
theorem dX8_turnedBy_56 : decode cX8_turnedBy 56 = .ok (.aload_n 0, 1) := by decide +kernel
theorem dX8_turnedBy_57 : decode cX8_turnedBy 57 = .ok (.iload_n 1, 1) := by decide +kernel
theorem dX8_turnedBy_58 : decode cX8_turnedBy 58 = .ok (.iload_n 2, 1) := by decide +kernel
theorem dX8_turnedBy_59 : decode cX8_turnedBy 59 = .ok (.invokevirtual 261, 3) := by decide +kernel
theorem dX8_turnedBy_62 : decode cX8_turnedBy 62 = .ok (.iinc 3 1, 3) := by decide +kernel
theorem dX8_turnedBy_65 : decode cX8_turnedBy 65 = .ok (.goto (-15), 3) := by decide +kernel
theorem dX8_turnedBy_68 : decode cX8_turnedBy 68 = .ok (.iconst 0, 1) := by decide +kernel
theorem dX8_turnedBy_69 : decode cX8_turnedBy 69 = .ok (.istore_n 3, 1) := by decide +kernel
theorem dX8_turnedBy_70 : decode cX8_turnedBy 70 = .ok (.iconst 0, 1) := by decide +kernel
theorem dX8_turnedBy_71 : decode cX8_turnedBy 71 = .ok (.istore 4, 2) := by decide +kernel
theorem dX8_turnedBy_73 : decode cX8_turnedBy 73 = .ok (.iload 4, 2) := by decide +kernel
theorem dX8_turnedBy_75 : decode cX8_turnedBy 75 = .ok (.aload_n 0, 1) := by decide +kernel
theorem dX8_turnedBy_76 : decode cX8_turnedBy 76 = .ok (.getfield 7, 3) := by decide +kernel
theorem dX8_turnedBy_79 : decode cX8_turnedBy 79 = .ok (.iconst 2, 1) := by decide +kernel
theorem dX8_turnedBy_80 : decode cX8_turnedBy 80 = .ok (.iaload, 1) := by decide +kernel
theorem dX8_turnedBy_81 : decode cX8_turnedBy 81 = .ok (.if_icmp .ge 37, 3) := by decide +kernel
theorem dX8_turnedBy_84 : decode cX8_turnedBy 84 = .ok (.iload_n 3, 1) := by decide +kernel
theorem dX8_turnedBy_85 : decode cX8_turnedBy 85 = .ok (.aload_n 0, 1) := by decide +kernel
theorem dX8_turnedBy_86 : decode cX8_turnedBy 86 = .ok (.getfield 38, 3) := by decide +kernel
theorem dX8_turnedBy_89 : decode cX8_turnedBy 89 = .ok (.iload 4, 2) := by decide +kernel
theorem dX8_turnedBy_91 : decode cX8_turnedBy 91 = .ok (.iaload, 1) := by decide +kernel
theorem dX8_turnedBy_92 : decode cX8_turnedBy 92 = .ok (.aload_n 0, 1) := by decide +kernel
theorem dX8_turnedBy_93 : decode cX8_turnedBy 93 = .ok (.getfield 7, 3) := by decide +kernel
theorem dX8_turnedBy_96 : decode cX8_turnedBy 96 = .ok (.bipush 84, 2) := by decide +kernel
theorem dX8_turnedBy_98 : decode cX8_turnedBy 98 = .ok (.iload 4, 2) := by decide +kernel
theorem dX8_turnedBy_100 : decode cX8_turnedBy 100 = .ok (.iadd, 1) := by decide +kernel
theorem dX8_turnedBy_101 : decode cX8_turnedBy 101 = .ok (.iaload, 1) := by decide +kernel
theorem dX8_turnedBy_102 : decode cX8_turnedBy 102 = .ok (.if_icmp .lt 7, 3) := by decide +kernel
theorem dX8_turnedBy_105 : decode cX8_turnedBy 105 = .ok (.iconst 1, 1) := by decide +kernel
theorem dX8_turnedBy_106 : decode cX8_turnedBy 106 = .ok (.goto 4, 3) := by decide +kernel
theorem dX8_turnedBy_109 : decode cX8_turnedBy 109 = .ok (.iconst 0, 1) := by decide +kernel
theorem dX8_turnedBy_110 : decode cX8_turnedBy 110 = .ok (.iadd, 1) := by decide +kernel
theorem dX8_turnedBy_111 : decode cX8_turnedBy 111 = .ok (.istore_n 3, 1) := by decide +kernel
theorem dX8_turnedBy_112 : decode cX8_turnedBy 112 = .ok (.iinc 4 1, 3) := by decide +kernel
theorem dX8_turnedBy_115 : decode cX8_turnedBy 115 = .ok (.goto (-42), 3) := by decide +kernel
theorem dX8_turnedBy_118 : decode cX8_turnedBy 118 = .ok (.iload_n 3, 1) := by decide +kernel
theorem dX8_turnedBy_119 : decode cX8_turnedBy 119 = .ok (.ireturn, 1) := by decide +kernel
set_option maxRecDepth 20000 in
theorem dX8_meet_0 : decode cX8_meet 0 = .ok (.iload_n 1, 1) := by decide +kernel
theorem dX8_meet_1 : decode cX8_meet 1 = .ok (.i2l, 1) := by decide +kernel
theorem dX8_meet_2 : decode cX8_meet 2 = .ok (.lconst 1, 1) := by decide +kernel
theorem dX8_meet_3 : decode cX8_meet 3 = .ok (.ldc2_w 101, 3) := by decide +kernel
theorem dX8_meet_6 : decode cX8_meet 6 = .ok (.invokestatic 60, 3) := by decide +kernel
theorem dX8_meet_9 : decode cX8_meet 9 = .ok (.ifCond .ne 11, 3) := by decide +kernel
theorem dX8_meet_12 : decode cX8_meet 12 = .ok (.aload_n 0, 1) := by decide +kernel
theorem dX8_meet_13 : decode cX8_meet 13 = .ok (.invokevirtual 103, 3) := by decide +kernel
theorem dX8_meet_16 : decode cX8_meet 16 = .ok (.bipush 8, 2) := by decide +kernel
theorem dX8_meet_18 : decode cX8_meet 18 = .ok (.isub, 1) := by decide +kernel
theorem dX8_meet_19 : decode cX8_meet 19 = .ok (.ireturn, 1) := by decide +kernel
theorem dX8_meet_20 : decode cX8_meet 20 = .ok (.aload_n 0, 1) := by decide +kernel
theorem dX8_meet_21 : decode cX8_meet 21 = .ok (.getfield 7, 3) := by decide +kernel
theorem dX8_meet_24 : decode cX8_meet 24 = .ok (.iconst 2, 1) := by decide +kernel
theorem dX8_meet_25 : decode cX8_meet 25 = .ok (.iaload, 1) := by decide +kernel
theorem dX8_meet_26 : decode cX8_meet 26 = .ok (.ifCond .ne 5, 3) := by decide +kernel
theorem dX8_meet_29 : decode cX8_meet 29 = .ok (.iconst (-1), 1) := by decide +kernel
theorem dX8_meet_30 : decode cX8_meet 30 = .ok (.ireturn, 1) := by decide +kernel
theorem dX8_meet_31 : decode cX8_meet 31 = .ok (.iload_n 2, 1) := by decide +kernel
theorem dX8_meet_32 : decode cX8_meet 32 = .ok (.iconst (-1), 1) := by decide +kernel
theorem dX8_meet_33 : decode cX8_meet 33 = .ok (.if_icmp .eq 19, 3) := by decide +kernel
theorem dX8_meet_36 : decode cX8_meet 36 = .ok (.aload_n 0, 1) := by decide +kernel
theorem dX8_meet_37 : decode cX8_meet 37 = .ok (.iload_n 2, 1) := by decide +kernel
theorem dX8_meet_38 : decode cX8_meet 38 = .ok (.invokevirtual 223, 3) := by decide +kernel
theorem dX8_meet_41 : decode cX8_meet 41 = .ok (.ifCond .ne 11, 3) := by decide +kernel
theorem dX8_meet_44 : decode cX8_meet 44 = .ok (.aload_n 0, 1) := by decide +kernel
theorem dX8_meet_45 : decode cX8_meet 45 = .ok (.invokevirtual 103, 3) := by decide +kernel
theorem dX8_meet_48 : decode cX8_meet 48 = .ok (.bipush 8, 2) := by decide +kernel
theorem dX8_meet_50 : decode cX8_meet 50 = .ok (.isub, 1) := by decide +kernel
theorem dX8_meet_51 : decode cX8_meet 51 = .ok (.ireturn, 1) := by decide +kernel
theorem dX8_meet_52 : decode cX8_meet 52 = .ok (.iconst 0, 1) := by decide +kernel
theorem dX8_meet_53 : decode cX8_meet 53 = .ok (.istore_n 3, 1) := by decide +kernel
theorem dX8_meet_54 : decode cX8_meet 54 = .ok (.iconst (-1), 1) := by decide +kernel
theorem dX8_meet_55 : decode cX8_meet 55 = .ok (.istore 4, 2) := by decide +kernel
theorem dX8_meet_57 : decode cX8_meet 57 = .ok (.iconst 0, 1) := by decide +kernel
theorem dX8_meet_58 : decode cX8_meet 58 = .ok (.istore 5, 2) := by decide +kernel
theorem dX8_meet_60 : decode cX8_meet 60 = .ok (.iload 5, 2) := by decide +kernel
theorem dX8_meet_62 : decode cX8_meet 62 = .ok (.aload_n 0, 1) := by decide +kernel
theorem dX8_meet_63 : decode cX8_meet 63 = .ok (.invokevirtual 265, 3) := by decide +kernel
theorem dX8_meet_66 : decode cX8_meet 66 = .ok (.if_icmp .ge 48, 3) := by decide +kernel
theorem dX8_meet_69 : decode cX8_meet 69 = .ok (.aload_n 0, 1) := by decide +kernel
theorem dX8_meet_70 : decode cX8_meet 70 = .ok (.iload 5, 2) := by decide +kernel
theorem dX8_meet_72 : decode cX8_meet 72 = .ok (.iload_n 1, 1) := by decide +kernel
theorem dX8_meet_73 : decode cX8_meet 73 = .ok (.invokevirtual 268, 3) := by decide +kernel
theorem dX8_meet_76 : decode cX8_meet 76 = .ok (.istore 6, 2) := by decide +kernel
theorem dX8_meet_78 : decode cX8_meet 78 = .ok (.iload 6, 2) := by decide +kernel
theorem dX8_meet_80 : decode cX8_meet 80 = .ok (.iload 4, 2) := by decide +kernel
theorem dX8_meet_82 : decode cX8_meet 82 = .ok (.if_icmp .le 8, 3) := by decide +kernel
theorem dX8_meet_85 : decode cX8_meet 85 = .ok (.iload 5, 2) := by decide +kernel
theorem dX8_meet_87 : decode cX8_meet 87 = .ok (.goto 4, 3) := by decide +kernel
theorem dX8_meet_90 : decode cX8_meet 90 = .ok (.iload_n 3, 1) := by decide +kernel
theorem dX8_meet_91 : decode cX8_meet 91 = .ok (.istore_n 3, 1) := by decide +kernel
theorem dX8_meet_92 : decode cX8_meet 92 = .ok (.iload 6, 2) := by decide +kernel
theorem dX8_meet_94 : decode cX8_meet 94 = .ok (.iload 4, 2) := by decide +kernel
theorem dX8_meet_96 : decode cX8_meet 96 = .ok (.if_icmp .le 8, 3) := by decide +kernel
theorem dX8_meet_99 : decode cX8_meet 99 = .ok (.iload 6, 2) := by decide +kernel
theorem dX8_meet_101 : decode cX8_meet 101 = .ok (.goto 5, 3) := by decide +kernel
theorem dX8_meet_104 : decode cX8_meet 104 = .ok (.iload 4, 2) := by decide +kernel
theorem dX8_meet_106 : decode cX8_meet 106 = .ok (.istore 4, 2) := by decide +kernel
theorem dX8_meet_108 : decode cX8_meet 108 = .ok (.iinc 5 1, 3) := by decide +kernel
theorem dX8_meet_111 : decode cX8_meet 111 = .ok (.goto (-51), 3) := by decide +kernel
theorem dX8_meet_114 : decode cX8_meet 114 = .ok (.iload_n 2, 1) := by decide +kernel
theorem dX8_meet_115 : decode cX8_meet 115 = .ok (.iconst (-1), 1) := by decide +kernel
theorem dX8_meet_116 : decode cX8_meet 116 = .ok (.if_icmp .ne 8, 3) := by decide +kernel
theorem dX8_meet_119 : decode cX8_meet 119 = .ok (.iload 4, 2) := by decide +kernel
theorem dX8_meet_121 : decode cX8_meet 121 = .ok (.goto 9, 3) := by decide +kernel
theorem dX8_meet_124 : decode cX8_meet 124 = .ok (.aload_n 0, 1) := by decide +kernel
theorem dX8_meet_125 : decode cX8_meet 125 = .ok (.iload_n 3, 1) := by decide +kernel
theorem dX8_meet_126 : decode cX8_meet 126 = .ok (.iload_n 2, 1) := by decide +kernel
theorem dX8_meet_127 : decode cX8_meet 127 = .ok (.invokevirtual 258, 3) := by decide +kernel
theorem dX8_meet_130 : decode cX8_meet 130 = .ok (.ireturn, 1) := by decide +kernel
theorem dX8_manyFrom_0 : decode cX8_manyFrom 0 = .ok (.iconst 0, 1) := by decide +kernel
theorem dX8_manyFrom_1 : decode cX8_manyFrom 1 = .ok (.istore_n 2, 1) := by decide +kernel
theorem dX8_manyFrom_2 : decode cX8_manyFrom 2 = .ok (.iload_n 1, 1) := by decide +kernel
theorem dX8_manyFrom_3 : decode cX8_manyFrom 3 = .ok (.istore_n 3, 1) := by decide +kernel
theorem dX8_manyFrom_4 : decode cX8_manyFrom 4 = .ok (.iload_n 3, 1) := by decide +kernel
theorem dX8_manyFrom_5 : decode cX8_manyFrom 5 = .ok (.bipush 10, 2) := by decide +kernel
theorem dX8_manyFrom_7 : decode cX8_manyFrom 7 = .ok (.if_icmp .ge 18, 3) := by decide +kernel
theorem dX8_manyFrom_10 : decode cX8_manyFrom 10 = .ok (.iload_n 2, 1) := by decide +kernel
theorem dX8_manyFrom_11 : decode cX8_manyFrom 11 = .ok (.aload_n 0, 1) := by decide +kernel
theorem dX8_manyFrom_12 : decode cX8_manyFrom 12 = .ok (.getfield 29, 3) := by decide +kernel
theorem dX8_manyFrom_15 : decode cX8_manyFrom 15 = .ok (.iload_n 3, 1) := by decide +kernel
theorem dX8_manyFrom_16 : decode cX8_manyFrom 16 = .ok (.iaload, 1) := by decide +kernel
theorem dX8_manyFrom_17 : decode cX8_manyFrom 17 = .ok (.iadd, 1) := by decide +kernel
theorem dX8_manyFrom_18 : decode cX8_manyFrom 18 = .ok (.istore_n 2, 1) := by decide +kernel
theorem dX8_manyFrom_19 : decode cX8_manyFrom 19 = .ok (.iinc 3 1, 3) := by decide +kernel
theorem dX8_manyFrom_22 : decode cX8_manyFrom 22 = .ok (.goto (-18), 3) := by decide +kernel
theorem dX8_manyFrom_25 : decode cX8_manyFrom 25 = .ok (.iload_n 2, 1) := by decide +kernel
theorem dX8_manyFrom_26 : decode cX8_manyFrom 26 = .ok (.ireturn, 1) := by decide +kernel
set_option maxRecDepth 20000 in
theorem dX8_doors_0 : decode cX8_doors 0 = .ok (.iload_n 1, 1) := by decide +kernel
theorem dX8_doors_1 : decode cX8_doors 1 = .ok (.i2l, 1) := by decide +kernel
theorem dX8_doors_2 : decode cX8_doors 2 = .ok (.lconst 1, 1) := by decide +kernel
theorem dX8_doors_3 : decode cX8_doors 3 = .ok (.ldc2_w 101, 3) := by decide +kernel
theorem dX8_doors_6 : decode cX8_doors 6 = .ok (.invokestatic 60, 3) := by decide +kernel
theorem dX8_doors_9 : decode cX8_doors 9 = .ok (.ifCond .eq 13, 3) := by decide +kernel
theorem dX8_doors_12 : decode cX8_doors 12 = .ok (.iload_n 2, 1) := by decide +kernel
theorem dX8_doors_13 : decode cX8_doors 13 = .ok (.i2l, 1) := by decide +kernel
theorem dX8_doors_14 : decode cX8_doors 14 = .ok (.lconst 0, 1) := by decide +kernel
theorem dX8_doors_15 : decode cX8_doors 15 = .ok (.lconst 1, 1) := by decide +kernel
theorem dX8_doors_16 : decode cX8_doors 16 = .ok (.invokestatic 60, 3) := by decide +kernel
theorem dX8_doors_19 : decode cX8_doors 19 = .ok (.ifCond .ne 8, 3) := by decide +kernel
theorem dX8_doors_22 : decode cX8_doors 22 = .ok (.aload_n 0, 1) := by decide +kernel
theorem dX8_doors_23 : decode cX8_doors 23 = .ok (.invokevirtual 103, 3) := by decide +kernel
theorem dX8_doors_26 : decode cX8_doors 26 = .ok (.ireturn, 1) := by decide +kernel
theorem dX8_doors_27 : decode cX8_doors 27 = .ok (.iconst (-1), 1) := by decide +kernel
theorem dX8_doors_28 : decode cX8_doors 28 = .ok (.istore_n 3, 1) := by decide +kernel
theorem dX8_doors_29 : decode cX8_doors 29 = .ok (.ldc 160, 2) := by decide +kernel
theorem dX8_doors_31 : decode cX8_doors 31 = .ok (.istore 4, 2) := by decide +kernel
theorem dX8_doors_33 : decode cX8_doors 33 = .ok (.iconst 0, 1) := by decide +kernel
theorem dX8_doors_34 : decode cX8_doors 34 = .ok (.istore 5, 2) := by decide +kernel
theorem dX8_doors_36 : decode cX8_doors 36 = .ok (.iload 5, 2) := by decide +kernel
theorem dX8_doors_38 : decode cX8_doors 38 = .ok (.aload_n 0, 1) := by decide +kernel
theorem dX8_doors_39 : decode cX8_doors 39 = .ok (.getfield 7, 3) := by decide +kernel
theorem dX8_doors_42 : decode cX8_doors 42 = .ok (.iconst 0, 1) := by decide +kernel
theorem dX8_doors_43 : decode cX8_doors 43 = .ok (.iaload, 1) := by decide +kernel
theorem dX8_doors_44 : decode cX8_doors 44 = .ok (.if_icmp .ge 98, 3) := by decide +kernel
theorem dX8_doors_47 : decode cX8_doors 47 = .ok (.aload_n 0, 1) := by decide +kernel
theorem dX8_doors_48 : decode cX8_doors 48 = .ok (.iload 5, 2) := by decide +kernel
theorem dX8_doors_50 : decode cX8_doors 50 = .ok (.invokevirtual 248, 3) := by decide +kernel
theorem dX8_doors_53 : decode cX8_doors 53 = .ok (.aload_n 0, 1) := by decide +kernel
theorem dX8_doors_54 : decode cX8_doors 54 = .ok (.iload_n 1, 1) := by decide +kernel
theorem dX8_doors_55 : decode cX8_doors 55 = .ok (.invokevirtual 271, 3) := by decide +kernel
theorem dX8_doors_58 : decode cX8_doors 58 = .ok (.istore 6, 2) := by decide +kernel
theorem dX8_doors_60 : decode cX8_doors 60 = .ok (.aload_n 0, 1) := by decide +kernel
theorem dX8_doors_61 : decode cX8_doors 61 = .ok (.getfield 29, 3) := by decide +kernel
theorem dX8_doors_64 : decode cX8_doors 64 = .ok (.iconst 0, 1) := by decide +kernel
theorem dX8_doors_65 : decode cX8_doors 65 = .ok (.aload_n 0, 1) := by decide +kernel
theorem dX8_doors_66 : decode cX8_doors 66 = .ok (.getfield 7, 3) := by decide +kernel
theorem dX8_doors_69 : decode cX8_doors 69 = .ok (.bipush 8, 2) := by decide +kernel
theorem dX8_doors_71 : decode cX8_doors 71 = .ok (.iload 5, 2) := by decide +kernel
theorem dX8_doors_73 : decode cX8_doors 73 = .ok (.iadd, 1) := by decide +kernel
theorem dX8_doors_74 : decode cX8_doors 74 = .ok (.iaload, 1) := by decide +kernel
theorem dX8_doors_75 : decode cX8_doors 75 = .ok (.invokestatic 217, 3) := by decide +kernel
theorem dX8_doors_78 : decode cX8_doors 78 = .ok (.invokestatic 90, 3) := by decide +kernel
theorem dX8_doors_81 : decode cX8_doors 81 = .ok (.iload 6, 2) := by decide +kernel
theorem dX8_doors_83 : decode cX8_doors 83 = .ok (.aload_n 0, 1) := by decide +kernel
theorem dX8_doors_84 : decode cX8_doors 84 = .ok (.iload_n 1, 1) := by decide +kernel
theorem dX8_doors_85 : decode cX8_doors 85 = .ok (.invokevirtual 271, 3) := by decide +kernel
theorem dX8_doors_88 : decode cX8_doors 88 = .ok (.isub, 1) := by decide +kernel
theorem dX8_doors_89 : decode cX8_doors 89 = .ok (.istore 7, 2) := by decide +kernel
theorem dX8_doors_91 : decode cX8_doors 91 = .ok (.iload 6, 2) := by decide +kernel
theorem dX8_doors_93 : decode cX8_doors 93 = .ok (.ifCond .le 14, 3) := by decide +kernel
theorem dX8_doors_96 : decode cX8_doors 96 = .ok (.iload 7, 2) := by decide +kernel
theorem dX8_doors_98 : decode cX8_doors 98 = .ok (.iload 4, 2) := by decide +kernel
theorem dX8_doors_100 : decode cX8_doors 100 = .ok (.if_icmp .ge 7, 3) := by decide +kernel
theorem dX8_doors_103 : decode cX8_doors 103 = .ok (.iconst 1, 1) := by decide +kernel
theorem dX8_doors_104 : decode cX8_doors 104 = .ok (.goto 4, 3) := by decide +kernel
theorem dX8_doors_107 : decode cX8_doors 107 = .ok (.iconst 0, 1) := by decide +kernel
theorem dX8_doors_108 : decode cX8_doors 108 = .ok (.istore 8, 2) := by decide +kernel
theorem dX8_doors_110 : decode cX8_doors 110 = .ok (.iload 8, 2) := by decide +kernel
theorem dX8_doors_112 : decode cX8_doors 112 = .ok (.ifCond .eq 8, 3) := by decide +kernel
theorem dX8_doors_115 : decode cX8_doors 115 = .ok (.iload 5, 2) := by decide +kernel
theorem dX8_doors_117 : decode cX8_doors 117 = .ok (.goto 4, 3) := by decide +kernel
theorem dX8_doors_120 : decode cX8_doors 120 = .ok (.iload_n 3, 1) := by decide +kernel
theorem dX8_doors_121 : decode cX8_doors 121 = .ok (.istore_n 3, 1) := by decide +kernel
theorem dX8_doors_122 : decode cX8_doors 122 = .ok (.iload 8, 2) := by decide +kernel
theorem dX8_doors_124 : decode cX8_doors 124 = .ok (.ifCond .eq 8, 3) := by decide +kernel
theorem dX8_doors_127 : decode cX8_doors 127 = .ok (.iload 7, 2) := by decide +kernel
theorem dX8_doors_129 : decode cX8_doors 129 = .ok (.goto 5, 3) := by decide +kernel
theorem dX8_doors_132 : decode cX8_doors 132 = .ok (.iload 4, 2) := by decide +kernel
theorem dX8_doors_134 : decode cX8_doors 134 = .ok (.istore 4, 2) := by decide +kernel
theorem dX8_doors_136 : decode cX8_doors 136 = .ok (.iinc 5 1, 3) := by decide +kernel
theorem dX8_doors_139 : decode cX8_doors 139 = .ok (.goto (-103), 3) := by decide +kernel
theorem dX8_doors_142 : decode cX8_doors 142 = .ok (.iload_n 3, 1) := by decide +kernel
theorem dX8_doors_143 : decode cX8_doors 143 = .ok (.ifCond .lt 7, 3) := by decide +kernel
theorem dX8_doors_146 : decode cX8_doors 146 = .ok (.iload_n 2, 1) := by decide +kernel
theorem dX8_doors_147 : decode cX8_doors 147 = .ok (.ifCond .ne 7, 3) := by decide +kernel
theorem dX8_doors_150 : decode cX8_doors 150 = .ok (.iload_n 3, 1) := by decide +kernel
theorem dX8_doors_151 : decode cX8_doors 151 = .ok (.goto 5, 3) := by decide +kernel
theorem dX8_doors_154 : decode cX8_doors 154 = .ok (.iload 4, 2) := by decide +kernel
theorem dX8_doors_156 : decode cX8_doors 156 = .ok (.ireturn, 1) := by decide +kernel
set_option maxRecDepth 20000 in
theorem dX8_rings_0 : decode cX8_rings 0 = .ok (.aload_n 0, 1) := by decide +kernel
theorem dX8_rings_1 : decode cX8_rings 1 = .ok (.iload_n 1, 1) := by decide +kernel
theorem dX8_rings_2 : decode cX8_rings 2 = .ok (.invokevirtual 116, 3) := by decide +kernel
theorem dX8_rings_5 : decode cX8_rings 5 = .ok (.ifCond .eq 39, 3) := by decide +kernel
theorem dX8_rings_8 : decode cX8_rings 8 = .ok (.iload_n 2, 1) := by decide +kernel
theorem dX8_rings_9 : decode cX8_rings 9 = .ok (.i2l, 1) := by decide +kernel
theorem dX8_rings_10 : decode cX8_rings 10 = .ok (.lconst 0, 1) := by decide +kernel
theorem dX8_rings_11 : decode cX8_rings 11 = .ok (.ldc2_w 120, 3) := by decide +kernel
theorem dX8_rings_14 : decode cX8_rings 14 = .ok (.invokestatic 60, 3) := by decide +kernel
theorem dX8_rings_17 : decode cX8_rings 17 = .ok (.ifCond .eq 27, 3) := by decide +kernel
theorem dX8_rings_20 : decode cX8_rings 20 = .ok (.iload_n 3, 1) := by decide +kernel
theorem dX8_rings_21 : decode cX8_rings 21 = .ok (.i2l, 1) := by decide +kernel
theorem dX8_rings_22 : decode cX8_rings 22 = .ok (.lconst 1, 1) := by decide +kernel
theorem dX8_rings_23 : decode cX8_rings 23 = .ok (.ldc2_w 101, 3) := by decide +kernel
theorem dX8_rings_26 : decode cX8_rings 26 = .ok (.invokestatic 60, 3) := by decide +kernel
theorem dX8_rings_29 : decode cX8_rings 29 = .ok (.ifCond .eq 15, 3) := by decide +kernel
theorem dX8_rings_32 : decode cX8_rings 32 = .ok (.iload 4, 2) := by decide +kernel
theorem dX8_rings_34 : decode cX8_rings 34 = .ok (.i2l, 1) := by decide +kernel
theorem dX8_rings_35 : decode cX8_rings 35 = .ok (.lconst 0, 1) := by decide +kernel
theorem dX8_rings_36 : decode cX8_rings 36 = .ok (.iload_n 3, 1) := by decide +kernel
theorem dX8_rings_37 : decode cX8_rings 37 = .ok (.i2l, 1) := by decide +kernel
theorem dX8_rings_38 : decode cX8_rings 38 = .ok (.invokestatic 60, 3) := by decide +kernel
theorem dX8_rings_41 : decode cX8_rings 41 = .ok (.ifCond .ne 8, 3) := by decide +kernel
theorem dX8_rings_44 : decode cX8_rings 44 = .ok (.aload_n 0, 1) := by decide +kernel
theorem dX8_rings_45 : decode cX8_rings 45 = .ok (.invokevirtual 103, 3) := by decide +kernel
theorem dX8_rings_48 : decode cX8_rings 48 = .ok (.ireturn, 1) := by decide +kernel
theorem dX8_rings_49 : decode cX8_rings 49 = .ok (.aload_n 0, 1) := by decide +kernel
theorem dX8_rings_50 : decode cX8_rings 50 = .ok (.getfield 7, 3) := by decide +kernel
theorem dX8_rings_53 : decode cX8_rings 53 = .ok (.iconst 5, 1) := by decide +kernel
theorem dX8_rings_54 : decode cX8_rings 54 = .ok (.iaload, 1) := by decide +kernel
theorem dX8_rings_55 : decode cX8_rings 55 = .ok (.iconst 4, 1) := by decide +kernel
theorem dX8_rings_56 : decode cX8_rings 56 = .ok (.if_icmp .ne 8, 3) := by decide +kernel
theorem dX8_rings_59 : decode cX8_rings 59 = .ok (.aload_n 0, 1) := by decide +kernel
theorem dX8_rings_60 : decode cX8_rings 60 = .ok (.invokevirtual 113, 3) := by decide +kernel
theorem dX8_rings_63 : decode cX8_rings 63 = .ok (.ireturn, 1) := by decide +kernel
theorem dX8_rings_64 : decode cX8_rings 64 = .ok (.bipush 92, 2) := by decide +kernel
theorem dX8_rings_66 : decode cX8_rings 66 = .ok (.iconst 4, 1) := by decide +kernel
theorem dX8_rings_67 : decode cX8_rings 67 = .ok (.aload_n 0, 1) := by decide +kernel
theorem dX8_rings_68 : decode cX8_rings 68 = .ok (.getfield 7, 3) := by decide +kernel
theorem dX8_rings_71 : decode cX8_rings 71 = .ok (.iconst 5, 1) := by decide +kernel
theorem dX8_rings_72 : decode cX8_rings 72 = .ok (.iaload, 1) := by decide +kernel
theorem dX8_rings_73 : decode cX8_rings 73 = .ok (.imul, 1) := by decide +kernel
theorem dX8_rings_74 : decode cX8_rings 74 = .ok (.iadd, 1) := by decide +kernel
theorem dX8_rings_75 : decode cX8_rings 75 = .ok (.istore 5, 2) := by decide +kernel
theorem dX8_rings_77 : decode cX8_rings 77 = .ok (.aload_n 0, 1) := by decide +kernel
theorem dX8_rings_78 : decode cX8_rings 78 = .ok (.getfield 7, 3) := by decide +kernel
theorem dX8_rings_81 : decode cX8_rings 81 = .ok (.iload 5, 2) := by decide +kernel
theorem dX8_rings_83 : decode cX8_rings 83 = .ok (.iload_n 1, 1) := by decide +kernel
theorem dX8_rings_84 : decode cX8_rings 84 = .ok (.iastore, 1) := by decide +kernel
theorem dX8_rings_85 : decode cX8_rings 85 = .ok (.aload_n 0, 1) := by decide +kernel
theorem dX8_rings_86 : decode cX8_rings 86 = .ok (.getfield 7, 3) := by decide +kernel
theorem dX8_rings_89 : decode cX8_rings 89 = .ok (.iload 5, 2) := by decide +kernel
theorem dX8_rings_91 : decode cX8_rings 91 = .ok (.iconst 1, 1) := by decide +kernel
theorem dX8_rings_92 : decode cX8_rings 92 = .ok (.iadd, 1) := by decide +kernel
theorem dX8_rings_93 : decode cX8_rings 93 = .ok (.iload_n 2, 1) := by decide +kernel
theorem dX8_rings_94 : decode cX8_rings 94 = .ok (.iastore, 1) := by decide +kernel
theorem dX8_rings_95 : decode cX8_rings 95 = .ok (.aload_n 0, 1) := by decide +kernel
theorem dX8_rings_96 : decode cX8_rings 96 = .ok (.getfield 7, 3) := by decide +kernel
theorem dX8_rings_99 : decode cX8_rings 99 = .ok (.iload 5, 2) := by decide +kernel
theorem dX8_rings_101 : decode cX8_rings 101 = .ok (.iconst 2, 1) := by decide +kernel
theorem dX8_rings_102 : decode cX8_rings 102 = .ok (.iadd, 1) := by decide +kernel
theorem dX8_rings_103 : decode cX8_rings 103 = .ok (.iload_n 3, 1) := by decide +kernel
theorem dX8_rings_104 : decode cX8_rings 104 = .ok (.iastore, 1) := by decide +kernel
theorem dX8_rings_105 : decode cX8_rings 105 = .ok (.aload_n 0, 1) := by decide +kernel
theorem dX8_rings_106 : decode cX8_rings 106 = .ok (.getfield 7, 3) := by decide +kernel
theorem dX8_rings_109 : decode cX8_rings 109 = .ok (.iload 5, 2) := by decide +kernel
theorem dX8_rings_111 : decode cX8_rings 111 = .ok (.iconst 3, 1) := by decide +kernel
theorem dX8_rings_112 : decode cX8_rings 112 = .ok (.iadd, 1) := by decide +kernel
theorem dX8_rings_113 : decode cX8_rings 113 = .ok (.iload 4, 2) := by decide +kernel
theorem dX8_rings_115 : decode cX8_rings 115 = .ok (.iastore, 1) := by decide +kernel
theorem dX8_rings_116 : decode cX8_rings 116 = .ok (.aload_n 0, 1) := by decide +kernel
theorem dX8_rings_117 : decode cX8_rings 117 = .ok (.getfield 7, 3) := by decide +kernel
theorem dX8_rings_120 : decode cX8_rings 120 = .ok (.iconst 5, 1) := by decide +kernel
theorem dX8_rings_121 : decode cX8_rings 121 = .ok (.dup2, 1) := by decide +kernel
theorem dX8_rings_122 : decode cX8_rings 122 = .ok (.iaload, 1) := by decide +kernel
theorem dX8_rings_123 : decode cX8_rings 123 = .ok (.iconst 1, 1) := by decide +kernel
theorem dX8_rings_124 : decode cX8_rings 124 = .ok (.iadd, 1) := by decide +kernel
theorem dX8_rings_125 : decode cX8_rings 125 = .ok (.iastore, 1) := by decide +kernel
theorem dX8_rings_126 : decode cX8_rings 126 = .ok (.aload_n 0, 1) := by decide +kernel
theorem dX8_rings_127 : decode cX8_rings 127 = .ok (.getfield 7, 3) := by decide +kernel
theorem dX8_rings_130 : decode cX8_rings 130 = .ok (.iconst 5, 1) := by decide +kernel
theorem dX8_rings_131 : decode cX8_rings 131 = .ok (.iaload, 1) := by decide +kernel
theorem dX8_rings_132 : decode cX8_rings 132 = .ok (.ireturn, 1) := by decide +kernel
set_option maxRecDepth 20000 in
theorem dX8_cooledBy_0 : decode cX8_cooledBy 0 = .ok (.aload_n 0, 1) := by decide +kernel
theorem dX8_cooledBy_1 : decode cX8_cooledBy 1 = .ok (.getfield 7, 3) := by decide +kernel
theorem dX8_cooledBy_4 : decode cX8_cooledBy 4 = .ok (.bipush 92, 2) := by decide +kernel
theorem dX8_cooledBy_6 : decode cX8_cooledBy 6 = .ok (.iconst 4, 1) := by decide +kernel
theorem dX8_cooledBy_7 : decode cX8_cooledBy 7 = .ok (.iload_n 1, 1) := by decide +kernel
theorem dX8_cooledBy_8 : decode cX8_cooledBy 8 = .ok (.imul, 1) := by decide +kernel
theorem dX8_cooledBy_9 : decode cX8_cooledBy 9 = .ok (.iadd, 1) := by decide +kernel
theorem dX8_cooledBy_10 : decode cX8_cooledBy 10 = .ok (.iaload, 1) := by decide +kernel
theorem dX8_cooledBy_11 : decode cX8_cooledBy 11 = .ok (.istore_n 2, 1) := by decide +kernel
theorem dX8_cooledBy_12 : decode cX8_cooledBy 12 = .ok (.iconst 0, 1) := by decide +kernel
theorem dX8_cooledBy_13 : decode cX8_cooledBy 13 = .ok (.istore_n 3, 1) := by decide +kernel
theorem dX8_cooledBy_14 : decode cX8_cooledBy 14 = .ok (.iconst 0, 1) := by decide +kernel
theorem dX8_cooledBy_15 : decode cX8_cooledBy 15 = .ok (.istore 4, 2) := by decide +kernel
theorem dX8_cooledBy_17 : decode cX8_cooledBy 17 = .ok (.iload 4, 2) := by decide +kernel
theorem dX8_cooledBy_19 : decode cX8_cooledBy 19 = .ok (.bipush 10, 2) := by decide +kernel
theorem dX8_cooledBy_21 : decode cX8_cooledBy 21 = .ok (.if_icmp .ge 111, 3) := by decide +kernel
theorem dX8_cooledBy_24 : decode cX8_cooledBy 24 = .ok (.aload_n 0, 1) := by decide +kernel
theorem dX8_cooledBy_25 : decode cX8_cooledBy 25 = .ok (.getfield 7, 3) := by decide +kernel
theorem dX8_cooledBy_28 : decode cX8_cooledBy 28 = .ok (.bipush 8, 2) := by decide +kernel
theorem dX8_cooledBy_30 : decode cX8_cooledBy 30 = .ok (.iload_n 2, 1) := by decide +kernel
theorem dX8_cooledBy_31 : decode cX8_cooledBy 31 = .ok (.iadd, 1) := by decide +kernel
theorem dX8_cooledBy_32 : decode cX8_cooledBy 32 = .ok (.iaload, 1) := by decide +kernel
theorem dX8_cooledBy_33 : decode cX8_cooledBy 33 = .ok (.aload_n 0, 1) := by decide +kernel
theorem dX8_cooledBy_34 : decode cX8_cooledBy 34 = .ok (.getfield 7, 3) := by decide +kernel
theorem dX8_cooledBy_37 : decode cX8_cooledBy 37 = .ok (.bipush 92, 2) := by decide +kernel
theorem dX8_cooledBy_39 : decode cX8_cooledBy 39 = .ok (.iconst 4, 1) := by decide +kernel
theorem dX8_cooledBy_40 : decode cX8_cooledBy 40 = .ok (.iload_n 1, 1) := by decide +kernel
theorem dX8_cooledBy_41 : decode cX8_cooledBy 41 = .ok (.imul, 1) := by decide +kernel
theorem dX8_cooledBy_42 : decode cX8_cooledBy 42 = .ok (.iadd, 1) := by decide +kernel
theorem dX8_cooledBy_43 : decode cX8_cooledBy 43 = .ok (.iconst 1, 1) := by decide +kernel
theorem dX8_cooledBy_44 : decode cX8_cooledBy 44 = .ok (.iadd, 1) := by decide +kernel
theorem dX8_cooledBy_45 : decode cX8_cooledBy 45 = .ok (.iaload, 1) := by decide +kernel
theorem dX8_cooledBy_46 : decode cX8_cooledBy 46 = .ok (.aload_n 0, 1) := by decide +kernel
theorem dX8_cooledBy_47 : decode cX8_cooledBy 47 = .ok (.getfield 7, 3) := by decide +kernel
theorem dX8_cooledBy_50 : decode cX8_cooledBy 50 = .ok (.bipush 13, 2) := by decide +kernel
theorem dX8_cooledBy_52 : decode cX8_cooledBy 52 = .ok (.iload_n 2, 1) := by decide +kernel
theorem dX8_cooledBy_53 : decode cX8_cooledBy 53 = .ok (.iadd, 1) := by decide +kernel
theorem dX8_cooledBy_54 : decode cX8_cooledBy 54 = .ok (.iaload, 1) := by decide +kernel
theorem dX8_cooledBy_55 : decode cX8_cooledBy 55 = .ok (.invokestatic 87, 3) := by decide +kernel
theorem dX8_cooledBy_58 : decode cX8_cooledBy 58 = .ok (.istore 5, 2) := by decide +kernel
theorem dX8_cooledBy_60 : decode cX8_cooledBy 60 = .ok (.aload_n 0, 1) := by decide +kernel
theorem dX8_cooledBy_61 : decode cX8_cooledBy 61 = .ok (.getfield 7, 3) := by decide +kernel
theorem dX8_cooledBy_64 : decode cX8_cooledBy 64 = .ok (.bipush 92, 2) := by decide +kernel
theorem dX8_cooledBy_66 : decode cX8_cooledBy 66 = .ok (.iconst 4, 1) := by decide +kernel
theorem dX8_cooledBy_67 : decode cX8_cooledBy 67 = .ok (.iload_n 1, 1) := by decide +kernel
theorem dX8_cooledBy_68 : decode cX8_cooledBy 68 = .ok (.imul, 1) := by decide +kernel
theorem dX8_cooledBy_69 : decode cX8_cooledBy 69 = .ok (.iadd, 1) := by decide +kernel
theorem dX8_cooledBy_70 : decode cX8_cooledBy 70 = .ok (.iconst 2, 1) := by decide +kernel
theorem dX8_cooledBy_71 : decode cX8_cooledBy 71 = .ok (.iadd, 1) := by decide +kernel
theorem dX8_cooledBy_72 : decode cX8_cooledBy 72 = .ok (.iaload, 1) := by decide +kernel
theorem dX8_cooledBy_73 : decode cX8_cooledBy 73 = .ok (.iload 4, 2) := by decide +kernel
theorem dX8_cooledBy_75 : decode cX8_cooledBy 75 = .ok (.aload_n 0, 1) := by decide +kernel
theorem dX8_cooledBy_76 : decode cX8_cooledBy 76 = .ok (.getfield 7, 3) := by decide +kernel
theorem dX8_cooledBy_79 : decode cX8_cooledBy 79 = .ok (.bipush 8, 2) := by decide +kernel
theorem dX8_cooledBy_81 : decode cX8_cooledBy 81 = .ok (.iload_n 2, 1) := by decide +kernel
theorem dX8_cooledBy_82 : decode cX8_cooledBy 82 = .ok (.iadd, 1) := by decide +kernel
theorem dX8_cooledBy_83 : decode cX8_cooledBy 83 = .ok (.iaload, 1) := by decide +kernel
theorem dX8_cooledBy_84 : decode cX8_cooledBy 84 = .ok (.invokestatic 217, 3) := by decide +kernel
theorem dX8_cooledBy_87 : decode cX8_cooledBy 87 = .ok (.imul, 1) := by decide +kernel
theorem dX8_cooledBy_88 : decode cX8_cooledBy 88 = .ok (.isub, 1) := by decide +kernel
theorem dX8_cooledBy_89 : decode cX8_cooledBy 89 = .ok (.iload 5, 2) := by decide +kernel
theorem dX8_cooledBy_91 : decode cX8_cooledBy 91 = .ok (.isub, 1) := by decide +kernel
theorem dX8_cooledBy_92 : decode cX8_cooledBy 92 = .ok (.invokestatic 64, 3) := by decide +kernel
theorem dX8_cooledBy_95 : decode cX8_cooledBy 95 = .ok (.istore 6, 2) := by decide +kernel
theorem dX8_cooledBy_97 : decode cX8_cooledBy 97 = .ok (.iload_n 3, 1) := by decide +kernel
theorem dX8_cooledBy_98 : decode cX8_cooledBy 98 = .ok (.iload 6, 2) := by decide +kernel
theorem dX8_cooledBy_100 : decode cX8_cooledBy 100 = .ok (.aload_n 0, 1) := by decide +kernel
theorem dX8_cooledBy_101 : decode cX8_cooledBy 101 = .ok (.getfield 7, 3) := by decide +kernel
theorem dX8_cooledBy_104 : decode cX8_cooledBy 104 = .ok (.bipush 92, 2) := by decide +kernel
theorem dX8_cooledBy_106 : decode cX8_cooledBy 106 = .ok (.iconst 4, 1) := by decide +kernel
theorem dX8_cooledBy_107 : decode cX8_cooledBy 107 = .ok (.iload_n 1, 1) := by decide +kernel
theorem dX8_cooledBy_108 : decode cX8_cooledBy 108 = .ok (.imul, 1) := by decide +kernel
theorem dX8_cooledBy_109 : decode cX8_cooledBy 109 = .ok (.iadd, 1) := by decide +kernel
theorem dX8_cooledBy_110 : decode cX8_cooledBy 110 = .ok (.iconst 3, 1) := by decide +kernel
theorem dX8_cooledBy_111 : decode cX8_cooledBy 111 = .ok (.iadd, 1) := by decide +kernel
theorem dX8_cooledBy_112 : decode cX8_cooledBy 112 = .ok (.iaload, 1) := by decide +kernel
theorem dX8_cooledBy_113 : decode cX8_cooledBy 113 = .ok (.if_icmp .ne 10, 3) := by decide +kernel
theorem dX8_cooledBy_116 : decode cX8_cooledBy 116 = .ok (.iconst 1, 1) := by decide +kernel
theorem dX8_cooledBy_117 : decode cX8_cooledBy 117 = .ok (.iload 4, 2) := by decide +kernel
theorem dX8_cooledBy_119 : decode cX8_cooledBy 119 = .ok (.ishl, 1) := by decide +kernel
theorem dX8_cooledBy_120 : decode cX8_cooledBy 120 = .ok (.goto 4, 3) := by decide +kernel
theorem dX8_cooledBy_123 : decode cX8_cooledBy 123 = .ok (.iconst 0, 1) := by decide +kernel
theorem dX8_cooledBy_124 : decode cX8_cooledBy 124 = .ok (.ior, 1) := by decide +kernel
theorem dX8_cooledBy_125 : decode cX8_cooledBy 125 = .ok (.istore_n 3, 1) := by decide +kernel
theorem dX8_cooledBy_126 : decode cX8_cooledBy 126 = .ok (.iinc 4 1, 3) := by decide +kernel
theorem dX8_cooledBy_129 : decode cX8_cooledBy 129 = .ok (.goto (-112), 3) := by decide +kernel
theorem dX8_cooledBy_132 : decode cX8_cooledBy 132 = .ok (.iload_n 3, 1) := by decide +kernel
theorem dX8_cooledBy_133 : decode cX8_cooledBy 133 = .ok (.ireturn, 1) := by decide +kernel
set_option maxRecDepth 20000 in
theorem dX8_cooled_0 : decode cX8_cooled 0 = .ok (.iload_n 1, 1) := by decide +kernel
theorem dX8_cooled_1 : decode cX8_cooled 1 = .ok (.i2l, 1) := by decide +kernel
theorem dX8_cooled_2 : decode cX8_cooled 2 = .ok (.lconst 0, 1) := by decide +kernel
theorem dX8_cooled_3 : decode cX8_cooled 3 = .ok (.aload_n 0, 1) := by decide +kernel
theorem dX8_cooled_4 : decode cX8_cooled 4 = .ok (.getfield 7, 3) := by decide +kernel
theorem dX8_cooled_7 : decode cX8_cooled 7 = .ok (.iconst 5, 1) := by decide +kernel
theorem dX8_cooled_8 : decode cX8_cooled 8 = .ok (.iaload, 1) := by decide +kernel
theorem dX8_cooled_9 : decode cX8_cooled 9 = .ok (.iconst 1, 1) := by decide +kernel
theorem dX8_cooled_10 : decode cX8_cooled 10 = .ok (.isub, 1) := by decide +kernel
theorem dX8_cooled_11 : decode cX8_cooled 11 = .ok (.i2l, 1) := by decide +kernel
theorem dX8_cooled_12 : decode cX8_cooled 12 = .ok (.invokestatic 60, 3) := by decide +kernel
theorem dX8_cooled_15 : decode cX8_cooled 15 = .ok (.ifCond .eq 11, 3) := by decide +kernel
theorem dX8_cooled_18 : decode cX8_cooled 18 = .ok (.aload_n 0, 1) := by decide +kernel
theorem dX8_cooled_19 : decode cX8_cooled 19 = .ok (.iload_n 1, 1) := by decide +kernel
theorem dX8_cooled_20 : decode cX8_cooled 20 = .ok (.invokevirtual 274, 3) := by decide +kernel
theorem dX8_cooled_23 : decode cX8_cooled 23 = .ok (.goto 7, 3) := by decide +kernel
theorem dX8_cooled_26 : decode cX8_cooled 26 = .ok (.aload_n 0, 1) := by decide +kernel
theorem dX8_cooled_27 : decode cX8_cooled 27 = .ok (.invokevirtual 103, 3) := by decide +kernel
theorem dX8_cooled_30 : decode cX8_cooled 30 = .ok (.ireturn, 1) := by decide +kernel
set_option maxRecDepth 20000 in
theorem dX8_even_0 : decode cX8_even 0 = .ok (.aload_n 0, 1) := by decide +kernel
theorem dX8_even_1 : decode cX8_even 1 = .ok (.iload_n 1, 1) := by decide +kernel
theorem dX8_even_2 : decode cX8_even 2 = .ok (.invokevirtual 116, 3) := by decide +kernel
theorem dX8_even_5 : decode cX8_even 5 = .ok (.ifCond .ne 8, 3) := by decide +kernel
theorem dX8_even_8 : decode cX8_even 8 = .ok (.aload_n 0, 1) := by decide +kernel
theorem dX8_even_9 : decode cX8_even 9 = .ok (.invokevirtual 103, 3) := by decide +kernel
theorem dX8_even_12 : decode cX8_even 12 = .ok (.ireturn, 1) := by decide +kernel
theorem dX8_even_13 : decode cX8_even 13 = .ok (.sipush 1023, 3) := by decide +kernel
theorem dX8_even_16 : decode cX8_even 16 = .ok (.istore_n 2, 1) := by decide +kernel
theorem dX8_even_17 : decode cX8_even 17 = .ok (.iconst 0, 1) := by decide +kernel
theorem dX8_even_18 : decode cX8_even 18 = .ok (.istore_n 3, 1) := by decide +kernel
theorem dX8_even_19 : decode cX8_even 19 = .ok (.iload_n 3, 1) := by decide +kernel
theorem dX8_even_20 : decode cX8_even 20 = .ok (.aload_n 0, 1) := by decide +kernel
theorem dX8_even_21 : decode cX8_even 21 = .ok (.getfield 7, 3) := by decide +kernel
theorem dX8_even_24 : decode cX8_even 24 = .ok (.iconst 5, 1) := by decide +kernel
theorem dX8_even_25 : decode cX8_even 25 = .ok (.iaload, 1) := by decide +kernel
theorem dX8_even_26 : decode cX8_even 26 = .ok (.if_icmp .ge 36, 3) := by decide +kernel
theorem dX8_even_29 : decode cX8_even 29 = .ok (.iload_n 2, 1) := by decide +kernel
theorem dX8_even_30 : decode cX8_even 30 = .ok (.aload_n 0, 1) := by decide +kernel
theorem dX8_even_31 : decode cX8_even 31 = .ok (.getfield 7, 3) := by decide +kernel
theorem dX8_even_34 : decode cX8_even 34 = .ok (.bipush 92, 2) := by decide +kernel
theorem dX8_even_36 : decode cX8_even 36 = .ok (.iconst 4, 1) := by decide +kernel
theorem dX8_even_37 : decode cX8_even 37 = .ok (.iload_n 3, 1) := by decide +kernel
theorem dX8_even_38 : decode cX8_even 38 = .ok (.imul, 1) := by decide +kernel
theorem dX8_even_39 : decode cX8_even 39 = .ok (.iadd, 1) := by decide +kernel
theorem dX8_even_40 : decode cX8_even 40 = .ok (.iaload, 1) := by decide +kernel
theorem dX8_even_41 : decode cX8_even 41 = .ok (.iload_n 1, 1) := by decide +kernel
theorem dX8_even_42 : decode cX8_even 42 = .ok (.if_icmp .ne 11, 3) := by decide +kernel
theorem dX8_even_45 : decode cX8_even 45 = .ok (.aload_n 0, 1) := by decide +kernel
theorem dX8_even_46 : decode cX8_even 46 = .ok (.iload_n 3, 1) := by decide +kernel
theorem dX8_even_47 : decode cX8_even 47 = .ok (.invokevirtual 274, 3) := by decide +kernel
theorem dX8_even_50 : decode cX8_even 50 = .ok (.goto 4, 3) := by decide +kernel
theorem dX8_even_53 : decode cX8_even 53 = .ok (.iconst (-1), 1) := by decide +kernel
theorem dX8_even_54 : decode cX8_even 54 = .ok (.iand, 1) := by decide +kernel
theorem dX8_even_55 : decode cX8_even 55 = .ok (.istore_n 2, 1) := by decide +kernel
theorem dX8_even_56 : decode cX8_even 56 = .ok (.iinc 3 1, 3) := by decide +kernel
theorem dX8_even_59 : decode cX8_even 59 = .ok (.goto (-40), 3) := by decide +kernel
theorem dX8_even_62 : decode cX8_even 62 = .ok (.iload_n 2, 1) := by decide +kernel
theorem dX8_even_63 : decode cX8_even 63 = .ok (.ireturn, 1) := by decide +kernel
theorem dX8_noteDown_0 : decode cX8_noteDown 0 = .ok (.iload_n 2, 1) := by decide +kernel
theorem dX8_noteDown_1 : decode cX8_noteDown 1 = .ok (.iconst 5, 1) := by decide +kernel
theorem dX8_noteDown_2 : decode cX8_noteDown 2 = .ok (.aload_n 0, 1) := by decide +kernel
theorem dX8_noteDown_3 : decode cX8_noteDown 3 = .ok (.getfield 7, 3) := by decide +kernel
theorem dX8_noteDown_6 : decode cX8_noteDown 6 = .ok (.iload_n 1, 1) := by decide +kernel
theorem dX8_noteDown_7 : decode cX8_noteDown 7 = .ok (.iaload, 1) := by decide +kernel
theorem dX8_noteDown_8 : decode cX8_noteDown 8 = .ok (.imul, 1) := by decide +kernel
theorem dX8_noteDown_9 : decode cX8_noteDown 9 = .ok (.iadd, 1) := by decide +kernel
theorem dX8_noteDown_10 : decode cX8_noteDown 10 = .ok (.istore 8, 2) := by decide +kernel
theorem dX8_noteDown_12 : decode cX8_noteDown 12 = .ok (.aload_n 0, 1) := by decide +kernel
theorem dX8_noteDown_13 : decode cX8_noteDown 13 = .ok (.getfield 7, 3) := by decide +kernel
theorem dX8_noteDown_16 : decode cX8_noteDown 16 = .ok (.iload 8, 2) := by decide +kernel
theorem dX8_noteDown_18 : decode cX8_noteDown 18 = .ok (.iload_n 3, 1) := by decide +kernel
theorem dX8_noteDown_19 : decode cX8_noteDown 19 = .ok (.iastore, 1) := by decide +kernel
theorem dX8_noteDown_20 : decode cX8_noteDown 20 = .ok (.aload_n 0, 1) := by decide +kernel
theorem dX8_noteDown_21 : decode cX8_noteDown 21 = .ok (.getfield 7, 3) := by decide +kernel
theorem dX8_noteDown_24 : decode cX8_noteDown 24 = .ok (.iload 8, 2) := by decide +kernel
theorem dX8_noteDown_26 : decode cX8_noteDown 26 = .ok (.iconst 1, 1) := by decide +kernel
theorem dX8_noteDown_27 : decode cX8_noteDown 27 = .ok (.iadd, 1) := by decide +kernel
theorem dX8_noteDown_28 : decode cX8_noteDown 28 = .ok (.iload 4, 2) := by decide +kernel
theorem dX8_noteDown_30 : decode cX8_noteDown 30 = .ok (.iastore, 1) := by decide +kernel
theorem dX8_noteDown_31 : decode cX8_noteDown 31 = .ok (.aload_n 0, 1) := by decide +kernel
theorem dX8_noteDown_32 : decode cX8_noteDown 32 = .ok (.getfield 7, 3) := by decide +kernel
theorem dX8_noteDown_35 : decode cX8_noteDown 35 = .ok (.iload 8, 2) := by decide +kernel
theorem dX8_noteDown_37 : decode cX8_noteDown 37 = .ok (.iconst 2, 1) := by decide +kernel
theorem dX8_noteDown_38 : decode cX8_noteDown 38 = .ok (.iadd, 1) := by decide +kernel
theorem dX8_noteDown_39 : decode cX8_noteDown 39 = .ok (.iload 5, 2) := by decide +kernel
theorem dX8_noteDown_41 : decode cX8_noteDown 41 = .ok (.iastore, 1) := by decide +kernel
theorem dX8_noteDown_42 : decode cX8_noteDown 42 = .ok (.aload_n 0, 1) := by decide +kernel
theorem dX8_noteDown_43 : decode cX8_noteDown 43 = .ok (.getfield 7, 3) := by decide +kernel
theorem dX8_noteDown_46 : decode cX8_noteDown 46 = .ok (.iload 8, 2) := by decide +kernel
theorem dX8_noteDown_48 : decode cX8_noteDown 48 = .ok (.iconst 3, 1) := by decide +kernel
theorem dX8_noteDown_49 : decode cX8_noteDown 49 = .ok (.iadd, 1) := by decide +kernel
theorem dX8_noteDown_50 : decode cX8_noteDown 50 = .ok (.iload 6, 2) := by decide +kernel
theorem dX8_noteDown_52 : decode cX8_noteDown 52 = .ok (.iastore, 1) := by decide +kernel
theorem dX8_noteDown_53 : decode cX8_noteDown 53 = .ok (.aload_n 0, 1) := by decide +kernel
theorem dX8_noteDown_54 : decode cX8_noteDown 54 = .ok (.getfield 7, 3) := by decide +kernel
theorem dX8_noteDown_57 : decode cX8_noteDown 57 = .ok (.iload 8, 2) := by decide +kernel
theorem dX8_noteDown_59 : decode cX8_noteDown 59 = .ok (.iconst 4, 1) := by decide +kernel
theorem dX8_noteDown_60 : decode cX8_noteDown 60 = .ok (.iadd, 1) := by decide +kernel
theorem dX8_noteDown_61 : decode cX8_noteDown 61 = .ok (.iload 7, 2) := by decide +kernel
theorem dX8_noteDown_63 : decode cX8_noteDown 63 = .ok (.iastore, 1) := by decide +kernel
theorem dX8_noteDown_64 : decode cX8_noteDown 64 = .ok (.aload_n 0, 1) := by decide +kernel
theorem dX8_noteDown_65 : decode cX8_noteDown 65 = .ok (.getfield 7, 3) := by decide +kernel
theorem dX8_noteDown_68 : decode cX8_noteDown 68 = .ok (.iload_n 1, 1) := by decide +kernel
theorem dX8_noteDown_69 : decode cX8_noteDown 69 = .ok (.dup2, 1) := by decide +kernel
theorem dX8_noteDown_70 : decode cX8_noteDown 70 = .ok (.iaload, 1) := by decide +kernel
theorem dX8_noteDown_71 : decode cX8_noteDown 71 = .ok (.iconst 1, 1) := by decide +kernel
theorem dX8_noteDown_72 : decode cX8_noteDown 72 = .ok (.iadd, 1) := by decide +kernel
theorem dX8_noteDown_73 : decode cX8_noteDown 73 = .ok (.iastore, 1) := by decide +kernel
theorem dX8_noteDown_74 : decode cX8_noteDown 74 = .ok (.aload_n 0, 1) := by decide +kernel
theorem dX8_noteDown_75 : decode cX8_noteDown 75 = .ok (.getfield 7, 3) := by decide +kernel
theorem dX8_noteDown_78 : decode cX8_noteDown 78 = .ok (.iload_n 1, 1) := by decide +kernel
theorem dX8_noteDown_79 : decode cX8_noteDown 79 = .ok (.iaload, 1) := by decide +kernel
theorem dX8_noteDown_80 : decode cX8_noteDown 80 = .ok (.ireturn, 1) := by decide +kernel
set_option maxRecDepth 20000 in
theorem dX8_note_0 : decode cX8_note 0 = .ok (.aload_n 0, 1) := by decide +kernel
theorem dX8_note_1 : decode cX8_note 1 = .ok (.iload_n 1, 1) := by decide +kernel
theorem dX8_note_2 : decode cX8_note 2 = .ok (.invokevirtual 116, 3) := by decide +kernel
theorem dX8_note_5 : decode cX8_note 5 = .ok (.ifCond .eq 53, 3) := by decide +kernel
theorem dX8_note_8 : decode cX8_note 8 = .ok (.iload_n 2, 1) := by decide +kernel
theorem dX8_note_9 : decode cX8_note 9 = .ok (.i2l, 1) := by decide +kernel
theorem dX8_note_10 : decode cX8_note 10 = .ok (.lconst 0, 1) := by decide +kernel
theorem dX8_note_11 : decode cX8_note 11 = .ok (.ldc2_w 101, 3) := by decide +kernel
theorem dX8_note_14 : decode cX8_note 14 = .ok (.invokestatic 60, 3) := by decide +kernel
theorem dX8_note_17 : decode cX8_note 17 = .ok (.ifCond .eq 41, 3) := by decide +kernel
theorem dX8_note_20 : decode cX8_note 20 = .ok (.iload_n 3, 1) := by decide +kernel
theorem dX8_note_21 : decode cX8_note 21 = .ok (.i2l, 1) := by decide +kernel
theorem dX8_note_22 : decode cX8_note 22 = .ok (.lconst 0, 1) := by decide +kernel
theorem dX8_note_23 : decode cX8_note 23 = .ok (.ldc2_w 120, 3) := by decide +kernel
theorem dX8_note_26 : decode cX8_note 26 = .ok (.invokestatic 60, 3) := by decide +kernel
theorem dX8_note_29 : decode cX8_note 29 = .ok (.ifCond .eq 29, 3) := by decide +kernel
theorem dX8_note_32 : decode cX8_note 32 = .ok (.iload 4, 2) := by decide +kernel
theorem dX8_note_34 : decode cX8_note 34 = .ok (.i2l, 1) := by decide +kernel
theorem dX8_note_35 : decode cX8_note 35 = .ok (.lconst 0, 1) := by decide +kernel
theorem dX8_note_36 : decode cX8_note 36 = .ok (.ldc2_w 246, 3) := by decide +kernel
theorem dX8_note_39 : decode cX8_note 39 = .ok (.invokestatic 60, 3) := by decide +kernel
theorem dX8_note_42 : decode cX8_note 42 = .ok (.ifCond .eq 16, 3) := by decide +kernel
theorem dX8_note_45 : decode cX8_note 45 = .ok (.iload 5, 2) := by decide +kernel
theorem dX8_note_47 : decode cX8_note 47 = .ok (.i2l, 1) := by decide +kernel
theorem dX8_note_48 : decode cX8_note 48 = .ok (.lconst 0, 1) := by decide +kernel
theorem dX8_note_49 : decode cX8_note 49 = .ok (.ldc2_w 246, 3) := by decide +kernel
theorem dX8_note_52 : decode cX8_note 52 = .ok (.invokestatic 60, 3) := by decide +kernel
theorem dX8_note_55 : decode cX8_note 55 = .ok (.ifCond .ne 8, 3) := by decide +kernel
theorem dX8_note_58 : decode cX8_note 58 = .ok (.aload_n 0, 1) := by decide +kernel
theorem dX8_note_59 : decode cX8_note 59 = .ok (.invokevirtual 103, 3) := by decide +kernel
theorem dX8_note_62 : decode cX8_note 62 = .ok (.ireturn, 1) := by decide +kernel
theorem dX8_note_63 : decode cX8_note 63 = .ok (.aload_n 0, 1) := by decide +kernel
theorem dX8_note_64 : decode cX8_note 64 = .ok (.getfield 7, 3) := by decide +kernel
theorem dX8_note_67 : decode cX8_note 67 = .ok (.bipush 6, 2) := by decide +kernel
theorem dX8_note_69 : decode cX8_note 69 = .ok (.iaload, 1) := by decide +kernel
theorem dX8_note_70 : decode cX8_note 70 = .ok (.bipush 6, 2) := by decide +kernel
theorem dX8_note_72 : decode cX8_note 72 = .ok (.if_icmp .ne 10, 3) := by decide +kernel
theorem dX8_note_75 : decode cX8_note 75 = .ok (.aload_n 0, 1) := by decide +kernel
theorem dX8_note_76 : decode cX8_note 76 = .ok (.invokevirtual 113, 3) := by decide +kernel
theorem dX8_note_79 : decode cX8_note 79 = .ok (.goto 18, 3) := by decide +kernel
theorem dX8_note_82 : decode cX8_note 82 = .ok (.aload_n 0, 1) := by decide +kernel
theorem dX8_note_83 : decode cX8_note 83 = .ok (.bipush 6, 2) := by decide +kernel
theorem dX8_note_85 : decode cX8_note 85 = .ok (.bipush 108, 2) := by decide +kernel
theorem dX8_note_87 : decode cX8_note 87 = .ok (.iload_n 1, 1) := by decide +kernel
theorem dX8_note_88 : decode cX8_note 88 = .ok (.iload_n 2, 1) := by decide +kernel
theorem dX8_note_89 : decode cX8_note 89 = .ok (.iload_n 3, 1) := by decide +kernel
theorem dX8_note_90 : decode cX8_note 90 = .ok (.iload 4, 2) := by decide +kernel
theorem dX8_note_92 : decode cX8_note 92 = .ok (.iload 5, 2) := by decide +kernel
theorem dX8_note_94 : decode cX8_note 94 = .ok (.invokevirtual 277, 3) := by decide +kernel
theorem dX8_note_97 : decode cX8_note 97 = .ok (.ireturn, 1) := by decide +kernel
set_option maxRecDepth 20000 in
theorem dX8_flew_0 : decode cX8_flew 0 = .ok (.aload_n 0, 1) := by decide +kernel
theorem dX8_flew_1 : decode cX8_flew 1 = .ok (.iload_n 1, 1) := by decide +kernel
theorem dX8_flew_2 : decode cX8_flew 2 = .ok (.invokevirtual 223, 3) := by decide +kernel
theorem dX8_flew_5 : decode cX8_flew 5 = .ok (.ifCond .eq 53, 3) := by decide +kernel
theorem dX8_flew_8 : decode cX8_flew 8 = .ok (.iload_n 2, 1) := by decide +kernel
theorem dX8_flew_9 : decode cX8_flew 9 = .ok (.i2l, 1) := by decide +kernel
theorem dX8_flew_10 : decode cX8_flew 10 = .ok (.lconst 1, 1) := by decide +kernel
theorem dX8_flew_11 : decode cX8_flew 11 = .ok (.ldc2_w 101, 3) := by decide +kernel
theorem dX8_flew_14 : decode cX8_flew 14 = .ok (.invokestatic 60, 3) := by decide +kernel
theorem dX8_flew_17 : decode cX8_flew 17 = .ok (.ifCond .eq 41, 3) := by decide +kernel
theorem dX8_flew_20 : decode cX8_flew 20 = .ok (.iload_n 3, 1) := by decide +kernel
theorem dX8_flew_21 : decode cX8_flew 21 = .ok (.i2l, 1) := by decide +kernel
theorem dX8_flew_22 : decode cX8_flew 22 = .ok (.lconst 0, 1) := by decide +kernel
theorem dX8_flew_23 : decode cX8_flew 23 = .ok (.ldc2_w 101, 3) := by decide +kernel
theorem dX8_flew_26 : decode cX8_flew 26 = .ok (.invokestatic 60, 3) := by decide +kernel
theorem dX8_flew_29 : decode cX8_flew 29 = .ok (.ifCond .eq 29, 3) := by decide +kernel
theorem dX8_flew_32 : decode cX8_flew 32 = .ok (.iload 4, 2) := by decide +kernel
theorem dX8_flew_34 : decode cX8_flew 34 = .ok (.i2l, 1) := by decide +kernel
theorem dX8_flew_35 : decode cX8_flew 35 = .ok (.lconst 0, 1) := by decide +kernel
theorem dX8_flew_36 : decode cX8_flew 36 = .ok (.ldc2_w 209, 3) := by decide +kernel
theorem dX8_flew_39 : decode cX8_flew 39 = .ok (.invokestatic 60, 3) := by decide +kernel
theorem dX8_flew_42 : decode cX8_flew 42 = .ok (.ifCond .eq 16, 3) := by decide +kernel
theorem dX8_flew_45 : decode cX8_flew 45 = .ok (.iload 5, 2) := by decide +kernel
theorem dX8_flew_47 : decode cX8_flew 47 = .ok (.i2l, 1) := by decide +kernel
theorem dX8_flew_48 : decode cX8_flew 48 = .ok (.lconst 0, 1) := by decide +kernel
theorem dX8_flew_49 : decode cX8_flew 49 = .ok (.ldc2_w 281, 3) := by decide +kernel
theorem dX8_flew_52 : decode cX8_flew 52 = .ok (.invokestatic 60, 3) := by decide +kernel
theorem dX8_flew_55 : decode cX8_flew 55 = .ok (.ifCond .ne 8, 3) := by decide +kernel
theorem dX8_flew_58 : decode cX8_flew 58 = .ok (.aload_n 0, 1) := by decide +kernel
theorem dX8_flew_59 : decode cX8_flew 59 = .ok (.invokevirtual 103, 3) := by decide +kernel
theorem dX8_flew_62 : decode cX8_flew 62 = .ok (.ireturn, 1) := by decide +kernel
theorem dX8_flew_63 : decode cX8_flew 63 = .ok (.aload_n 0, 1) := by decide +kernel
theorem dX8_flew_64 : decode cX8_flew 64 = .ok (.getfield 7, 3) := by decide +kernel
theorem dX8_flew_67 : decode cX8_flew 67 = .ok (.bipush 7, 2) := by decide +kernel
theorem dX8_flew_69 : decode cX8_flew 69 = .ok (.iaload, 1) := by decide +kernel
theorem dX8_flew_70 : decode cX8_flew 70 = .ok (.bipush 6, 2) := by decide +kernel
theorem dX8_flew_72 : decode cX8_flew 72 = .ok (.if_icmp .ne 10, 3) := by decide +kernel
theorem dX8_flew_75 : decode cX8_flew 75 = .ok (.aload_n 0, 1) := by decide +kernel
theorem dX8_flew_76 : decode cX8_flew 76 = .ok (.invokevirtual 113, 3) := by decide +kernel
theorem dX8_flew_79 : decode cX8_flew 79 = .ok (.goto 19, 3) := by decide +kernel
theorem dX8_flew_82 : decode cX8_flew 82 = .ok (.aload_n 0, 1) := by decide +kernel
theorem dX8_flew_83 : decode cX8_flew 83 = .ok (.bipush 7, 2) := by decide +kernel
theorem dX8_flew_85 : decode cX8_flew 85 = .ok (.sipush 138, 3) := by decide +kernel
theorem dX8_flew_88 : decode cX8_flew 88 = .ok (.iload_n 1, 1) := by decide +kernel
theorem dX8_flew_89 : decode cX8_flew 89 = .ok (.iload_n 2, 1) := by decide +kernel
theorem dX8_flew_90 : decode cX8_flew 90 = .ok (.iload_n 3, 1) := by decide +kernel
theorem dX8_flew_91 : decode cX8_flew 91 = .ok (.iload 4, 2) := by decide +kernel
theorem dX8_flew_93 : decode cX8_flew 93 = .ok (.iload 5, 2) := by decide +kernel
theorem dX8_flew_95 : decode cX8_flew 95 = .ok (.invokevirtual 277, 3) := by decide +kernel
theorem dX8_flew_98 : decode cX8_flew 98 = .ok (.ireturn, 1) := by decide +kernel
set_option maxRecDepth 20000 in
theorem dX8_forget_0 : decode cX8_forget 0 = .ok (.iload_n 1, 1) := by decide +kernel
theorem dX8_forget_1 : decode cX8_forget 1 = .ok (.i2l, 1) := by decide +kernel
theorem dX8_forget_2 : decode cX8_forget 2 = .ok (.lconst 0, 1) := by decide +kernel
theorem dX8_forget_3 : decode cX8_forget 3 = .ok (.ldc2_w 283, 3) := by decide +kernel
theorem dX8_forget_6 : decode cX8_forget 6 = .ok (.invokestatic 60, 3) := by decide +kernel
theorem dX8_forget_9 : decode cX8_forget 9 = .ok (.ifCond .ne 8, 3) := by decide +kernel
theorem dX8_forget_12 : decode cX8_forget 12 = .ok (.aload_n 0, 1) := by decide +kernel
theorem dX8_forget_13 : decode cX8_forget 13 = .ok (.invokevirtual 103, 3) := by decide +kernel
theorem dX8_forget_16 : decode cX8_forget 16 = .ok (.ireturn, 1) := by decide +kernel
theorem dX8_forget_17 : decode cX8_forget 17 = .ok (.aload_n 0, 1) := by decide +kernel
theorem dX8_forget_18 : decode cX8_forget 18 = .ok (.getfield 7, 3) := by decide +kernel
theorem dX8_forget_21 : decode cX8_forget 21 = .ok (.iconst 5, 1) := by decide +kernel
theorem dX8_forget_22 : decode cX8_forget 22 = .ok (.iload_n 1, 1) := by decide +kernel
theorem dX8_forget_23 : decode cX8_forget 23 = .ok (.iadd, 1) := by decide +kernel
theorem dX8_forget_24 : decode cX8_forget 24 = .ok (.iaload, 1) := by decide +kernel
theorem dX8_forget_25 : decode cX8_forget 25 = .ok (.istore_n 2, 1) := by decide +kernel
theorem dX8_forget_26 : decode cX8_forget 26 = .ok (.aload_n 0, 1) := by decide +kernel
theorem dX8_forget_27 : decode cX8_forget 27 = .ok (.getfield 7, 3) := by decide +kernel
theorem dX8_forget_30 : decode cX8_forget 30 = .ok (.iconst 5, 1) := by decide +kernel
theorem dX8_forget_31 : decode cX8_forget 31 = .ok (.iload_n 1, 1) := by decide +kernel
theorem dX8_forget_32 : decode cX8_forget 32 = .ok (.iadd, 1) := by decide +kernel
theorem dX8_forget_33 : decode cX8_forget 33 = .ok (.iconst 0, 1) := by decide +kernel
theorem dX8_forget_34 : decode cX8_forget 34 = .ok (.iastore, 1) := by decide +kernel
theorem dX8_forget_35 : decode cX8_forget 35 = .ok (.iload_n 2, 1) := by decide +kernel
theorem dX8_forget_36 : decode cX8_forget 36 = .ok (.ireturn, 1) := by decide +kernel
set_option maxRecDepth 20000 in
theorem dX8_kindsOf_0 : decode cX8_kindsOf 0 = .ok (.iconst 0, 1) := by decide +kernel
theorem dX8_kindsOf_1 : decode cX8_kindsOf 1 = .ok (.istore_n 2, 1) := by decide +kernel
theorem dX8_kindsOf_2 : decode cX8_kindsOf 2 = .ok (.iconst 0, 1) := by decide +kernel
theorem dX8_kindsOf_3 : decode cX8_kindsOf 3 = .ok (.istore_n 3, 1) := by decide +kernel
theorem dX8_kindsOf_4 : decode cX8_kindsOf 4 = .ok (.iload_n 3, 1) := by decide +kernel
theorem dX8_kindsOf_5 : decode cX8_kindsOf 5 = .ok (.bipush 6, 2) := by decide +kernel
theorem dX8_kindsOf_7 : decode cX8_kindsOf 7 = .ok (.if_icmp .ge 142, 3) := by decide +kernel
theorem dX8_kindsOf_10 : decode cX8_kindsOf 10 = .ok (.iconst 1, 1) := by decide +kernel
theorem dX8_kindsOf_11 : decode cX8_kindsOf 11 = .ok (.istore 4, 2) := by decide +kernel
theorem dX8_kindsOf_13 : decode cX8_kindsOf 13 = .ok (.iconst 0, 1) := by decide +kernel
theorem dX8_kindsOf_14 : decode cX8_kindsOf 14 = .ok (.istore 5, 2) := by decide +kernel
theorem dX8_kindsOf_16 : decode cX8_kindsOf 16 = .ok (.iload 5, 2) := by decide +kernel
theorem dX8_kindsOf_18 : decode cX8_kindsOf 18 = .ok (.aload_n 0, 1) := by decide +kernel
theorem dX8_kindsOf_19 : decode cX8_kindsOf 19 = .ok (.getfield 7, 3) := by decide +kernel
theorem dX8_kindsOf_22 : decode cX8_kindsOf 22 = .ok (.bipush 6, 2) := by decide +kernel
theorem dX8_kindsOf_24 : decode cX8_kindsOf 24 = .ok (.iaload, 1) := by decide +kernel
theorem dX8_kindsOf_25 : decode cX8_kindsOf 25 = .ok (.if_icmp .ge 103, 3) := by decide +kernel
theorem dX8_kindsOf_28 : decode cX8_kindsOf 28 = .ok (.bipush 108, 2) := by decide +kernel
theorem dX8_kindsOf_30 : decode cX8_kindsOf 30 = .ok (.iconst 5, 1) := by decide +kernel
theorem dX8_kindsOf_31 : decode cX8_kindsOf 31 = .ok (.iload 5, 2) := by decide +kernel
theorem dX8_kindsOf_33 : decode cX8_kindsOf 33 = .ok (.imul, 1) := by decide +kernel
theorem dX8_kindsOf_34 : decode cX8_kindsOf 34 = .ok (.iadd, 1) := by decide +kernel
theorem dX8_kindsOf_35 : decode cX8_kindsOf 35 = .ok (.istore 6, 2) := by decide +kernel
theorem dX8_kindsOf_37 : decode cX8_kindsOf 37 = .ok (.iload_n 3, 1) := by decide +kernel
theorem dX8_kindsOf_38 : decode cX8_kindsOf 38 = .ok (.aload_n 0, 1) := by decide +kernel
theorem dX8_kindsOf_39 : decode cX8_kindsOf 39 = .ok (.getfield 7, 3) := by decide +kernel
theorem dX8_kindsOf_42 : decode cX8_kindsOf 42 = .ok (.iload 6, 2) := by decide +kernel
theorem dX8_kindsOf_44 : decode cX8_kindsOf 44 = .ok (.iconst 2, 1) := by decide +kernel
theorem dX8_kindsOf_45 : decode cX8_kindsOf 45 = .ok (.iadd, 1) := by decide +kernel
theorem dX8_kindsOf_46 : decode cX8_kindsOf 46 = .ok (.iaload, 1) := by decide +kernel
theorem dX8_kindsOf_47 : decode cX8_kindsOf 47 = .ok (.aload_n 0, 1) := by decide +kernel
theorem dX8_kindsOf_48 : decode cX8_kindsOf 48 = .ok (.getfield 7, 3) := by decide +kernel
theorem dX8_kindsOf_51 : decode cX8_kindsOf 51 = .ok (.iload 6, 2) := by decide +kernel
theorem dX8_kindsOf_53 : decode cX8_kindsOf 53 = .ok (.iconst 1, 1) := by decide +kernel
theorem dX8_kindsOf_54 : decode cX8_kindsOf 54 = .ok (.iadd, 1) := by decide +kernel
theorem dX8_kindsOf_55 : decode cX8_kindsOf 55 = .ok (.iaload, 1) := by decide +kernel
theorem dX8_kindsOf_56 : decode cX8_kindsOf 56 = .ok (.invokestatic 87, 3) := by decide +kernel
