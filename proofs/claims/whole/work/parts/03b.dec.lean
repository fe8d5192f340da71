theorem dX7_init_99 : decode cX7_init 99 = .ok (.getfield 10, 3) := by decide +kernel
theorem dX7_init_102 : decode cX7_init 102 = .ok (.invokespecial 50, 3) := by decide +kernel
theorem dX7_init_105 : decode cX7_init 105 = .ok (.putfield 51, 3) := by decide +kernel
theorem dX7_init_108 : decode cX7_init 108 = .ok (.aload_n 0, 1) := by decide +kernel
theorem dX7_init_109 : decode cX7_init 109 = .ok (.lconst 0, 1) := by decide +kernel
theorem dX7_init_110 : decode cX7_init 110 = .ok (.putfield 55, 3) := by decide +kernel
theorem dX7_init_113 : decode cX7_init 113 = .ok (.aload_n 0, 1) := by decide +kernel
theorem dX7_init_114 : decode cX7_init 114 = .ok (.lconst 1, 1) := by decide +kernel
theorem dX7_init_115 : decode cX7_init 115 = .ok (.putfield 59, 3) := by decide +kernel
theorem dX7_init_118 : decode cX7_init 118 = .ok (.return_, 1) := by decide +kernel
theorem dX7_store_0 : decode cX7_store 0 = .ok (.iload_n 1, 1) := by decide +kernel
theorem dX7_store_1 : decode cX7_store 1 = .ok (.iconst 0, 1) := by decide +kernel
theorem dX7_store_2 : decode cX7_store 2 = .ok (.bipush 9, 2) := by decide +kernel
theorem dX7_store_4 : decode cX7_store 4 = .ok (.invokestatic 62, 3) := by decide +kernel
theorem dX7_store_7 : decode cX7_store 7 = .ok (.ifCond .ne 8, 3) := by decide +kernel
theorem dX7_store_10 : decode cX7_store 10 = .ok (.aload_n 0, 1) := by decide +kernel
theorem dX7_store_11 : decode cX7_store 11 = .ok (.invokevirtual 66, 3) := by decide +kernel
theorem dX7_store_14 : decode cX7_store 14 = .ok (.ireturn, 1) := by decide +kernel
theorem dX7_store_15 : decode cX7_store 15 = .ok (.aload_n 0, 1) := by decide +kernel
theorem dX7_store_16 : decode cX7_store 16 = .ok (.getfield 10, 3) := by decide +kernel
theorem dX7_store_19 : decode cX7_store 19 = .ok (.getfield 70, 3) := by decide +kernel
theorem dX7_store_22 : decode cX7_store 22 = .ok (.getfield 74, 3) := by decide +kernel
theorem dX7_store_25 : decode cX7_store 25 = .ok (.istore_n 2, 1) := by decide +kernel
theorem dX7_store_26 : decode cX7_store 26 = .ok (.aload_n 0, 1) := by decide +kernel
theorem dX7_store_27 : decode cX7_store 27 = .ok (.getfield 10, 3) := by decide +kernel
theorem dX7_store_30 : decode cX7_store 30 = .ok (.iload_n 1, 1) := by decide +kernel
theorem dX7_store_31 : decode cX7_store 31 = .ok (.invokevirtual 80, 3) := by decide +kernel
theorem dX7_store_34 : decode cX7_store 34 = .ok (.iload_n 2, 1) := by decide +kernel
theorem dX7_store_35 : decode cX7_store 35 = .ok (.ireturn, 1) := by decide +kernel
theorem dX7_cellar_0 : decode cX7_cellar 0 = .ok (.iload_n 1, 1) := by decide +kernel
theorem dX7_cellar_1 : decode cX7_cellar 1 = .ok (.iconst 0, 1) := by decide +kernel
theorem dX7_cellar_2 : decode cX7_cellar 2 = .ok (.iconst 5, 1) := by decide +kernel
theorem dX7_cellar_3 : decode cX7_cellar 3 = .ok (.invokestatic 62, 3) := by decide +kernel
theorem dX7_cellar_6 : decode cX7_cellar 6 = .ok (.ifCond .eq 13, 3) := by decide +kernel
theorem dX7_cellar_9 : decode cX7_cellar 9 = .ok (.iload_n 2, 1) := by decide +kernel
theorem dX7_cellar_10 : decode cX7_cellar 10 = .ok (.iconst 0, 1) := by decide +kernel
theorem dX7_cellar_11 : decode cX7_cellar 11 = .ok (.bipush 9, 2) := by decide +kernel
theorem dX7_cellar_13 : decode cX7_cellar 13 = .ok (.invokestatic 62, 3) := by decide +kernel
theorem dX7_cellar_16 : decode cX7_cellar 16 = .ok (.ifCond .ne 8, 3) := by decide +kernel
theorem dX7_cellar_19 : decode cX7_cellar 19 = .ok (.aload_n 0, 1) := by decide +kernel
theorem dX7_cellar_20 : decode cX7_cellar 20 = .ok (.invokevirtual 66, 3) := by decide +kernel
theorem dX7_cellar_23 : decode cX7_cellar 23 = .ok (.ireturn, 1) := by decide +kernel
theorem dX7_cellar_24 : decode cX7_cellar 24 = .ok (.aload_n 0, 1) := by decide +kernel
theorem dX7_cellar_25 : decode cX7_cellar 25 = .ok (.getfield 10, 3) := by decide +kernel
theorem dX7_cellar_28 : decode cX7_cellar 28 = .ok (.getfield 70, 3) := by decide +kernel
theorem dX7_cellar_31 : decode cX7_cellar 31 = .ok (.invokevirtual 84, 3) := by decide +kernel
theorem dX7_cellar_34 : decode cX7_cellar 34 = .ok (.ifCond .eq 8, 3) := by decide +kernel
theorem dX7_cellar_37 : decode cX7_cellar 37 = .ok (.aload_n 0, 1) := by decide +kernel
theorem dX7_cellar_38 : decode cX7_cellar 38 = .ok (.invokevirtual 88, 3) := by decide +kernel
theorem dX7_cellar_41 : decode cX7_cellar 41 = .ok (.ireturn, 1) := by decide +kernel
theorem dX7_cellar_42 : decode cX7_cellar 42 = .ok (.aload_n 0, 1) := by decide +kernel
theorem dX7_cellar_43 : decode cX7_cellar 43 = .ok (.getfield 10, 3) := by decide +kernel
theorem dX7_cellar_46 : decode cX7_cellar 46 = .ok (.getfield 91, 3) := by decide +kernel
theorem dX7_cellar_49 : decode cX7_cellar 49 = .ok (.invokevirtual 94, 3) := by decide +kernel
theorem dX7_cellar_52 : decode cX7_cellar 52 = .ok (.pop, 1) := by decide +kernel
theorem dX7_cellar_53 : decode cX7_cellar 53 = .ok (.aload_n 0, 1) := by decide +kernel
theorem dX7_cellar_54 : decode cX7_cellar 54 = .ok (.getfield 10, 3) := by decide +kernel
theorem dX7_cellar_57 : decode cX7_cellar 57 = .ok (.iload_n 1, 1) := by decide +kernel
theorem dX7_cellar_58 : decode cX7_cellar 58 = .ok (.iload_n 2, 1) := by decide +kernel
theorem dX7_cellar_59 : decode cX7_cellar 59 = .ok (.invokevirtual 97, 3) := by decide +kernel
theorem dX7_cellar_62 : decode cX7_cellar 62 = .ok (.ireturn, 1) := by decide +kernel
theorem dX7_stones_0 : decode cX7_stones 0 = .ok (.aload_n 0, 1) := by decide +kernel
theorem dX7_stones_1 : decode cX7_stones 1 = .ok (.getfield 10, 3) := by decide +kernel
theorem dX7_stones_4 : decode cX7_stones 4 = .ok (.getfield 70, 3) := by decide +kernel
theorem dX7_stones_7 : decode cX7_stones 7 = .ok (.iload_n 1, 1) := by decide +kernel
theorem dX7_stones_8 : decode cX7_stones 8 = .ok (.invokevirtual 101, 3) := by decide +kernel
theorem dX7_stones_11 : decode cX7_stones 11 = .ok (.ifCond .eq 20, 3) := by decide +kernel
theorem dX7_stones_14 : decode cX7_stones 14 = .ok (.iload_n 2, 1) := by decide +kernel
theorem dX7_stones_15 : decode cX7_stones 15 = .ok (.invokestatic 105, 3) := by decide +kernel
theorem dX7_stones_18 : decode cX7_stones 18 = .ok (.ifCond .eq 13, 3) := by decide +kernel
theorem dX7_stones_21 : decode cX7_stones 21 = .ok (.iload_n 3, 1) := by decide +kernel
theorem dX7_stones_22 : decode cX7_stones 22 = .ok (.iconst 1, 1) := by decide +kernel
theorem dX7_stones_23 : decode cX7_stones 23 = .ok (.bipush 99, 2) := by decide +kernel
theorem dX7_stones_25 : decode cX7_stones 25 = .ok (.invokestatic 62, 3) := by decide +kernel
theorem dX7_stones_28 : decode cX7_stones 28 = .ok (.ifCond .ne 8, 3) := by decide +kernel
theorem dX7_stones_31 : decode cX7_stones 31 = .ok (.aload_n 0, 1) := by decide +kernel
theorem dX7_stones_32 : decode cX7_stones 32 = .ok (.invokevirtual 66, 3) := by decide +kernel
theorem dX7_stones_35 : decode cX7_stones 35 = .ok (.ireturn, 1) := by decide +kernel
theorem dX7_stones_36 : decode cX7_stones 36 = .ok (.aload_n 0, 1) := by decide +kernel
theorem dX7_stones_37 : decode cX7_stones 37 = .ok (.getfield 10, 3) := by decide +kernel
theorem dX7_stones_40 : decode cX7_stones 40 = .ok (.getfield 91, 3) := by decide +kernel
theorem dX7_stones_43 : decode cX7_stones 43 = .ok (.invokevirtual 94, 3) := by decide +kernel
theorem dX7_stones_46 : decode cX7_stones 46 = .ok (.pop, 1) := by decide +kernel
theorem dX7_stones_47 : decode cX7_stones 47 = .ok (.aload_n 0, 1) := by decide +kernel
theorem dX7_stones_48 : decode cX7_stones 48 = .ok (.getfield 10, 3) := by decide +kernel
theorem dX7_stones_51 : decode cX7_stones 51 = .ok (.iload_n 1, 1) := by decide +kernel
theorem dX7_stones_52 : decode cX7_stones 52 = .ok (.iload_n 2, 1) := by decide +kernel
theorem dX7_stones_53 : decode cX7_stones 53 = .ok (.bipush 99, 2) := by decide +kernel
theorem dX7_stones_55 : decode cX7_stones 55 = .ok (.aload_n 0, 1) := by decide +kernel
theorem dX7_stones_56 : decode cX7_stones 56 = .ok (.getfield 10, 3) := by decide +kernel
theorem dX7_stones_59 : decode cX7_stones 59 = .ok (.iload_n 1, 1) := by decide +kernel
theorem dX7_stones_60 : decode cX7_stones 60 = .ok (.iload_n 2, 1) := by decide +kernel
theorem dX7_stones_61 : decode cX7_stones 61 = .ok (.invokevirtual 108, 3) := by decide +kernel
theorem dX7_stones_64 : decode cX7_stones 64 = .ok (.iload_n 3, 1) := by decide +kernel
theorem dX7_stones_65 : decode cX7_stones 65 = .ok (.iadd, 1) := by decide +kernel
theorem dX7_stones_66 : decode cX7_stones 66 = .ok (.invokestatic 111, 3) := by decide +kernel
theorem dX7_stones_69 : decode cX7_stones 69 = .ok (.invokevirtual 116, 3) := by decide +kernel
theorem dX7_stones_72 : decode cX7_stones 72 = .ok (.aload_n 0, 1) := by decide +kernel
theorem dX7_stones_73 : decode cX7_stones 73 = .ok (.getfield 10, 3) := by decide +kernel
theorem dX7_stones_76 : decode cX7_stones 76 = .ok (.iload_n 1, 1) := by decide +kernel
theorem dX7_stones_77 : decode cX7_stones 77 = .ok (.iload_n 2, 1) := by decide +kernel
theorem dX7_stones_78 : decode cX7_stones 78 = .ok (.invokevirtual 108, 3) := by decide +kernel
theorem dX7_stones_81 : decode cX7_stones 81 = .ok (.ireturn, 1) := by decide +kernel
theorem dX7_straw_0 : decode cX7_straw 0 = .ok (.aload_n 0, 1) := by decide +kernel
theorem dX7_straw_1 : decode cX7_straw 1 = .ok (.getfield 10, 3) := by decide +kernel
theorem dX7_straw_4 : decode cX7_straw 4 = .ok (.getfield 70, 3) := by decide +kernel
theorem dX7_straw_7 : decode cX7_straw 7 = .ok (.iload_n 1, 1) := by decide +kernel
theorem dX7_straw_8 : decode cX7_straw 8 = .ok (.invokevirtual 101, 3) := by decide +kernel
theorem dX7_straw_11 : decode cX7_straw 11 = .ok (.ifCond .eq 13, 3) := by decide +kernel
theorem dX7_straw_14 : decode cX7_straw 14 = .ok (.iload_n 2, 1) := by decide +kernel
theorem dX7_straw_15 : decode cX7_straw 15 = .ok (.iconst 0, 1) := by decide +kernel
theorem dX7_straw_16 : decode cX7_straw 16 = .ok (.bipush 9, 2) := by decide +kernel
theorem dX7_straw_18 : decode cX7_straw 18 = .ok (.invokestatic 62, 3) := by decide +kernel
theorem dX7_straw_21 : decode cX7_straw 21 = .ok (.ifCond .ne 8, 3) := by decide +kernel
theorem dX7_straw_24 : decode cX7_straw 24 = .ok (.aload_n 0, 1) := by decide +kernel
theorem dX7_straw_25 : decode cX7_straw 25 = .ok (.invokevirtual 66, 3) := by decide +kernel
theorem dX7_straw_28 : decode cX7_straw 28 = .ok (.ireturn, 1) := by decide +kernel
theorem dX7_straw_29 : decode cX7_straw 29 = .ok (.aload_n 0, 1) := by decide +kernel
theorem dX7_straw_30 : decode cX7_straw 30 = .ok (.getfield 10, 3) := by decide +kernel
theorem dX7_straw_33 : decode cX7_straw 33 = .ok (.getfield 70, 3) := by decide +kernel
theorem dX7_straw_36 : decode cX7_straw 36 = .ok (.iload_n 1, 1) := by decide +kernel
theorem dX7_straw_37 : decode cX7_straw 37 = .ok (.iconst 1, 1) := by decide +kernel
theorem dX7_straw_38 : decode cX7_straw 38 = .ok (.invokevirtual 120, 3) := by decide +kernel
theorem dX7_straw_41 : decode cX7_straw 41 = .ok (.istore_n 3, 1) := by decide +kernel
theorem dX7_straw_42 : decode cX7_straw 42 = .ok (.aload_n 0, 1) := by decide +kernel
theorem dX7_straw_43 : decode cX7_straw 43 = .ok (.getfield 10, 3) := by decide +kernel
theorem dX7_straw_46 : decode cX7_straw 46 = .ok (.getfield 91, 3) := by decide +kernel
theorem dX7_straw_49 : decode cX7_straw 49 = .ok (.invokevirtual 94, 3) := by decide +kernel
theorem dX7_straw_52 : decode cX7_straw 52 = .ok (.pop, 1) := by decide +kernel
theorem dX7_straw_53 : decode cX7_straw 53 = .ok (.aload_n 0, 1) := by decide +kernel
theorem dX7_straw_54 : decode cX7_straw 54 = .ok (.getfield 10, 3) := by decide +kernel
theorem dX7_straw_57 : decode cX7_straw 57 = .ok (.getfield 70, 3) := by decide +kernel
theorem dX7_straw_60 : decode cX7_straw 60 = .ok (.iload_n 1, 1) := by decide +kernel
theorem dX7_straw_61 : decode cX7_straw 61 = .ok (.iconst 1, 1) := by decide +kernel
theorem dX7_straw_62 : decode cX7_straw 62 = .ok (.iload_n 2, 1) := by decide +kernel
theorem dX7_straw_63 : decode cX7_straw 63 = .ok (.invokevirtual 123, 3) := by decide +kernel
theorem dX7_straw_66 : decode cX7_straw 66 = .ok (.iload_n 3, 1) := by decide +kernel
theorem dX7_straw_67 : decode cX7_straw 67 = .ok (.ireturn, 1) := by decide +kernel
theorem dX7_slinger_0 : decode cX7_slinger 0 = .ok (.iload_n 1, 1) := by decide +kernel
theorem dX7_slinger_1 : decode cX7_slinger 1 = .ok (.iconst 0, 1) := by decide +kernel
theorem dX7_slinger_2 : decode cX7_slinger 2 = .ok (.iconst 5, 1) := by decide +kernel
theorem dX7_slinger_3 : decode cX7_slinger 3 = .ok (.invokestatic 62, 3) := by decide +kernel
theorem dX7_slinger_6 : decode cX7_slinger 6 = .ok (.ifCond .eq 13, 3) := by decide +kernel
theorem dX7_slinger_9 : decode cX7_slinger 9 = .ok (.iload_n 2, 1) := by decide +kernel
theorem dX7_slinger_10 : decode cX7_slinger 10 = .ok (.iconst 0, 1) := by decide +kernel
theorem dX7_slinger_11 : decode cX7_slinger 11 = .ok (.bipush 9, 2) := by decide +kernel
theorem dX7_slinger_13 : decode cX7_slinger 13 = .ok (.invokestatic 62, 3) := by decide +kernel
theorem dX7_slinger_16 : decode cX7_slinger 16 = .ok (.ifCond .ne 8, 3) := by decide +kernel
theorem dX7_slinger_19 : decode cX7_slinger 19 = .ok (.aload_n 0, 1) := by decide +kernel
theorem dX7_slinger_20 : decode cX7_slinger 20 = .ok (.invokevirtual 66, 3) := by decide +kernel
theorem dX7_slinger_23 : decode cX7_slinger 23 = .ok (.ireturn, 1) := by decide +kernel
theorem dX7_slinger_24 : decode cX7_slinger 24 = .ok (.aload_n 0, 1) := by decide +kernel
theorem dX7_slinger_25 : decode cX7_slinger 25 = .ok (.getfield 10, 3) := by decide +kernel
theorem dX7_slinger_28 : decode cX7_slinger 28 = .ok (.getfield 126, 3) := by decide +kernel
theorem dX7_slinger_31 : decode cX7_slinger 31 = .ok (.invokevirtual 84, 3) := by decide +kernel
theorem dX7_slinger_34 : decode cX7_slinger 34 = .ok (.ifCond .eq 8, 3) := by decide +kernel
theorem dX7_slinger_37 : decode cX7_slinger 37 = .ok (.aload_n 0, 1) := by decide +kernel
theorem dX7_slinger_38 : decode cX7_slinger 38 = .ok (.invokevirtual 88, 3) := by decide +kernel
theorem dX7_slinger_41 : decode cX7_slinger 41 = .ok (.ireturn, 1) := by decide +kernel
theorem dX7_slinger_42 : decode cX7_slinger 42 = .ok (.aload_n 0, 1) := by decide +kernel
theorem dX7_slinger_43 : decode cX7_slinger 43 = .ok (.getfield 10, 3) := by decide +kernel
theorem dX7_slinger_46 : decode cX7_slinger 46 = .ok (.getfield 91, 3) := by decide +kernel
theorem dX7_slinger_49 : decode cX7_slinger 49 = .ok (.invokevirtual 94, 3) := by decide +kernel
theorem dX7_slinger_52 : decode cX7_slinger 52 = .ok (.pop, 1) := by decide +kernel
theorem dX7_slinger_53 : decode cX7_slinger 53 = .ok (.aload_n 0, 1) := by decide +kernel
theorem dX7_slinger_54 : decode cX7_slinger 54 = .ok (.getfield 10, 3) := by decide +kernel
theorem dX7_slinger_57 : decode cX7_slinger 57 = .ok (.iload_n 1, 1) := by decide +kernel
theorem dX7_slinger_58 : decode cX7_slinger 58 = .ok (.iload_n 2, 1) := by decide +kernel
theorem dX7_slinger_59 : decode cX7_slinger 59 = .ok (.invokevirtual 129, 3) := by decide +kernel
theorem dX7_slinger_62 : decode cX7_slinger 62 = .ok (.ireturn, 1) := by decide +kernel
theorem dX7_cloud_0 : decode cX7_cloud 0 = .ok (.iload_n 1, 1) := by decide +kernel
theorem dX7_cloud_1 : decode cX7_cloud 1 = .ok (.iconst 1, 1) := by decide +kernel
theorem dX7_cloud_2 : decode cX7_cloud 2 = .ok (.bipush 30, 2) := by decide +kernel
theorem dX7_cloud_4 : decode cX7_cloud 4 = .ok (.invokestatic 62, 3) := by decide +kernel
theorem dX7_cloud_7 : decode cX7_cloud 7 = .ok (.ifCond .eq 13, 3) := by decide +kernel
theorem dX7_cloud_10 : decode cX7_cloud 10 = .ok (.iload_n 2, 1) := by decide +kernel
theorem dX7_cloud_11 : decode cX7_cloud 11 = .ok (.iconst 1, 1) := by decide +kernel
theorem dX7_cloud_12 : decode cX7_cloud 12 = .ok (.bipush 40, 2) := by decide +kernel
theorem dX7_cloud_14 : decode cX7_cloud 14 = .ok (.invokestatic 62, 3) := by decide +kernel
theorem dX7_cloud_17 : decode cX7_cloud 17 = .ok (.ifCond .ne 8, 3) := by decide +kernel
theorem dX7_cloud_20 : decode cX7_cloud 20 = .ok (.aload_n 0, 1) := by decide +kernel
theorem dX7_cloud_21 : decode cX7_cloud 21 = .ok (.invokevirtual 66, 3) := by decide +kernel
theorem dX7_cloud_24 : decode cX7_cloud 24 = .ok (.ireturn, 1) := by decide +kernel
theorem dX7_cloud_25 : decode cX7_cloud 25 = .ok (.aload_n 0, 1) := by decide +kernel
theorem dX7_cloud_26 : decode cX7_cloud 26 = .ok (.getfield 10, 3) := by decide +kernel
theorem dX7_cloud_29 : decode cX7_cloud 29 = .ok (.getfield 132, 3) := by decide +kernel
theorem dX7_cloud_32 : decode cX7_cloud 32 = .ok (.invokevirtual 84, 3) := by decide +kernel
theorem dX7_cloud_35 : decode cX7_cloud 35 = .ok (.ifCond .eq 8, 3) := by decide +kernel
theorem dX7_cloud_38 : decode cX7_cloud 38 = .ok (.aload_n 0, 1) := by decide +kernel
theorem dX7_cloud_39 : decode cX7_cloud 39 = .ok (.invokevirtual 88, 3) := by decide +kernel
theorem dX7_cloud_42 : decode cX7_cloud 42 = .ok (.ireturn, 1) := by decide +kernel
theorem dX7_cloud_43 : decode cX7_cloud 43 = .ok (.aload_n 0, 1) := by decide +kernel
theorem dX7_cloud_44 : decode cX7_cloud 44 = .ok (.getfield 10, 3) := by decide +kernel
theorem dX7_cloud_47 : decode cX7_cloud 47 = .ok (.getfield 91, 3) := by decide +kernel
theorem dX7_cloud_50 : decode cX7_cloud 50 = .ok (.invokevirtual 94, 3) := by decide +kernel
theorem dX7_cloud_53 : decode cX7_cloud 53 = .ok (.pop, 1) := by decide +kernel
theorem dX7_cloud_54 : decode cX7_cloud 54 = .ok (.aload_n 0, 1) := by decide +kernel
theorem dX7_cloud_55 : decode cX7_cloud 55 = .ok (.getfield 10, 3) := by decide +kernel
theorem dX7_cloud_58 : decode cX7_cloud 58 = .ok (.iload_n 1, 1) := by decide +kernel
theorem dX7_cloud_59 : decode cX7_cloud 59 = .ok (.iload_n 2, 1) := by decide +kernel
theorem dX7_cloud_60 : decode cX7_cloud 60 = .ok (.invokevirtual 135, 3) := by decide +kernel
theorem dX7_cloud_63 : decode cX7_cloud 63 = .ok (.ireturn, 1) := by decide +kernel
theorem dX7_type_0 : decode cX7_type 0 = .ok (.iload_n 1, 1) := by decide +kernel
theorem dX7_type_1 : decode cX7_type 1 = .ok (.iconst 0, 1) := by decide +kernel
theorem dX7_type_2 : decode cX7_type 2 = .ok (.bipush 127, 2) := by decide +kernel
theorem dX7_type_4 : decode cX7_type 4 = .ok (.invokestatic 62, 3) := by decide +kernel
theorem dX7_type_7 : decode cX7_type 7 = .ok (.ifCond .ne 8, 3) := by decide +kernel
theorem dX7_type_10 : decode cX7_type 10 = .ok (.aload_n 0, 1) := by decide +kernel
theorem dX7_type_11 : decode cX7_type 11 = .ok (.invokevirtual 66, 3) := by decide +kernel
theorem dX7_type_14 : decode cX7_type 14 = .ok (.ireturn, 1) := by decide +kernel
theorem dX7_type_15 : decode cX7_type 15 = .ok (.aload_n 0, 1) := by decide +kernel
theorem dX7_type_16 : decode cX7_type 16 = .ok (.getfield 30, 3) := by decide +kernel
theorem dX7_type_19 : decode cX7_type 19 = .ok (.invokevirtual 138, 3) := by decide +kernel
theorem dX7_type_22 : decode cX7_type 22 = .ok (.ifCond .eq 8, 3) := by decide +kernel
theorem dX7_type_25 : decode cX7_type 25 = .ok (.aload_n 0, 1) := by decide +kernel
theorem dX7_type_26 : decode cX7_type 26 = .ok (.invokevirtual 88, 3) := by decide +kernel
theorem dX7_type_29 : decode cX7_type 29 = .ok (.ireturn, 1) := by decide +kernel
theorem dX7_type_30 : decode cX7_type 30 = .ok (.aload_n 0, 1) := by decide +kernel
theorem dX7_type_31 : decode cX7_type 31 = .ok (.getfield 30, 3) := by decide +kernel
theorem dX7_type_34 : decode cX7_type 34 = .ok (.iload_n 1, 1) := by decide +kernel
theorem dX7_type_35 : decode cX7_type 35 = .ok (.invokevirtual 141, 3) := by decide +kernel
theorem dX7_type_38 : decode cX7_type 38 = .ok (.ireturn, 1) := by decide +kernel
theorem dX7_clear_0 : decode cX7_clear 0 = .ok (.aload_n 0, 1) := by decide +kernel
theorem dX7_clear_1 : decode cX7_clear 1 = .ok (.getfield 30, 3) := by decide +kernel
theorem dX7_clear_4 : decode cX7_clear 4 = .ok (.invokevirtual 145, 3) := by decide +kernel
theorem dX7_clear_7 : decode cX7_clear 7 = .ok (.ireturn, 1) := by decide +kernel
theorem dX7_read_0 : decode cX7_read 0 = .ok (.aload_n 0, 1) := by decide +kernel
theorem dX7_read_1 : decode cX7_read 1 = .ok (.getfield 30, 3) := by decide +kernel
theorem dX7_read_4 : decode cX7_read 4 = .ok (.invokevirtual 148, 3) := by decide +kernel
theorem dX7_read_7 : decode cX7_read 7 = .ok (.istore_n 1, 1) := by decide +kernel
theorem dX7_read_8 : decode cX7_read 8 = .ok (.iload_n 1, 1) := by decide +kernel
theorem dX7_read_9 : decode cX7_read 9 = .ok (.ifCond .lt 14, 3) := by decide +kernel
theorem dX7_read_12 : decode cX7_read 12 = .ok (.aload_n 0, 1) := by decide +kernel
theorem dX7_read_13 : decode cX7_read 13 = .ok (.getfield 10, 3) := by decide +kernel
theorem dX7_read_16 : decode cX7_read 16 = .ok (.aload_n 0, 1) := by decide +kernel
theorem dX7_read_17 : decode cX7_read 17 = .ok (.getfield 22, 3) := by decide +kernel
theorem dX7_read_20 : decode cX7_read 20 = .ok (.invokevirtual 151, 3) := by decide +kernel
theorem dX7_read_23 : decode cX7_read 23 = .ok (.iload_n 1, 1) := by decide +kernel
theorem dX7_read_24 : decode cX7_read 24 = .ok (.ireturn, 1) := by decide +kernel
theorem dX7_week_0 : decode cX7_week 0 = .ok (.iload_n 1, 1) := by decide +kernel
theorem dX7_week_1 : decode cX7_week 1 = .ok (.iconst 1, 1) := by decide +kernel
theorem dX7_week_2 : decode cX7_week 2 = .ok (.bipush 60, 2) := by decide +kernel
theorem dX7_week_4 : decode cX7_week 4 = .ok (.invokestatic 62, 3) := by decide +kernel
theorem dX7_week_7 : decode cX7_week 7 = .ok (.ifCond .ne 8, 3) := by decide +kernel
theorem dX7_week_10 : decode cX7_week 10 = .ok (.aload_n 0, 1) := by decide +kernel
theorem dX7_week_11 : decode cX7_week 11 = .ok (.invokevirtual 66, 3) := by decide +kernel
theorem dX7_week_14 : decode cX7_week 14 = .ok (.ireturn, 1) := by decide +kernel
theorem dX7_week_15 : decode cX7_week 15 = .ok (.aload_n 0, 1) := by decide +kernel
theorem dX7_week_16 : decode cX7_week 16 = .ok (.getfield 10, 3) := by decide +kernel
theorem dX7_week_19 : decode cX7_week 19 = .ok (.invokevirtual 154, 3) := by decide +kernel
theorem dX7_week_22 : decode cX7_week 22 = .ok (.aload_n 0, 1) := by decide +kernel
theorem dX7_week_23 : decode cX7_week 23 = .ok (.getfield 10, 3) := by decide +kernel
theorem dX7_week_26 : decode cX7_week 26 = .ok (.iload_n 1, 1) := by decide +kernel
theorem dX7_week_27 : decode cX7_week 27 = .ok (.invokevirtual 157, 3) := by decide +kernel
theorem dX7_week_30 : decode cX7_week 30 = .ok (.aload_n 0, 1) := by decide +kernel
theorem dX7_week_31 : decode cX7_week 31 = .ok (.getfield 10, 3) := by decide +kernel
theorem dX7_week_34 : decode cX7_week 34 = .ok (.invokevirtual 160, 3) := by decide +kernel
theorem dX7_week_37 : decode cX7_week 37 = .ok (.ireturn, 1) := by decide +kernel
theorem dX7_door_0 : decode cX7_door 0 = .ok (.aload_n 0, 1) := by decide +kernel
theorem dX7_door_1 : decode cX7_door 1 = .ok (.getfield 10, 3) := by decide +kernel
theorem dX7_door_4 : decode cX7_door 4 = .ok (.getfield 70, 3) := by decide +kernel
theorem dX7_door_7 : decode cX7_door 7 = .ok (.iload_n 1, 1) := by decide +kernel
theorem dX7_door_8 : decode cX7_door 8 = .ok (.invokevirtual 101, 3) := by decide +kernel
theorem dX7_door_11 : decode cX7_door 11 = .ok (.ifCond .ne 8, 3) := by decide +kernel
theorem dX7_door_14 : decode cX7_door 14 = .ok (.aload_n 0, 1) := by decide +kernel
theorem dX7_door_15 : decode cX7_door 15 = .ok (.invokevirtual 66, 3) := by decide +kernel
theorem dX7_door_18 : decode cX7_door 18 = .ok (.ireturn, 1) := by decide +kernel
theorem dX7_door_19 : decode cX7_door 19 = .ok (.aload_n 0, 1) := by decide +kernel
theorem dX7_door_20 : decode cX7_door 20 = .ok (.getfield 10, 3) := by decide +kernel
theorem dX7_door_23 : decode cX7_door 23 = .ok (.invokevirtual 154, 3) := by decide +kernel
theorem dX7_door_26 : decode cX7_door 26 = .ok (.aload_n 0, 1) := by decide +kernel
theorem dX7_door_27 : decode cX7_door 27 = .ok (.getfield 10, 3) := by decide +kernel
theorem dX7_door_30 : decode cX7_door 30 = .ok (.iload_n 1, 1) := by decide +kernel
theorem dX7_door_31 : decode cX7_door 31 = .ok (.invokevirtual 163, 3) := by decide +kernel
theorem dX7_door_34 : decode cX7_door 34 = .ok (.aload_n 0, 1) := by decide +kernel
theorem dX7_door_35 : decode cX7_door 35 = .ok (.getfield 10, 3) := by decide +kernel
theorem dX7_door_38 : decode cX7_door 38 = .ok (.iload_n 1, 1) := by decide +kernel
theorem dX7_door_39 : decode cX7_door 39 = .ok (.iconst 1, 1) := by decide +kernel
theorem dX7_door_40 : decode cX7_door 40 = .ok (.invokevirtual 166, 3) := by decide +kernel
theorem dX7_door_43 : decode cX7_door 43 = .ok (.ireturn, 1) := by decide +kernel
theorem dX7_throwing_0 : decode cX7_throwing 0 = .ok (.aload_n 0, 1) := by decide +kernel
theorem dX7_throwing_1 : decode cX7_throwing 1 = .ok (.getfield 10, 3) := by decide +kernel
theorem dX7_throwing_4 : decode cX7_throwing 4 = .ok (.getfield 126, 3) := by decide +kernel
theorem dX7_throwing_7 : decode cX7_throwing 7 = .ok (.iload_n 1, 1) := by decide +kernel
theorem dX7_throwing_8 : decode cX7_throwing 8 = .ok (.invokevirtual 101, 3) := by decide +kernel
theorem dX7_throwing_11 : decode cX7_throwing 11 = .ok (.ifCond .eq 39, 3) := by decide +kernel
theorem dX7_throwing_14 : decode cX7_throwing 14 = .ok (.aload_n 0, 1) := by decide +kernel
theorem dX7_throwing_15 : decode cX7_throwing 15 = .ok (.getfield 10, 3) := by decide +kernel
theorem dX7_throwing_18 : decode cX7_throwing 18 = .ok (.getfield 70, 3) := by decide +kernel
theorem dX7_throwing_21 : decode cX7_throwing 21 = .ok (.iload_n 2, 1) := by decide +kernel
theorem dX7_throwing_22 : decode cX7_throwing 22 = .ok (.invokevirtual 101, 3) := by decide +kernel
theorem dX7_throwing_25 : decode cX7_throwing 25 = .ok (.ifCond .eq 25, 3) := by decide +kernel
theorem dX7_throwing_28 : decode cX7_throwing 28 = .ok (.iload_n 3, 1) := by decide +kernel
theorem dX7_throwing_29 : decode cX7_throwing 29 = .ok (.invokestatic 105, 3) := by decide +kernel
theorem dX7_throwing_32 : decode cX7_throwing 32 = .ok (.ifCond .eq 18, 3) := by decide +kernel
theorem dX7_throwing_35 : decode cX7_throwing 35 = .ok (.aload_n 0, 1) := by decide +kernel
theorem dX7_throwing_36 : decode cX7_throwing 36 = .ok (.getfield 10, 3) := by decide +kernel
theorem dX7_throwing_39 : decode cX7_throwing 39 = .ok (.getfield 132, 3) := by decide +kernel
theorem dX7_throwing_42 : decode cX7_throwing 42 = .ok (.iload 4, 2) := by decide +kernel
theorem dX7_throwing_44 : decode cX7_throwing 44 = .ok (.invokevirtual 101, 3) := by decide +kernel
theorem dX7_throwing_47 : decode cX7_throwing 47 = .ok (.ifCond .ne 8, 3) := by decide +kernel
theorem dX7_throwing_50 : decode cX7_throwing 50 = .ok (.aload_n 0, 1) := by decide +kernel
theorem dX7_throwing_51 : decode cX7_throwing 51 = .ok (.invokevirtual 66, 3) := by decide +kernel
theorem dX7_throwing_54 : decode cX7_throwing 54 = .ok (.ireturn, 1) := by decide +kernel
theorem dX7_throwing_55 : decode cX7_throwing 55 = .ok (.aload_n 0, 1) := by decide +kernel
theorem dX7_throwing_56 : decode cX7_throwing 56 = .ok (.getfield 10, 3) := by decide +kernel
theorem dX7_throwing_59 : decode cX7_throwing 59 = .ok (.iload_n 2, 1) := by decide +kernel
theorem dX7_throwing_60 : decode cX7_throwing 60 = .ok (.iload_n 3, 1) := by decide +kernel
theorem dX7_throwing_61 : decode cX7_throwing 61 = .ok (.invokevirtual 108, 3) := by decide +kernel
theorem dX7_throwing_64 : decode cX7_throwing 64 = .ok (.ifCond .eq 15, 3) := by decide +kernel
theorem dX7_throwing_67 : decode cX7_throwing 67 = .ok (.aload_n 0, 1) := by decide +kernel
theorem dX7_throwing_68 : decode cX7_throwing 68 = .ok (.getfield 10, 3) := by decide +kernel
theorem dX7_throwing_71 : decode cX7_throwing 71 = .ok (.iload 4, 2) := by decide +kernel
theorem dX7_throwing_73 : decode cX7_throwing 73 = .ok (.invokevirtual 169, 3) := by decide +kernel
theorem dX7_throwing_76 : decode cX7_throwing 76 = .ok (.ifCond .eq 8, 3) := by decide +kernel
theorem dX7_throwing_79 : decode cX7_throwing 79 = .ok (.aload_n 0, 1) := by decide +kernel
theorem dX7_throwing_80 : decode cX7_throwing 80 = .ok (.invokevirtual 172, 3) := by decide +kernel
theorem dX7_throwing_83 : decode cX7_throwing 83 = .ok (.ireturn, 1) := by decide +kernel
theorem dX7_throwing_84 : decode cX7_throwing 84 = .ok (.aload_n 0, 1) := by decide +kernel
theorem dX7_throwing_85 : decode cX7_throwing 85 = .ok (.getfield 10, 3) := by decide +kernel
theorem dX7_throwing_88 : decode cX7_throwing 88 = .ok (.invokevirtual 154, 3) := by decide +kernel
theorem dX7_throwing_91 : decode cX7_throwing 91 = .ok (.aload_n 0, 1) := by decide +kernel
theorem dX7_throwing_92 : decode cX7_throwing 92 = .ok (.getfield 10, 3) := by decide +kernel
theorem dX7_throwing_95 : decode cX7_throwing 95 = .ok (.iload_n 1, 1) := by decide +kernel
theorem dX7_throwing_96 : decode cX7_throwing 96 = .ok (.iload_n 2, 1) := by decide +kernel
theorem dX7_throwing_97 : decode cX7_throwing 97 = .ok (.iload_n 3, 1) := by decide +kernel
theorem dX7_throwing_98 : decode cX7_throwing 98 = .ok (.iload 4, 2) := by decide +kernel
theorem dX7_throwing_100 : decode cX7_throwing 100 = .ok (.invokevirtual 175, 3) := by decide +kernel
theorem dX7_throwing_103 : decode cX7_throwing 103 = .ok (.ireturn, 1) := by decide +kernel
theorem dX7_hour_0 : decode cX7_hour 0 = .ok (.aload_n 0, 1) := by decide +kernel
theorem dX7_hour_1 : decode cX7_hour 1 = .ok (.getfield 10, 3) := by decide +kernel
theorem dX7_hour_4 : decode cX7_hour 4 = .ok (.invokevirtual 154, 3) := by decide +kernel
theorem dX7_hour_7 : decode cX7_hour 7 = .ok (.aload_n 0, 1) := by decide +kernel
theorem dX7_hour_8 : decode cX7_hour 8 = .ok (.getfield 10, 3) := by decide +kernel
theorem dX7_hour_11 : decode cX7_hour 11 = .ok (.invokevirtual 179, 3) := by decide +kernel
theorem dX7_hour_14 : decode cX7_hour 14 = .ok (.ireturn, 1) := by decide +kernel
theorem dX7_wind_0 : decode cX7_wind 0 = .ok (.iload_n 1, 1) := by decide +kernel
theorem dX7_wind_1 : decode cX7_wind 1 = .ok (.iconst 0, 1) := by decide +kernel
theorem dX7_wind_2 : decode cX7_wind 2 = .ok (.bipush 9, 2) := by decide +kernel
theorem dX7_wind_4 : decode cX7_wind 4 = .ok (.invokestatic 62, 3) := by decide +kernel
theorem dX7_wind_7 : decode cX7_wind 7 = .ok (.ifCond .ne 8, 3) := by decide +kernel
theorem dX7_wind_10 : decode cX7_wind 10 = .ok (.aload_n 0, 1) := by decide +kernel
theorem dX7_wind_11 : decode cX7_wind 11 = .ok (.invokevirtual 66, 3) := by decide +kernel
theorem dX7_wind_14 : decode cX7_wind 14 = .ok (.ireturn, 1) := by decide +kernel
theorem dX7_wind_15 : decode cX7_wind 15 = .ok (.aload_n 0, 1) := by decide +kernel
theorem dX7_wind_16 : decode cX7_wind 16 = .ok (.getfield 10, 3) := by decide +kernel
theorem dX7_wind_19 : decode cX7_wind 19 = .ok (.getfield 182, 3) := by decide +kernel
theorem dX7_wind_22 : decode cX7_wind 22 = .ok (.istore_n 2, 1) := by decide +kernel
theorem dX7_wind_23 : decode cX7_wind 23 = .ok (.aload_n 0, 1) := by decide +kernel
theorem dX7_wind_24 : decode cX7_wind 24 = .ok (.getfield 10, 3) := by decide +kernel
theorem dX7_wind_27 : decode cX7_wind 27 = .ok (.invokevirtual 154, 3) := by decide +kernel
theorem dX7_wind_30 : decode cX7_wind 30 = .ok (.aload_n 0, 1) := by decide +kernel
theorem dX7_wind_31 : decode cX7_wind 31 = .ok (.getfield 10, 3) := by decide +kernel
theorem dX7_wind_34 : decode cX7_wind 34 = .ok (.iload_n 1, 1) := by decide +kernel
theorem dX7_wind_35 : decode cX7_wind 35 = .ok (.putfield 182, 3) := by decide +kernel
theorem dX7_wind_38 : decode cX7_wind 38 = .ok (.iload_n 2, 1) := by decide +kernel
theorem dX7_wind_39 : decode cX7_wind 39 = .ok (.ireturn, 1) := by decide +kernel
theorem dX7_undo_0 : decode cX7_undo 0 = .ok (.aload_n 0, 1) := by decide +kernel
theorem dX7_undo_1 : decode cX7_undo 1 = .ok (.getfield 10, 3) := by decide +kernel
theorem dX7_undo_4 : decode cX7_undo 4 = .ok (.getfield 91, 3) := by decide +kernel
theorem dX7_undo_7 : decode cX7_undo 7 = .ok (.getfield 74, 3) := by decide +kernel
theorem dX7_undo_10 : decode cX7_undo 10 = .ok (.ifCond .ne 8, 3) := by decide +kernel
theorem dX7_undo_13 : decode cX7_undo 13 = .ok (.aload_n 0, 1) := by decide +kernel
theorem dX7_undo_14 : decode cX7_undo 14 = .ok (.invokevirtual 172, 3) := by decide +kernel
theorem dX7_undo_17 : decode cX7_undo 17 = .ok (.ireturn, 1) := by decide +kernel
theorem dX7_undo_18 : decode cX7_undo 18 = .ok (.aload_n 0, 1) := by decide +kernel
theorem dX7_undo_19 : decode cX7_undo 19 = .ok (.getfield 10, 3) := by decide +kernel
theorem dX7_undo_22 : decode cX7_undo 22 = .ok (.invokevirtual 185, 3) := by decide +kernel
theorem dX7_undo_25 : decode cX7_undo 25 = .ok (.aload_n 0, 1) := by decide +kernel
theorem dX7_undo_26 : decode cX7_undo 26 = .ok (.getfield 10, 3) := by decide +kernel
theorem dX7_undo_29 : decode cX7_undo 29 = .ok (.getfield 188, 3) := by decide +kernel
theorem dX7_undo_32 : decode cX7_undo 32 = .ok (.ireturn, 1) := by decide +kernel
theorem dX7_of_0 : decode cX7_of 0 = .ok (.aload_n 0, 1) := by decide +kernel
theorem dX7_of_1 : decode cX7_of 1 = .ok (.getfield 10, 3) := by decide +kernel
theorem dX7_of_4 : decode cX7_of 4 = .ok (.getfield 70, 3) := by decide +kernel
theorem dX7_of_7 : decode cX7_of 7 = .ok (.iload_n 1, 1) := by decide +kernel
theorem dX7_of_8 : decode cX7_of 8 = .ok (.invokevirtual 101, 3) := by decide +kernel
theorem dX7_of_11 : decode cX7_of 11 = .ok (.ifCond .ne 8, 3) := by decide +kernel
theorem dX7_of_14 : decode cX7_of 14 = .ok (.aload_n 0, 1) := by decide +kernel
theorem dX7_of_15 : decode cX7_of 15 = .ok (.invokevirtual 66, 3) := by decide +kernel
theorem dX7_of_18 : decode cX7_of 18 = .ok (.ireturn, 1) := by decide +kernel
theorem dX7_of_19 : decode cX7_of 19 = .ok (.iload_n 2, 1) := by decide +kernel
theorem dX7_of_20 : decode cX7_of 20 = .ok (.tableswitch 77 0 3 #[32, 45, 58, 67], 32) := by decide +kernel
theorem dX7_of_52 : decode cX7_of 52 = .ok (.aload_n 0, 1) := by decide +kernel
theorem dX7_of_53 : decode cX7_of 53 = .ok (.getfield 10, 3) := by decide +kernel
theorem dX7_of_56 : decode cX7_of 56 = .ok (.getfield 70, 3) := by decide +kernel
theorem dX7_of_59 : decode cX7_of 59 = .ok (.iload_n 1, 1) := by decide +kernel
theorem dX7_of_60 : decode cX7_of 60 = .ok (.iconst 0, 1) := by decide +kernel
theorem dX7_of_61 : decode cX7_of 61 = .ok (.invokevirtual 120, 3) := by decide +kernel
theorem dX7_of_64 : decode cX7_of 64 = .ok (.ireturn, 1) := by decide +kernel
theorem dX7_of_65 : decode cX7_of 65 = .ok (.aload_n 0, 1) := by decide +kernel
theorem dX7_of_66 : decode cX7_of 66 = .ok (.getfield 10, 3) := by decide +kernel
theorem dX7_of_69 : decode cX7_of 69 = .ok (.getfield 70, 3) := by decide +kernel
theorem dX7_of_72 : decode cX7_of 72 = .ok (.iload_n 1, 1) := by decide +kernel
theorem dX7_of_73 : decode cX7_of 73 = .ok (.iconst 1, 1) := by decide +kernel
theorem dX7_of_74 : decode cX7_of 74 = .ok (.invokevirtual 120, 3) := by decide +kernel
theorem dX7_of_77 : decode cX7_of 77 = .ok (.ireturn, 1) := by decide +kernel
theorem dX7_of_78 : decode cX7_of 78 = .ok (.aload_n 0, 1) := by decide +kernel
theorem dX7_of_79 : decode cX7_of 79 = .ok (.getfield 10, 3) := by decide +kernel
theorem dX7_of_82 : decode cX7_of 82 = .ok (.iload_n 1, 1) := by decide +kernel
theorem dX7_of_83 : decode cX7_of 83 = .ok (.invokevirtual 191, 3) := by decide +kernel
theorem dX7_of_86 : decode cX7_of 86 = .ok (.ireturn, 1) := by decide +kernel
theorem dX7_of_87 : decode cX7_of 87 = .ok (.aload_n 0, 1) := by decide +kernel
theorem dX7_of_88 : decode cX7_of 88 = .ok (.getfield 10, 3) := by decide +kernel
theorem dX7_of_91 : decode cX7_of 91 = .ok (.iload_n 1, 1) := by decide +kernel
theorem dX7_of_92 : decode cX7_of 92 = .ok (.iconst 1, 1) := by decide +kernel
theorem dX7_of_93 : decode cX7_of 93 = .ok (.invokevirtual 166, 3) := by decide +kernel
theorem dX7_of_96 : decode cX7_of 96 = .ok (.ireturn, 1) := by decide +kernel
theorem dX7_of_97 : decode cX7_of 97 = .ok (.aload_n 0, 1) := by decide +kernel
theorem dX7_of_98 : decode cX7_of 98 = .ok (.invokevirtual 66, 3) := by decide +kernel
theorem dX7_of_101 : decode cX7_of 101 = .ok (.ireturn, 1) := by decide +kernel
theorem dX7_has_0 : decode cX7_has 0 = .ok (.aload_n 0, 1) := by decide +kernel
theorem dX7_has_1 : decode cX7_has 1 = .ok (.getfield 10, 3) := by decide +kernel
theorem dX7_has_4 : decode cX7_has 4 = .ok (.getfield 70, 3) := by decide +kernel
theorem dX7_has_7 : decode cX7_has 7 = .ok (.iload_n 1, 1) := by decide +kernel
theorem dX7_has_8 : decode cX7_has 8 = .ok (.invokevirtual 101, 3) := by decide +kernel
theorem dX7_has_11 : decode cX7_has 11 = .ok (.ifCond .eq 22, 3) := by decide +kernel
theorem dX7_has_14 : decode cX7_has 14 = .ok (.iload_n 2, 1) := by decide +kernel
theorem dX7_has_15 : decode cX7_has 15 = .ok (.invokestatic 105, 3) := by decide +kernel
theorem dX7_has_18 : decode cX7_has 18 = .ok (.ifCond .eq 15, 3) := by decide +kernel
theorem dX7_has_21 : decode cX7_has 21 = .ok (.aload_n 0, 1) := by decide +kernel
theorem dX7_has_22 : decode cX7_has 22 = .ok (.getfield 10, 3) := by decide +kernel
theorem dX7_has_25 : decode cX7_has 25 = .ok (.iload_n 1, 1) := by decide +kernel
theorem dX7_has_26 : decode cX7_has 26 = .ok (.iload_n 2, 1) := by decide +kernel
theorem dX7_has_27 : decode cX7_has 27 = .ok (.invokevirtual 108, 3) := by decide +kernel
theorem dX7_has_30 : decode cX7_has 30 = .ok (.goto 7, 3) := by decide +kernel
theorem dX7_has_33 : decode cX7_has 33 = .ok (.aload_n 0, 1) := by decide +kernel
theorem dX7_has_34 : decode cX7_has 34 = .ok (.invokevirtual 66, 3) := by decide +kernel
theorem dX7_has_37 : decode cX7_has 37 = .ok (.ireturn, 1) := by decide +kernel
theorem dX7_about_0 : decode cX7_about 0 = .ok (.aload_n 0, 1) := by decide +kernel
theorem dX7_about_1 : decode cX7_about 1 = .ok (.getfield 10, 3) := by decide +kernel
theorem dX7_about_4 : decode cX7_about 4 = .ok (.getfield 126, 3) := by decide +kernel
theorem dX7_about_7 : decode cX7_about 7 = .ok (.iload_n 1, 1) := by decide +kernel
theorem dX7_about_8 : decode cX7_about 8 = .ok (.invokevirtual 101, 3) := by decide +kernel
theorem dX7_about_11 : decode cX7_about 11 = .ok (.ifCond .eq 27, 3) := by decide +kernel
theorem dX7_about_14 : decode cX7_about 14 = .ok (.iload_n 2, 1) := by decide +kernel
theorem dX7_about_15 : decode cX7_about 15 = .ok (.iconst 0, 1) := by decide +kernel
theorem dX7_about_16 : decode cX7_about 16 = .ok (.iconst 1, 1) := by decide +kernel
theorem dX7_about_17 : decode cX7_about 17 = .ok (.invokestatic 62, 3) := by decide +kernel
theorem dX7_about_20 : decode cX7_about 20 = .ok (.ifCond .eq 18, 3) := by decide +kernel
theorem dX7_about_23 : decode cX7_about 23 = .ok (.aload_n 0, 1) := by decide +kernel
theorem dX7_about_24 : decode cX7_about 24 = .ok (.getfield 10, 3) := by decide +kernel
theorem dX7_about_27 : decode cX7_about 27 = .ok (.getfield 126, 3) := by decide +kernel
theorem dX7_about_30 : decode cX7_about 30 = .ok (.iload_n 1, 1) := by decide +kernel
theorem dX7_about_31 : decode cX7_about 31 = .ok (.iload_n 2, 1) := by decide +kernel
theorem dX7_about_32 : decode cX7_about 32 = .ok (.invokevirtual 120, 3) := by decide +kernel
theorem dX7_about_35 : decode cX7_about 35 = .ok (.goto 7, 3) := by decide +kernel
theorem dX7_about_38 : decode cX7_about 38 = .ok (.aload_n 0, 1) := by decide +kernel
theorem dX7_about_39 : decode cX7_about 39 = .ok (.invokevirtual 66, 3) := by decide +kernel
theorem dX7_about_42 : decode cX7_about 42 = .ok (.ireturn, 1) := by decide +kernel
theorem dX7_sky_0 : decode cX7_sky 0 = .ok (.aload_n 0, 1) := by decide +kernel
theorem dX7_sky_1 : decode cX7_sky 1 = .ok (.getfield 10, 3) := by decide +kernel
theorem dX7_sky_4 : decode cX7_sky 4 = .ok (.getfield 132, 3) := by decide +kernel
theorem dX7_sky_7 : decode cX7_sky 7 = .ok (.iload_n 1, 1) := by decide +kernel
theorem dX7_sky_8 : decode cX7_sky 8 = .ok (.invokevirtual 101, 3) := by decide +kernel
theorem dX7_sky_11 : decode cX7_sky 11 = .ok (.ifCond .eq 12, 3) := by decide +kernel
theorem dX7_sky_14 : decode cX7_sky 14 = .ok (.iload_n 2, 1) := by decide +kernel
theorem dX7_sky_15 : decode cX7_sky 15 = .ok (.iconst 0, 1) := by decide +kernel
theorem dX7_sky_16 : decode cX7_sky 16 = .ok (.iconst 3, 1) := by decide +kernel
theorem dX7_sky_17 : decode cX7_sky 17 = .ok (.invokestatic 62, 3) := by decide +kernel
theorem dX7_sky_20 : decode cX7_sky 20 = .ok (.ifCond .ne 8, 3) := by decide +kernel
theorem dX7_sky_23 : decode cX7_sky 23 = .ok (.aload_n 0, 1) := by decide +kernel
theorem dX7_sky_24 : decode cX7_sky 24 = .ok (.invokevirtual 66, 3) := by decide +kernel
theorem dX7_sky_27 : decode cX7_sky 27 = .ok (.ireturn, 1) := by decide +kernel
theorem dX7_sky_28 : decode cX7_sky 28 = .ok (.iload_n 2, 1) := by decide +kernel
theorem dX7_sky_29 : decode cX7_sky 29 = .ok (.iconst 3, 1) := by decide +kernel
theorem dX7_sky_30 : decode cX7_sky 30 = .ok (.if_icmp .ne 20, 3) := by decide +kernel
theorem dX7_sky_33 : decode cX7_sky 33 = .ok (.aload_n 0, 1) := by decide +kernel
theorem dX7_sky_34 : decode cX7_sky 34 = .ok (.getfield 10, 3) := by decide +kernel
theorem dX7_sky_37 : decode cX7_sky 37 = .ok (.iload_n 1, 1) := by decide +kernel
theorem dX7_sky_38 : decode cX7_sky 38 = .ok (.invokevirtual 194, 3) := by decide +kernel
theorem dX7_sky_41 : decode cX7_sky 41 = .ok (.ifCond .eq 7, 3) := by decide +kernel
theorem dX7_sky_44 : decode cX7_sky 44 = .ok (.iconst 1, 1) := by decide +kernel
theorem dX7_sky_45 : decode cX7_sky 45 = .ok (.goto 4, 3) := by decide +kernel
theorem dX7_sky_48 : decode cX7_sky 48 = .ok (.iconst 0, 1) := by decide +kernel
theorem dX7_sky_49 : decode cX7_sky 49 = .ok (.ireturn, 1) := by decide +kernel
theorem dX7_sky_50 : decode cX7_sky 50 = .ok (.aload_n 0, 1) := by decide +kernel
theorem dX7_sky_51 : decode cX7_sky 51 = .ok (.getfield 10, 3) := by decide +kernel
theorem dX7_sky_54 : decode cX7_sky 54 = .ok (.getfield 132, 3) := by decide +kernel
theorem dX7_sky_57 : decode cX7_sky 57 = .ok (.iload_n 1, 1) := by decide +kernel
theorem dX7_sky_58 : decode cX7_sky 58 = .ok (.iload_n 2, 1) := by decide +kernel
theorem dX7_sky_59 : decode cX7_sky 59 = .ok (.invokevirtual 120, 3) := by decide +kernel
theorem dX7_sky_62 : decode cX7_sky 62 = .ok (.ireturn, 1) := by decide +kernel
theorem dX7_melts_0 : decode cX7_melts 0 = .ok (.aload_n 0, 1) := by decide +kernel
theorem dX7_melts_1 : decode cX7_melts 1 = .ok (.getfield 10, 3) := by decide +kernel
theorem dX7_melts_4 : decode cX7_melts 4 = .ok (.getfield 70, 3) := by decide +kernel
theorem dX7_melts_7 : decode cX7_melts 7 = .ok (.iload_n 1, 1) := by decide +kernel
theorem dX7_melts_8 : decode cX7_melts 8 = .ok (.invokevirtual 101, 3) := by decide +kernel
theorem dX7_melts_11 : decode cX7_melts 11 = .ok (.ifCond .eq 26, 3) := by decide +kernel
theorem dX7_melts_14 : decode cX7_melts 14 = .ok (.iload_n 2, 1) := by decide +kernel
theorem dX7_melts_15 : decode cX7_melts 15 = .ok (.iconst 0, 1) := by decide +kernel
theorem dX7_melts_16 : decode cX7_melts 16 = .ok (.sipush 999, 3) := by decide +kernel
theorem dX7_melts_19 : decode cX7_melts 19 = .ok (.invokestatic 62, 3) := by decide +kernel
theorem dX7_melts_22 : decode cX7_melts 22 = .ok (.ifCond .eq 15, 3) := by decide +kernel
theorem dX7_melts_25 : decode cX7_melts 25 = .ok (.aload_n 0, 1) := by decide +kernel
theorem dX7_melts_26 : decode cX7_melts 26 = .ok (.getfield 10, 3) := by decide +kernel
theorem dX7_melts_29 : decode cX7_melts 29 = .ok (.iload_n 1, 1) := by decide +kernel
theorem dX7_melts_30 : decode cX7_melts 30 = .ok (.iload_n 2, 1) := by decide +kernel
theorem dX7_melts_31 : decode cX7_melts 31 = .ok (.invokevirtual 197, 3) := by decide +kernel
theorem dX7_melts_34 : decode cX7_melts 34 = .ok (.goto 7, 3) := by decide +kernel
theorem dX7_melts_37 : decode cX7_melts 37 = .ok (.aload_n 0, 1) := by decide +kernel
theorem dX7_melts_38 : decode cX7_melts 38 = .ok (.invokevirtual 66, 3) := by decide +kernel
theorem dX7_melts_41 : decode cX7_melts 41 = .ok (.ireturn, 1) := by decide +kernel
theorem dX7_then_0 : decode cX7_then 0 = .ok (.aload_n 0, 1) := by decide +kernel
theorem dX7_then_1 : decode cX7_then 1 = .ok (.getfield 10, 3) := by decide +kernel
theorem dX7_then_4 : decode cX7_then 4 = .ok (.getfield 70, 3) := by decide +kernel
theorem dX7_then_7 : decode cX7_then 7 = .ok (.iload_n 1, 1) := by decide +kernel
theorem dX7_then_8 : decode cX7_then 8 = .ok (.invokevirtual 101, 3) := by decide +kernel
theorem dX7_then_11 : decode cX7_then 11 = .ok (.ifCond .eq 33, 3) := by decide +kernel
theorem dX7_then_14 : decode cX7_then 14 = .ok (.iload_n 2, 1) := by decide +kernel
theorem dX7_then_15 : decode cX7_then 15 = .ok (.iconst 0, 1) := by decide +kernel
theorem dX7_then_16 : decode cX7_then 16 = .ok (.bipush 60, 2) := by decide +kernel
theorem dX7_then_18 : decode cX7_then 18 = .ok (.invokestatic 62, 3) := by decide +kernel
theorem dX7_then_21 : decode cX7_then 21 = .ok (.ifCond .eq 23, 3) := by decide +kernel
theorem dX7_then_24 : decode cX7_then 24 = .ok (.iload_n 3, 1) := by decide +kernel
theorem dX7_then_25 : decode cX7_then 25 = .ok (.iconst 0, 1) := by decide +kernel
theorem dX7_then_26 : decode cX7_then 26 = .ok (.bipush 9, 2) := by decide +kernel
theorem dX7_then_28 : decode cX7_then 28 = .ok (.invokestatic 62, 3) := by decide +kernel
theorem dX7_then_31 : decode cX7_then 31 = .ok (.ifCond .eq 13, 3) := by decide +kernel
theorem dX7_then_34 : decode cX7_then 34 = .ok (.iload 4, 2) := by decide +kernel
theorem dX7_then_36 : decode cX7_then 36 = .ok (.iconst 0, 1) := by decide +kernel
theorem dX7_then_37 : decode cX7_then 37 = .ok (.iconst 4, 1) := by decide +kernel
theorem dX7_then_38 : decode cX7_then 38 = .ok (.invokestatic 62, 3) := by decide +kernel
theorem dX7_then_41 : decode cX7_then 41 = .ok (.ifCond .ne 8, 3) := by decide +kernel
theorem dX7_then_44 : decode cX7_then 44 = .ok (.aload_n 0, 1) := by decide +kernel
theorem dX7_then_45 : decode cX7_then 45 = .ok (.invokevirtual 66, 3) := by decide +kernel
theorem dX7_then_48 : decode cX7_then 48 = .ok (.ireturn, 1) := by decide +kernel
theorem dX7_then_49 : decode cX7_then 49 = .ok (.aload_n 0, 1) := by decide +kernel
theorem dX7_then_50 : decode cX7_then 50 = .ok (.getfield 37, 3) := by decide +kernel
theorem dX7_then_53 : decode cX7_then 53 = .ok (.iload_n 1, 1) := by decide +kernel
theorem dX7_then_54 : decode cX7_then 54 = .ok (.iload_n 2, 1) := by decide +kernel
theorem dX7_then_55 : decode cX7_then 55 = .ok (.iload_n 3, 1) := by decide +kernel
theorem dX7_then_56 : decode cX7_then 56 = .ok (.iload 4, 2) := by decide +kernel
theorem dX7_then_58 : decode cX7_then 58 = .ok (.invokevirtual 200, 3) := by decide +kernel
theorem dX7_then_61 : decode cX7_then 61 = .ok (.ireturn, 1) := by decide +kernel
theorem dX7_lasts_0 : decode cX7_lasts 0 = .ok (.aload_n 0, 1) := by decide +kernel
theorem dX7_lasts_1 : decode cX7_lasts 1 = .ok (.getfield 10, 3) := by decide +kernel
theorem dX7_lasts_4 : decode cX7_lasts 4 = .ok (.getfield 70, 3) := by decide +kernel
theorem dX7_lasts_7 : decode cX7_lasts 7 = .ok (.iload_n 1, 1) := by decide +kernel
theorem dX7_lasts_8 : decode cX7_lasts 8 = .ok (.invokevirtual 101, 3) := by decide +kernel
theorem dX7_lasts_11 : decode cX7_lasts 11 = .ok (.ifCond .eq 22, 3) := by decide +kernel
theorem dX7_lasts_14 : decode cX7_lasts 14 = .ok (.iload_n 2, 1) := by decide +kernel
theorem dX7_lasts_15 : decode cX7_lasts 15 = .ok (.invokestatic 105, 3) := by decide +kernel
theorem dX7_lasts_18 : decode cX7_lasts 18 = .ok (.ifCond .eq 15, 3) := by decide +kernel
theorem dX7_lasts_21 : decode cX7_lasts 21 = .ok (.aload_n 0, 1) := by decide +kernel
theorem dX7_lasts_22 : decode cX7_lasts 22 = .ok (.getfield 37, 3) := by decide +kernel
theorem dX7_lasts_25 : decode cX7_lasts 25 = .ok (.iload_n 1, 1) := by decide +kernel
theorem dX7_lasts_26 : decode cX7_lasts 26 = .ok (.iload_n 2, 1) := by decide +kernel
theorem dX7_lasts_27 : decode cX7_lasts 27 = .ok (.invokevirtual 203, 3) := by decide +kernel
theorem dX7_lasts_30 : decode cX7_lasts 30 = .ok (.goto 7, 3) := by decide +kernel
theorem dX7_lasts_33 : decode cX7_lasts 33 = .ok (.aload_n 0, 1) := by decide +kernel
theorem dX7_lasts_34 : decode cX7_lasts 34 = .ok (.invokevirtual 66, 3) := by decide +kernel
theorem dX7_lasts_37 : decode cX7_lasts 37 = .ok (.ireturn, 1) := by decide +kernel
theorem dX7_least_0 : decode cX7_least 0 = .ok (.aload_n 0, 1) := by decide +kernel
theorem dX7_least_1 : decode cX7_least 1 = .ok (.getfield 10, 3) := by decide +kernel
theorem dX7_least_4 : decode cX7_least 4 = .ok (.getfield 70, 3) := by decide +kernel
theorem dX7_least_7 : decode cX7_least 7 = .ok (.iload_n 1, 1) := by decide +kernel
theorem dX7_least_8 : decode cX7_least 8 = .ok (.invokevirtual 101, 3) := by decide +kernel
theorem dX7_least_11 : decode cX7_least 11 = .ok (.ifCond .eq 20, 3) := by decide +kernel
theorem dX7_least_14 : decode cX7_least 14 = .ok (.iload_n 2, 1) := by decide +kernel
theorem dX7_least_15 : decode cX7_least 15 = .ok (.invokestatic 105, 3) := by decide +kernel
theorem dX7_least_18 : decode cX7_least 18 = .ok (.ifCond .eq 13, 3) := by decide +kernel
theorem dX7_least_21 : decode cX7_least 21 = .ok (.iload_n 3, 1) := by decide +kernel
theorem dX7_least_22 : decode cX7_least 22 = .ok (.iconst 0, 1) := by decide +kernel
theorem dX7_least_23 : decode cX7_least 23 = .ok (.bipush 60, 2) := by decide +kernel
theorem dX7_least_25 : decode cX7_least 25 = .ok (.invokestatic 62, 3) := by decide +kernel
theorem dX7_least_28 : decode cX7_least 28 = .ok (.ifCond .ne 8, 3) := by decide +kernel
theorem dX7_least_31 : decode cX7_least 31 = .ok (.aload_n 0, 1) := by decide +kernel
theorem dX7_least_32 : decode cX7_least 32 = .ok (.invokevirtual 66, 3) := by decide +kernel
theorem dX7_least_35 : decode cX7_least 35 = .ok (.ireturn, 1) := by decide +kernel
theorem dX7_least_36 : decode cX7_least 36 = .ok (.aload_n 0, 1) := by decide +kernel
theorem dX7_least_37 : decode cX7_least 37 = .ok (.getfield 37, 3) := by decide +kernel
theorem dX7_least_40 : decode cX7_least 40 = .ok (.iload_n 1, 1) := by decide +kernel
theorem dX7_least_41 : decode cX7_least 41 = .ok (.iload_n 2, 1) := by decide +kernel
theorem dX7_least_42 : decode cX7_least 42 = .ok (.iload_n 3, 1) := by decide +kernel
theorem dX7_least_43 : decode cX7_least 43 = .ok (.invokevirtual 206, 3) := by decide +kernel
theorem dX7_least_46 : decode cX7_least 46 = .ok (.ireturn, 1) := by decide +kernel
theorem dX7_throwsOf_0 : decode cX7_throwsOf 0 = .ok (.aload_n 0, 1) := by decide +kernel
theorem dX7_throwsOf_1 : decode cX7_throwsOf 1 = .ok (.getfield 10, 3) := by decide +kernel
theorem dX7_throwsOf_4 : decode cX7_throwsOf 4 = .ok (.getfield 126, 3) := by decide +kernel
theorem dX7_throwsOf_7 : decode cX7_throwsOf 7 = .ok (.iload_n 1, 1) := by decide +kernel
theorem dX7_throwsOf_8 : decode cX7_throwsOf 8 = .ok (.invokevirtual 101, 3) := by decide +kernel
theorem dX7_throwsOf_11 : decode cX7_throwsOf 11 = .ok (.ifCond .eq 19, 3) := by decide +kernel
theorem dX7_throwsOf_14 : decode cX7_throwsOf 14 = .ok (.iload_n 2, 1) := by decide +kernel
theorem dX7_throwsOf_15 : decode cX7_throwsOf 15 = .ok (.invokestatic 105, 3) := by decide +kernel
theorem dX7_throwsOf_18 : decode cX7_throwsOf 18 = .ok (.ifCond .eq 12, 3) := by decide +kernel
theorem dX7_throwsOf_21 : decode cX7_throwsOf 21 = .ok (.iload_n 3, 1) := by decide +kernel
theorem dX7_throwsOf_22 : decode cX7_throwsOf 22 = .ok (.iconst 0, 1) := by decide +kernel
theorem dX7_throwsOf_23 : decode cX7_throwsOf 23 = .ok (.iconst 1, 1) := by decide +kernel
theorem dX7_throwsOf_24 : decode cX7_throwsOf 24 = .ok (.invokestatic 62, 3) := by decide +kernel
theorem dX7_throwsOf_27 : decode cX7_throwsOf 27 = .ok (.ifCond .ne 8, 3) := by decide +kernel
theorem dX7_throwsOf_30 : decode cX7_throwsOf 30 = .ok (.aload_n 0, 1) := by decide +kernel
theorem dX7_throwsOf_31 : decode cX7_throwsOf 31 = .ok (.invokevirtual 66, 3) := by decide +kernel
theorem dX7_throwsOf_34 : decode cX7_throwsOf 34 = .ok (.ireturn, 1) := by decide +kernel
theorem dX7_throwsOf_35 : decode cX7_throwsOf 35 = .ok (.iload_n 3, 1) := by decide +kernel
theorem dX7_throwsOf_36 : decode cX7_throwsOf 36 = .ok (.ifCond .ne 22, 3) := by decide +kernel
theorem dX7_throwsOf_39 : decode cX7_throwsOf 39 = .ok (.aload_n 0, 1) := by decide +kernel
theorem dX7_throwsOf_40 : decode cX7_throwsOf 40 = .ok (.getfield 10, 3) := by decide +kernel
theorem dX7_throwsOf_43 : decode cX7_throwsOf 43 = .ok (.iload_n 1, 1) := by decide +kernel
theorem dX7_throwsOf_44 : decode cX7_throwsOf 44 = .ok (.iload_n 2, 1) := by decide +kernel
theorem dX7_throwsOf_45 : decode cX7_throwsOf 45 = .ok (.aload_n 0, 1) := by decide +kernel
theorem dX7_throwsOf_46 : decode cX7_throwsOf 46 = .ok (.getfield 10, 3) := by decide +kernel
theorem dX7_throwsOf_49 : decode cX7_throwsOf 49 = .ok (.getfield 182, 3) := by decide +kernel
theorem dX7_throwsOf_52 : decode cX7_throwsOf 52 = .ok (.invokevirtual 210, 3) := by decide +kernel
theorem dX7_throwsOf_55 : decode cX7_throwsOf 55 = .ok (.goto 12, 3) := by decide +kernel
theorem dX7_throwsOf_58 : decode cX7_throwsOf 58 = .ok (.aload_n 0, 1) := by decide +kernel
theorem dX7_throwsOf_59 : decode cX7_throwsOf 59 = .ok (.getfield 10, 3) := by decide +kernel
theorem dX7_throwsOf_62 : decode cX7_throwsOf 62 = .ok (.iload_n 1, 1) := by decide +kernel
theorem dX7_throwsOf_63 : decode cX7_throwsOf 63 = .ok (.iload_n 2, 1) := by decide +kernel
theorem dX7_throwsOf_64 : decode cX7_throwsOf 64 = .ok (.invokevirtual 213, 3) := by decide +kernel
theorem dX7_throwsOf_67 : decode cX7_throwsOf 67 = .ok (.ireturn, 1) := by decide +kernel
theorem dX7_reach_0 : decode cX7_reach 0 = .ok (.aload_n 0, 1) := by decide +kernel
theorem dX7_reach_1 : decode cX7_reach 1 = .ok (.getfield 10, 3) := by decide +kernel
theorem dX7_reach_4 : decode cX7_reach 4 = .ok (.getfield 126, 3) := by decide +kernel
theorem dX7_reach_7 : decode cX7_reach 7 = .ok (.iload_n 1, 1) := by decide +kernel
theorem dX7_reach_8 : decode cX7_reach 8 = .ok (.invokevirtual 101, 3) := by decide +kernel
theorem dX7_reach_11 : decode cX7_reach 11 = .ok (.ifCond .eq 29, 3) := by decide +kernel
theorem dX7_reach_14 : decode cX7_reach 14 = .ok (.aload_n 0, 1) := by decide +kernel
theorem dX7_reach_15 : decode cX7_reach 15 = .ok (.getfield 10, 3) := by decide +kernel
theorem dX7_reach_18 : decode cX7_reach 18 = .ok (.getfield 132, 3) := by decide +kernel
theorem dX7_reach_21 : decode cX7_reach 21 = .ok (.iload_n 2, 1) := by decide +kernel
theorem dX7_reach_22 : decode cX7_reach 22 = .ok (.invokevirtual 101, 3) := by decide +kernel
theorem dX7_reach_25 : decode cX7_reach 25 = .ok (.ifCond .eq 15, 3) := by decide +kernel
theorem dX7_reach_28 : decode cX7_reach 28 = .ok (.aload_n 0, 1) := by decide +kernel
theorem dX7_reach_29 : decode cX7_reach 29 = .ok (.getfield 44, 3) := by decide +kernel
theorem dX7_reach_32 : decode cX7_reach 32 = .ok (.iload_n 1, 1) := by decide +kernel
theorem dX7_reach_33 : decode cX7_reach 33 = .ok (.iload_n 2, 1) := by decide +kernel
theorem dX7_reach_34 : decode cX7_reach 34 = .ok (.invokevirtual 216, 3) := by decide +kernel
theorem dX7_reach_37 : decode cX7_reach 37 = .ok (.goto 7, 3) := by decide +kernel
theorem dX7_reach_40 : decode cX7_reach 40 = .ok (.aload_n 0, 1) := by decide +kernel
theorem dX7_reach_41 : decode cX7_reach 41 = .ok (.invokevirtual 66, 3) := by decide +kernel
theorem dX7_reach_44 : decode cX7_reach 44 = .ok (.ireturn, 1) := by decide +kernel
theorem dX7_turn_0 : decode cX7_turn 0 = .ok (.aload_n 0, 1) := by decide +kernel
theorem dX7_turn_1 : decode cX7_turn 1 = .ok (.getfield 10, 3) := by decide +kernel
theorem dX7_turn_4 : decode cX7_turn 4 = .ok (.getfield 132, 3) := by decide +kernel
theorem dX7_turn_7 : decode cX7_turn 7 = .ok (.iload_n 1, 1) := by decide +kernel
theorem dX7_turn_8 : decode cX7_turn 8 = .ok (.invokevirtual 101, 3) := by decide +kernel
theorem dX7_turn_11 : decode cX7_turn 11 = .ok (.ifCond .eq 41, 3) := by decide +kernel
theorem dX7_turn_14 : decode cX7_turn 14 = .ok (.aload_n 0, 1) := by decide +kernel
theorem dX7_turn_15 : decode cX7_turn 15 = .ok (.getfield 10, 3) := by decide +kernel
theorem dX7_turn_18 : decode cX7_turn 18 = .ok (.getfield 126, 3) := by decide +kernel
theorem dX7_turn_21 : decode cX7_turn 21 = .ok (.iload_n 2, 1) := by decide +kernel
theorem dX7_turn_22 : decode cX7_turn 22 = .ok (.invokevirtual 101, 3) := by decide +kernel
theorem dX7_turn_25 : decode cX7_turn 25 = .ok (.ifCond .eq 27, 3) := by decide +kernel
theorem dX7_turn_28 : decode cX7_turn 28 = .ok (.aload_n 0, 1) := by decide +kernel
theorem dX7_turn_29 : decode cX7_turn 29 = .ok (.getfield 10, 3) := by decide +kernel
theorem dX7_turn_32 : decode cX7_turn 32 = .ok (.getfield 70, 3) := by decide +kernel
theorem dX7_turn_35 : decode cX7_turn 35 = .ok (.iload_n 3, 1) := by decide +kernel
theorem dX7_turn_36 : decode cX7_turn 36 = .ok (.invokevirtual 101, 3) := by decide +kernel
theorem dX7_turn_39 : decode cX7_turn 39 = .ok (.ifCond .eq 13, 3) := by decide +kernel
theorem dX7_turn_42 : decode cX7_turn 42 = .ok (.iload 4, 2) := by decide +kernel
theorem dX7_turn_44 : decode cX7_turn 44 = .ok (.iconst 0, 1) := by decide +kernel
theorem dX7_turn_45 : decode cX7_turn 45 = .ok (.iconst 1, 1) := by decide +kernel
theorem dX7_turn_46 : decode cX7_turn 46 = .ok (.invokestatic 62, 3) := by decide +kernel
theorem dX7_turn_49 : decode cX7_turn 49 = .ok (.ifCond .ne 8, 3) := by decide +kernel
theorem dX7_turn_52 : decode cX7_turn 52 = .ok (.aload_n 0, 1) := by decide +kernel
theorem dX7_turn_53 : decode cX7_turn 53 = .ok (.invokevirtual 66, 3) := by decide +kernel
theorem dX7_turn_56 : decode cX7_turn 56 = .ok (.ireturn, 1) := by decide +kernel
theorem dX7_turn_57 : decode cX7_turn 57 = .ok (.aload_n 0, 1) := by decide +kernel
theorem dX7_turn_58 : decode cX7_turn 58 = .ok (.getfield 44, 3) := by decide +kernel
theorem dX7_turn_61 : decode cX7_turn 61 = .ok (.iload_n 1, 1) := by decide +kernel
theorem dX7_turn_62 : decode cX7_turn 62 = .ok (.iload_n 2, 1) := by decide +kernel
theorem dX7_turn_63 : decode cX7_turn 63 = .ok (.iload_n 3, 1) := by decide +kernel
theorem dX7_turn_64 : decode cX7_turn 64 = .ok (.invokevirtual 219, 3) := by decide +kernel
theorem dX7_turn_67 : decode cX7_turn 67 = .ok (.istore 5, 2) := by decide +kernel
theorem dX7_turn_69 : decode cX7_turn 69 = .ok (.iload 5, 2) := by decide +kernel
theorem dX7_turn_71 : decode cX7_turn 71 = .ok (.iconst (-1), 1) := by decide +kernel
theorem dX7_turn_72 : decode cX7_turn 72 = .ok (.if_icmp .ne 5, 3) := by decide +kernel
theorem dX7_turn_75 : decode cX7_turn 75 = .ok (.iconst (-1), 1) := by decide +kernel
theorem dX7_turn_76 : decode cX7_turn 76 = .ok (.ireturn, 1) := by decide +kernel
theorem dX7_turn_77 : decode cX7_turn 77 = .ok (.iload 4, 2) := by decide +kernel
theorem dX7_turn_79 : decode cX7_turn 79 = .ok (.ifCond .ne 12, 3) := by decide +kernel
theorem dX7_turn_82 : decode cX7_turn 82 = .ok (.iload 5, 2) := by decide +kernel
theorem dX7_turn_84 : decode cX7_turn 84 = .ok (.sipush 1000, 3) := by decide +kernel
theorem dX7_turn_87 : decode cX7_turn 87 = .ok (.idiv, 1) := by decide +kernel
theorem dX7_turn_88 : decode cX7_turn 88 = .ok (.goto 9, 3) := by decide +kernel
theorem dX7_turn_91 : decode cX7_turn 91 = .ok (.iload 5, 2) := by decide +kernel
theorem dX7_turn_93 : decode cX7_turn 93 = .ok (.sipush 1000, 3) := by decide +kernel
theorem dX7_turn_96 : decode cX7_turn 96 = .ok (.irem, 1) := by decide +kernel
theorem dX7_turn_97 : decode cX7_turn 97 = .ok (.ireturn, 1) := by decide +kernel
theorem dX7_meet_0 : decode cX7_meet 0 = .ok (.iload_n 1, 1) := by decide +kernel
theorem dX7_meet_1 : decode cX7_meet 1 = .ok (.invokestatic 105, 3) := by decide +kernel
theorem dX7_meet_4 : decode cX7_meet 4 = .ok (.ifCond .ne 10, 3) := by decide +kernel
theorem dX7_meet_7 : decode cX7_meet 7 = .ok (.aload_n 0, 1) := by decide +kernel
theorem dX7_meet_8 : decode cX7_meet 8 = .ok (.bipush (-10), 2) := by decide +kernel
theorem dX7_meet_10 : decode cX7_meet 10 = .ok (.invokevirtual 222, 3) := by decide +kernel
theorem dX7_meet_13 : decode cX7_meet 13 = .ok (.ireturn, 1) := by decide +kernel
theorem dX7_meet_14 : decode cX7_meet 14 = .ok (.aload_n 0, 1) := by decide +kernel
theorem dX7_meet_15 : decode cX7_meet 15 = .ok (.getfield 10, 3) := by decide +kernel
theorem dX7_meet_18 : decode cX7_meet 18 = .ok (.getfield 132, 3) := by decide +kernel
theorem dX7_meet_21 : decode cX7_meet 21 = .ok (.getfield 74, 3) := by decide +kernel
theorem dX7_meet_24 : decode cX7_meet 24 = .ok (.ifCond .ne 5, 3) := by decide +kernel
theorem dX7_meet_27 : decode cX7_meet 27 = .ok (.iconst (-1), 1) := by decide +kernel
theorem dX7_meet_28 : decode cX7_meet 28 = .ok (.ireturn, 1) := by decide +kernel
theorem dX7_meet_29 : decode cX7_meet 29 = .ok (.iload_n 2, 1) := by decide +kernel
theorem dX7_meet_30 : decode cX7_meet 30 = .ok (.iconst (-1), 1) := by decide +kernel
theorem dX7_meet_31 : decode cX7_meet 31 = .ok (.if_icmp .eq 24, 3) := by decide +kernel
theorem dX7_meet_34 : decode cX7_meet 34 = .ok (.aload_n 0, 1) := by decide +kernel
theorem dX7_meet_35 : decode cX7_meet 35 = .ok (.getfield 10, 3) := by decide +kernel
theorem dX7_meet_38 : decode cX7_meet 38 = .ok (.getfield 126, 3) := by decide +kernel
theorem dX7_meet_41 : decode cX7_meet 41 = .ok (.iload_n 2, 1) := by decide +kernel
theorem dX7_meet_42 : decode cX7_meet 42 = .ok (.invokevirtual 101, 3) := by decide +kernel
theorem dX7_meet_45 : decode cX7_meet 45 = .ok (.ifCond .ne 10, 3) := by decide +kernel
theorem dX7_meet_48 : decode cX7_meet 48 = .ok (.aload_n 0, 1) := by decide +kernel
theorem dX7_meet_49 : decode cX7_meet 49 = .ok (.bipush (-10), 2) := by decide +kernel
theorem dX7_meet_51 : decode cX7_meet 51 = .ok (.invokevirtual 222, 3) := by decide +kernel
theorem dX7_meet_54 : decode cX7_meet 54 = .ok (.ireturn, 1) := by decide +kernel
theorem dX7_meet_55 : decode cX7_meet 55 = .ok (.aload_n 0, 1) := by decide +kernel
theorem dX7_meet_56 : decode cX7_meet 56 = .ok (.getfield 44, 3) := by decide +kernel
theorem dX7_meet_59 : decode cX7_meet 59 = .ok (.iload_n 1, 1) := by decide +kernel
theorem dX7_meet_60 : decode cX7_meet 60 = .ok (.invokevirtual 225, 3) := by decide +kernel
theorem dX7_meet_63 : decode cX7_meet 63 = .ok (.istore_n 3, 1) := by decide +kernel
theorem dX7_meet_64 : decode cX7_meet 64 = .ok (.iload_n 2, 1) := by decide +kernel
theorem dX7_meet_65 : decode cX7_meet 65 = .ok (.iconst (-1), 1) := by decide +kernel
theorem dX7_meet_66 : decode cX7_meet 66 = .ok (.if_icmp .ne 7, 3) := by decide +kernel
theorem dX7_meet_69 : decode cX7_meet 69 = .ok (.iload_n 3, 1) := by decide +kernel
theorem dX7_meet_70 : decode cX7_meet 70 = .ok (.goto 11, 3) := by decide +kernel
theorem dX7_meet_73 : decode cX7_meet 73 = .ok (.aload_n 0, 1) := by decide +kernel
theorem dX7_meet_74 : decode cX7_meet 74 = .ok (.getfield 44, 3) := by decide +kernel
theorem dX7_meet_77 : decode cX7_meet 77 = .ok (.iload_n 2, 1) := by decide +kernel
theorem dX7_meet_78 : decode cX7_meet 78 = .ok (.invokevirtual 228, 3) := by decide +kernel
theorem dX7_meet_81 : decode cX7_meet 81 = .ok (.ireturn, 1) := by decide +kernel
theorem dX7_doors_0 : decode cX7_doors 0 = .ok (.iload_n 1, 1) := by decide +kernel
theorem dX7_doors_1 : decode cX7_doors 1 = .ok (.invokestatic 105, 3) := by decide +kernel
theorem dX7_doors_4 : decode cX7_doors 4 = .ok (.ifCond .eq 12, 3) := by decide +kernel
theorem dX7_doors_7 : decode cX7_doors 7 = .ok (.iload_n 2, 1) := by decide +kernel
theorem dX7_doors_8 : decode cX7_doors 8 = .ok (.iconst 0, 1) := by decide +kernel
theorem dX7_doors_9 : decode cX7_doors 9 = .ok (.iconst 1, 1) := by decide +kernel
theorem dX7_doors_10 : decode cX7_doors 10 = .ok (.invokestatic 62, 3) := by decide +kernel
theorem dX7_doors_13 : decode cX7_doors 13 = .ok (.ifCond .ne 8, 3) := by decide +kernel
theorem dX7_doors_16 : decode cX7_doors 16 = .ok (.aload_n 0, 1) := by decide +kernel
theorem dX7_doors_17 : decode cX7_doors 17 = .ok (.invokevirtual 66, 3) := by decide +kernel
theorem dX7_doors_20 : decode cX7_doors 20 = .ok (.ireturn, 1) := by decide +kernel
theorem dX7_doors_21 : decode cX7_doors 21 = .ok (.aload_n 0, 1) := by decide +kernel
theorem dX7_doors_22 : decode cX7_doors 22 = .ok (.getfield 37, 3) := by decide +kernel
theorem dX7_doors_25 : decode cX7_doors 25 = .ok (.iload_n 1, 1) := by decide +kernel
theorem dX7_doors_26 : decode cX7_doors 26 = .ok (.invokevirtual 231, 3) := by decide +kernel
theorem dX7_doors_29 : decode cX7_doors 29 = .ok (.istore_n 3, 1) := by decide +kernel
theorem dX7_doors_30 : decode cX7_doors 30 = .ok (.iload_n 3, 1) := by decide +kernel
theorem dX7_doors_31 : decode cX7_doors 31 = .ok (.iconst (-1), 1) := by decide +kernel
theorem dX7_doors_32 : decode cX7_doors 32 = .ok (.if_icmp .eq 7, 3) := by decide +kernel
theorem dX7_doors_35 : decode cX7_doors 35 = .ok (.iload_n 2, 1) := by decide +kernel
theorem dX7_doors_36 : decode cX7_doors 36 = .ok (.ifCond .ne 7, 3) := by decide +kernel
theorem dX7_doors_39 : decode cX7_doors 39 = .ok (.iload_n 3, 1) := by decide +kernel
theorem dX7_doors_40 : decode cX7_doors 40 = .ok (.goto 12, 3) := by decide +kernel
theorem dX7_doors_43 : decode cX7_doors 43 = .ok (.aload_n 0, 1) := by decide +kernel
theorem dX7_doors_44 : decode cX7_doors 44 = .ok (.getfield 37, 3) := by decide +kernel
theorem dX7_doors_47 : decode cX7_doors 47 = .ok (.iload_n 3, 1) := by decide +kernel
theorem dX7_doors_48 : decode cX7_doors 48 = .ok (.iload_n 1, 1) := by decide +kernel
theorem dX7_doors_49 : decode cX7_doors 49 = .ok (.invokevirtual 234, 3) := by decide +kernel
theorem dX7_doors_52 : decode cX7_doors 52 = .ok (.ireturn, 1) := by decide +kernel
theorem dX7_rings_0 : decode cX7_rings 0 = .ok (.aload_n 0, 1) := by decide +kernel
theorem dX7_rings_1 : decode cX7_rings 1 = .ok (.getfield 10, 3) := by decide +kernel
theorem dX7_rings_4 : decode cX7_rings 4 = .ok (.getfield 70, 3) := by decide +kernel
theorem dX7_rings_7 : decode cX7_rings 7 = .ok (.iload_n 1, 1) := by decide +kernel
theorem dX7_rings_8 : decode cX7_rings 8 = .ok (.invokevirtual 101, 3) := by decide +kernel
theorem dX7_rings_11 : decode cX7_rings 11 = .ok (.ifCond .eq 30, 3) := by decide +kernel
theorem dX7_rings_14 : decode cX7_rings 14 = .ok (.iload_n 2, 1) := by decide +kernel
theorem dX7_rings_15 : decode cX7_rings 15 = .ok (.iconst 0, 1) := by decide +kernel
theorem dX7_rings_16 : decode cX7_rings 16 = .ok (.bipush 99, 2) := by decide +kernel
theorem dX7_rings_18 : decode cX7_rings 18 = .ok (.invokestatic 62, 3) := by decide +kernel
theorem dX7_rings_21 : decode cX7_rings 21 = .ok (.ifCond .eq 20, 3) := by decide +kernel
theorem dX7_rings_24 : decode cX7_rings 24 = .ok (.iload_n 3, 1) := by decide +kernel
theorem dX7_rings_25 : decode cX7_rings 25 = .ok (.invokestatic 105, 3) := by decide +kernel
theorem dX7_rings_28 : decode cX7_rings 28 = .ok (.ifCond .eq 13, 3) := by decide +kernel
theorem dX7_rings_31 : decode cX7_rings 31 = .ok (.iload 4, 2) := by decide +kernel
theorem dX7_rings_33 : decode cX7_rings 33 = .ok (.iconst 0, 1) := by decide +kernel
theorem dX7_rings_34 : decode cX7_rings 34 = .ok (.iload_n 3, 1) := by decide +kernel
theorem dX7_rings_35 : decode cX7_rings 35 = .ok (.invokestatic 62, 3) := by decide +kernel
theorem dX7_rings_38 : decode cX7_rings 38 = .ok (.ifCond .ne 8, 3) := by decide +kernel
theorem dX7_rings_41 : decode cX7_rings 41 = .ok (.aload_n 0, 1) := by decide +kernel
theorem dX7_rings_42 : decode cX7_rings 42 = .ok (.invokevirtual 66, 3) := by decide +kernel
theorem dX7_rings_45 : decode cX7_rings 45 = .ok (.ireturn, 1) := by decide +kernel
theorem dX7_rings_46 : decode cX7_rings 46 = .ok (.aload_n 0, 1) := by decide +kernel
theorem dX7_rings_47 : decode cX7_rings 47 = .ok (.getfield 10, 3) := by decide +kernel
theorem dX7_rings_50 : decode cX7_rings 50 = .ok (.getfield 237, 3) := by decide +kernel
theorem dX7_rings_53 : decode cX7_rings 53 = .ok (.invokevirtual 84, 3) := by decide +kernel
theorem dX7_rings_56 : decode cX7_rings 56 = .ok (.ifCond .eq 8, 3) := by decide +kernel
theorem dX7_rings_59 : decode cX7_rings 59 = .ok (.aload_n 0, 1) := by decide +kernel
theorem dX7_rings_60 : decode cX7_rings 60 = .ok (.invokevirtual 88, 3) := by decide +kernel
theorem dX7_rings_63 : decode cX7_rings 63 = .ok (.ireturn, 1) := by decide +kernel
theorem dX7_rings_64 : decode cX7_rings 64 = .ok (.aload_n 0, 1) := by decide +kernel
theorem dX7_rings_65 : decode cX7_rings 65 = .ok (.getfield 10, 3) := by decide +kernel
theorem dX7_rings_68 : decode cX7_rings 68 = .ok (.getfield 237, 3) := by decide +kernel
theorem dX7_rings_71 : decode cX7_rings 71 = .ok (.iload_n 1, 1) := by decide +kernel
theorem dX7_rings_72 : decode cX7_rings 72 = .ok (.iload_n 2, 1) := by decide +kernel
theorem dX7_rings_73 : decode cX7_rings 73 = .ok (.iload_n 3, 1) := by decide +kernel
theorem dX7_rings_74 : decode cX7_rings 74 = .ok (.iload 4, 2) := by decide +kernel
theorem dX7_rings_76 : decode cX7_rings 76 = .ok (.iconst 0, 1) := by decide +kernel
theorem dX7_rings_77 : decode cX7_rings 77 = .ok (.invokevirtual 240, 3) := by decide +kernel
theorem dX7_rings_80 : decode cX7_rings 80 = .ok (.ireturn, 1) := by decide +kernel
theorem dX7_cooled_0 : decode cX7_cooled 0 = .ok (.aload_n 0, 1) := by decide +kernel
theorem dX7_cooled_1 : decode cX7_cooled 1 = .ok (.getfield 10, 3) := by decide +kernel
theorem dX7_cooled_4 : decode cX7_cooled 4 = .ok (.getfield 237, 3) := by decide +kernel
theorem dX7_cooled_7 : decode cX7_cooled 7 = .ok (.iload_n 1, 1) := by decide +kernel
theorem dX7_cooled_8 : decode cX7_cooled 8 = .ok (.invokevirtual 101, 3) := by decide +kernel
theorem dX7_cooled_11 : decode cX7_cooled 11 = .ok (.ifCond .eq 14, 3) := by decide +kernel
theorem dX7_cooled_14 : decode cX7_cooled 14 = .ok (.aload_n 0, 1) := by decide +kernel
theorem dX7_cooled_15 : decode cX7_cooled 15 = .ok (.getfield 51, 3) := by decide +kernel
theorem dX7_cooled_18 : decode cX7_cooled 18 = .ok (.iload_n 1, 1) := by decide +kernel
theorem dX7_cooled_19 : decode cX7_cooled 19 = .ok (.invokevirtual 244, 3) := by decide +kernel
theorem dX7_cooled_22 : decode cX7_cooled 22 = .ok (.goto 7, 3) := by decide +kernel
theorem dX7_cooled_25 : decode cX7_cooled 25 = .ok (.aload_n 0, 1) := by decide +kernel
theorem dX7_cooled_26 : decode cX7_cooled 26 = .ok (.invokevirtual 66, 3) := by decide +kernel
theorem dX7_cooled_29 : decode cX7_cooled 29 = .ok (.ireturn, 1) := by decide +kernel
theorem dX7_even_0 : decode cX7_even 0 = .ok (.aload_n 0, 1) := by decide +kernel
theorem dX7_even_1 : decode cX7_even 1 = .ok (.getfield 10, 3) := by decide +kernel
theorem dX7_even_4 : decode cX7_even 4 = .ok (.getfield 70, 3) := by decide +kernel
theorem dX7_even_7 : decode cX7_even 7 = .ok (.iload_n 1, 1) := by decide +kernel
theorem dX7_even_8 : decode cX7_even 8 = .ok (.invokevirtual 101, 3) := by decide +kernel
theorem dX7_even_11 : decode cX7_even 11 = .ok (.ifCond .eq 14, 3) := by decide +kernel
theorem dX7_even_14 : decode cX7_even 14 = .ok (.aload_n 0, 1) := by decide +kernel
theorem dX7_even_15 : decode cX7_even 15 = .ok (.getfield 51, 3) := by decide +kernel
theorem dX7_even_18 : decode cX7_even 18 = .ok (.iload_n 1, 1) := by decide +kernel
theorem dX7_even_19 : decode cX7_even 19 = .ok (.invokevirtual 247, 3) := by decide +kernel
theorem dX7_even_22 : decode cX7_even 22 = .ok (.goto 7, 3) := by decide +kernel
theorem dX7_even_25 : decode cX7_even 25 = .ok (.aload_n 0, 1) := by decide +kernel
theorem dX7_even_26 : decode cX7_even 26 = .ok (.invokevirtual 66, 3) := by decide +kernel
theorem dX7_even_29 : decode cX7_even 29 = .ok (.ireturn, 1) := by decide +kernel
theorem dX7_note_0 : decode cX7_note 0 = .ok (.aload_n 0, 1) := by decide +kernel
theorem dX7_note_1 : decode cX7_note 1 = .ok (.getfield 10, 3) := by decide +kernel
theorem dX7_note_4 : decode cX7_note 4 = .ok (.getfield 70, 3) := by decide +kernel
theorem dX7_note_7 : decode cX7_note 7 = .ok (.iload_n 1, 1) := by decide +kernel
theorem dX7_note_8 : decode cX7_note 8 = .ok (.invokevirtual 101, 3) := by decide +kernel
theorem dX7_note_11 : decode cX7_note 11 = .ok (.ifCond .eq 43, 3) := by decide +kernel
theorem dX7_note_14 : decode cX7_note 14 = .ok (.iload_n 2, 1) := by decide +kernel
theorem dX7_note_15 : decode cX7_note 15 = .ok (.iconst 0, 1) := by decide +kernel
theorem dX7_note_16 : decode cX7_note 16 = .ok (.bipush 9, 2) := by decide +kernel
theorem dX7_note_18 : decode cX7_note 18 = .ok (.invokestatic 62, 3) := by decide +kernel
theorem dX7_note_21 : decode cX7_note 21 = .ok (.ifCond .eq 33, 3) := by decide +kernel
theorem dX7_note_24 : decode cX7_note 24 = .ok (.iload_n 3, 1) := by decide +kernel
theorem dX7_note_25 : decode cX7_note 25 = .ok (.iconst 0, 1) := by decide +kernel
theorem dX7_note_26 : decode cX7_note 26 = .ok (.bipush 99, 2) := by decide +kernel
theorem dX7_note_28 : decode cX7_note 28 = .ok (.invokestatic 62, 3) := by decide +kernel
theorem dX7_note_31 : decode cX7_note 31 = .ok (.ifCond .eq 23, 3) := by decide +kernel
theorem dX7_note_34 : decode cX7_note 34 = .ok (.iload 4, 2) := by decide +kernel
theorem dX7_note_36 : decode cX7_note 36 = .ok (.iconst 0, 1) := by decide +kernel
theorem dX7_note_37 : decode cX7_note 37 = .ok (.iconst 4, 1) := by decide +kernel
theorem dX7_note_38 : decode cX7_note 38 = .ok (.invokestatic 62, 3) := by decide +kernel
theorem dX7_note_41 : decode cX7_note 41 = .ok (.ifCond .eq 13, 3) := by decide +kernel
theorem dX7_note_44 : decode cX7_note 44 = .ok (.iload 5, 2) := by decide +kernel
theorem dX7_note_46 : decode cX7_note 46 = .ok (.iconst 0, 1) := by decide +kernel
theorem dX7_note_47 : decode cX7_note 47 = .ok (.iconst 4, 1) := by decide +kernel
theorem dX7_note_48 : decode cX7_note 48 = .ok (.invokestatic 62, 3) := by decide +kernel
theorem dX7_note_51 : decode cX7_note 51 = .ok (.ifCond .ne 8, 3) := by decide +kernel
theorem dX7_note_54 : decode cX7_note 54 = .ok (.aload_n 0, 1) := by decide +kernel
theorem dX7_note_55 : decode cX7_note 55 = .ok (.invokevirtual 66, 3) := by decide +kernel
theorem dX7_note_58 : decode cX7_note 58 = .ok (.ireturn, 1) := by decide +kernel
theorem dX7_note_59 : decode cX7_note 59 = .ok (.aload_n 0, 1) := by decide +kernel
theorem dX7_note_60 : decode cX7_note 60 = .ok (.getfield 10, 3) := by decide +kernel
theorem dX7_note_63 : decode cX7_note 63 = .ok (.getfield 250, 3) := by decide +kernel
theorem dX7_note_66 : decode cX7_note 66 = .ok (.invokevirtual 84, 3) := by decide +kernel
theorem dX7_note_69 : decode cX7_note 69 = .ok (.ifCond .eq 8, 3) := by decide +kernel
theorem dX7_note_72 : decode cX7_note 72 = .ok (.aload_n 0, 1) := by decide +kernel
theorem dX7_note_73 : decode cX7_note 73 = .ok (.invokevirtual 88, 3) := by decide +kernel
theorem dX7_note_76 : decode cX7_note 76 = .ok (.ireturn, 1) := by decide +kernel
theorem dX7_note_77 : decode cX7_note 77 = .ok (.aload_n 0, 1) := by decide +kernel
theorem dX7_note_78 : decode cX7_note 78 = .ok (.getfield 10, 3) := by decide +kernel
theorem dX7_note_81 : decode cX7_note 81 = .ok (.getfield 250, 3) := by decide +kernel
theorem dX7_note_84 : decode cX7_note 84 = .ok (.iload_n 1, 1) := by decide +kernel
theorem dX7_note_85 : decode cX7_note 85 = .ok (.iload_n 2, 1) := by decide +kernel
theorem dX7_note_86 : decode cX7_note 86 = .ok (.iload_n 3, 1) := by decide +kernel
theorem dX7_note_87 : decode cX7_note 87 = .ok (.iload 4, 2) := by decide +kernel
theorem dX7_note_89 : decode cX7_note 89 = .ok (.iload 5, 2) := by decide +kernel
theorem dX7_note_91 : decode cX7_note 91 = .ok (.invokevirtual 240, 3) := by decide +kernel
theorem dX7_note_94 : decode cX7_note 94 = .ok (.ireturn, 1) := by decide +kernel
theorem dX7_flew_0 : decode cX7_flew 0 = .ok (.aload_n 0, 1) := by decide +kernel
theorem dX7_flew_1 : decode cX7_flew 1 = .ok (.getfield 10, 3) := by decide +kernel
theorem dX7_flew_4 : decode cX7_flew 4 = .ok (.getfield 126, 3) := by decide +kernel
theorem dX7_flew_7 : decode cX7_flew 7 = .ok (.iload_n 1, 1) := by decide +kernel
theorem dX7_flew_8 : decode cX7_flew 8 = .ok (.invokevirtual 101, 3) := by decide +kernel
theorem dX7_flew_11 : decode cX7_flew 11 = .ok (.ifCond .eq 42, 3) := by decide +kernel
theorem dX7_flew_14 : decode cX7_flew 14 = .ok (.iload_n 2, 1) := by decide +kernel
theorem dX7_flew_15 : decode cX7_flew 15 = .ok (.invokestatic 105, 3) := by decide +kernel
theorem dX7_flew_18 : decode cX7_flew 18 = .ok (.ifCond .eq 35, 3) := by decide +kernel
theorem dX7_flew_21 : decode cX7_flew 21 = .ok (.iload_n 3, 1) := by decide +kernel
theorem dX7_flew_22 : decode cX7_flew 22 = .ok (.iconst 0, 1) := by decide +kernel
theorem dX7_flew_23 : decode cX7_flew 23 = .ok (.bipush 9, 2) := by decide +kernel
theorem dX7_flew_25 : decode cX7_flew 25 = .ok (.invokestatic 62, 3) := by decide +kernel
theorem dX7_flew_28 : decode cX7_flew 28 = .ok (.ifCond .eq 25, 3) := by decide +kernel
theorem dX7_flew_31 : decode cX7_flew 31 = .ok (.iload 4, 2) := by decide +kernel
theorem dX7_flew_33 : decode cX7_flew 33 = .ok (.iconst 0, 1) := by decide +kernel
theorem dX7_flew_34 : decode cX7_flew 34 = .ok (.bipush 60, 2) := by decide +kernel
theorem dX7_flew_36 : decode cX7_flew 36 = .ok (.invokestatic 62, 3) := by decide +kernel
theorem dX7_flew_39 : decode cX7_flew 39 = .ok (.ifCond .eq 14, 3) := by decide +kernel
theorem dX7_flew_42 : decode cX7_flew 42 = .ok (.iload 5, 2) := by decide +kernel
theorem dX7_flew_44 : decode cX7_flew 44 = .ok (.iconst 0, 1) := by decide +kernel
theorem dX7_flew_45 : decode cX7_flew 45 = .ok (.bipush 12, 2) := by decide +kernel
theorem dX7_flew_47 : decode cX7_flew 47 = .ok (.invokestatic 62, 3) := by decide +kernel
theorem dX7_flew_50 : decode cX7_flew 50 = .ok (.ifCond .ne 8, 3) := by decide +kernel
theorem dX7_flew_53 : decode cX7_flew 53 = .ok (.aload_n 0, 1) := by decide +kernel
theorem dX7_flew_54 : decode cX7_flew 54 = .ok (.invokevirtual 66, 3) := by decide +kernel
theorem dX7_flew_57 : decode cX7_flew 57 = .ok (.ireturn, 1) := by decide +kernel
theorem dX7_flew_58 : decode cX7_flew 58 = .ok (.aload_n 0, 1) := by decide +kernel
theorem dX7_flew_59 : decode cX7_flew 59 = .ok (.getfield 10, 3) := by decide +kernel
theorem dX7_flew_62 : decode cX7_flew 62 = .ok (.getfield 253, 3) := by decide +kernel
theorem dX7_flew_65 : decode cX7_flew 65 = .ok (.invokevirtual 84, 3) := by decide +kernel
theorem dX7_flew_68 : decode cX7_flew 68 = .ok (.ifCond .eq 8, 3) := by decide +kernel
theorem dX7_flew_71 : decode cX7_flew 71 = .ok (.aload_n 0, 1) := by decide +kernel
theorem dX7_flew_72 : decode cX7_flew 72 = .ok (.invokevirtual 88, 3) := by decide +kernel
theorem dX7_flew_75 : decode cX7_flew 75 = .ok (.ireturn, 1) := by decide +kernel
theorem dX7_flew_76 : decode cX7_flew 76 = .ok (.aload_n 0, 1) := by decide +kernel
theorem dX7_flew_77 : decode cX7_flew 77 = .ok (.getfield 10, 3) := by decide +kernel
theorem dX7_flew_80 : decode cX7_flew 80 = .ok (.getfield 253, 3) := by decide +kernel
theorem dX7_flew_83 : decode cX7_flew 83 = .ok (.iload_n 1, 1) := by decide +kernel
theorem dX7_flew_84 : decode cX7_flew 84 = .ok (.iload_n 2, 1) := by decide +kernel
theorem dX7_flew_85 : decode cX7_flew 85 = .ok (.iload_n 3, 1) := by decide +kernel
theorem dX7_flew_86 : decode cX7_flew 86 = .ok (.iload 4, 2) := by decide +kernel
theorem dX7_flew_88 : decode cX7_flew 88 = .ok (.iload 5, 2) := by decide +kernel
theorem dX7_flew_90 : decode cX7_flew 90 = .ok (.invokevirtual 240, 3) := by decide +kernel
theorem dX7_flew_93 : decode cX7_flew 93 = .ok (.ireturn, 1) := by decide +kernel
theorem dX7_forget_0 : decode cX7_forget 0 = .ok (.iload_n 1, 1) := by decide +kernel
theorem dX7_forget_1 : decode cX7_forget 1 = .ok (.tableswitch 60 0 2 #[27, 38, 49], 27) := by decide +kernel
theorem dX7_forget_28 : decode cX7_forget 28 = .ok (.aload_n 0, 1) := by decide +kernel
theorem dX7_forget_29 : decode cX7_forget 29 = .ok (.getfield 10, 3) := by decide +kernel
theorem dX7_forget_32 : decode cX7_forget 32 = .ok (.getfield 237, 3) := by decide +kernel
theorem dX7_forget_35 : decode cX7_forget 35 = .ok (.invokevirtual 94, 3) := by decide +kernel
theorem dX7_forget_38 : decode cX7_forget 38 = .ok (.ireturn, 1) := by decide +kernel
theorem dX7_forget_39 : decode cX7_forget 39 = .ok (.aload_n 0, 1) := by decide +kernel
theorem dX7_forget_40 : decode cX7_forget 40 = .ok (.getfield 10, 3) := by decide +kernel
theorem dX7_forget_43 : decode cX7_forget 43 = .ok (.getfield 250, 3) := by decide +kernel
theorem dX7_forget_46 : decode cX7_forget 46 = .ok (.invokevirtual 94, 3) := by decide +kernel
theorem dX7_forget_49 : decode cX7_forget 49 = .ok (.ireturn, 1) := by decide +kernel
theorem dX7_forget_50 : decode cX7_forget 50 = .ok (.aload_n 0, 1) := by decide +kernel
theorem dX7_forget_51 : decode cX7_forget 51 = .ok (.getfield 10, 3) := by decide +kernel
theorem dX7_forget_54 : decode cX7_forget 54 = .ok (.getfield 253, 3) := by decide +kernel
theorem dX7_forget_57 : decode cX7_forget 57 = .ok (.invokevirtual 94, 3) := by decide +kernel
theorem dX7_forget_60 : decode cX7_forget 60 = .ok (.ireturn, 1) := by decide +kernel
theorem dX7_forget_61 : decode cX7_forget 61 = .ok (.aload_n 0, 1) := by decide +kernel
theorem dX7_forget_62 : decode cX7_forget 62 = .ok (.invokevirtual 66, 3) := by decide +kernel
theorem dX7_forget_65 : decode cX7_forget 65 = .ok (.ireturn, 1) := by decide +kernel
theorem dX7_is_0 : decode cX7_is 0 = .ok (.aload_n 0, 1) := by decide +kernel
theorem dX7_is_1 : decode cX7_is 1 = .ok (.getfield 10, 3) := by decide +kernel
theorem dX7_is_4 : decode cX7_is 4 = .ok (.getfield 70, 3) := by decide +kernel
theorem dX7_is_7 : decode cX7_is 7 = .ok (.iload_n 1, 1) := by decide +kernel
theorem dX7_is_8 : decode cX7_is 8 = .ok (.invokevirtual 101, 3) := by decide +kernel
theorem dX7_is_11 : decode cX7_is 11 = .ok (.ifCond .eq 14, 3) := by decide +kernel
theorem dX7_is_14 : decode cX7_is 14 = .ok (.aload_n 0, 1) := by decide +kernel
theorem dX7_is_15 : decode cX7_is 15 = .ok (.getfield 51, 3) := by decide +kernel
theorem dX7_is_18 : decode cX7_is 18 = .ok (.iload_n 1, 1) := by decide +kernel
theorem dX7_is_19 : decode cX7_is 19 = .ok (.invokevirtual 256, 3) := by decide +kernel
theorem dX7_is_22 : decode cX7_is 22 = .ok (.goto 7, 3) := by decide +kernel
theorem dX7_is_25 : decode cX7_is 25 = .ok (.aload_n 0, 1) := by decide +kernel
theorem dX7_is_26 : decode cX7_is 26 = .ok (.invokevirtual 66, 3) := by decide +kernel
theorem dX7_is_29 : decode cX7_is 29 = .ok (.ireturn, 1) := by decide +kernel
theorem dX7_watch_0 : decode cX7_watch 0 = .ok (.aload_n 0, 1) := by decide +kernel
theorem dX7_watch_1 : decode cX7_watch 1 = .ok (.getfield 10, 3) := by decide +kernel
theorem dX7_watch_4 : decode cX7_watch 4 = .ok (.getfield 70, 3) := by decide +kernel
theorem dX7_watch_7 : decode cX7_watch 7 = .ok (.iload_n 1, 1) := by decide +kernel
theorem dX7_watch_8 : decode cX7_watch 8 = .ok (.invokevirtual 101, 3) := by decide +kernel
theorem dX7_watch_11 : decode cX7_watch 11 = .ok (.ifCond .eq 14, 3) := by decide +kernel
theorem dX7_watch_14 : decode cX7_watch 14 = .ok (.aload_n 0, 1) := by decide +kernel
theorem dX7_watch_15 : decode cX7_watch 15 = .ok (.getfield 51, 3) := by decide +kernel
theorem dX7_watch_18 : decode cX7_watch 18 = .ok (.iload_n 1, 1) := by decide +kernel
theorem dX7_watch_19 : decode cX7_watch 19 = .ok (.invokevirtual 259, 3) := by decide +kernel
theorem dX7_watch_22 : decode cX7_watch 22 = .ok (.goto 7, 3) := by decide +kernel
theorem dX7_watch_25 : decode cX7_watch 25 = .ok (.aload_n 0, 1) := by decide +kernel
theorem dX7_watch_26 : decode cX7_watch 26 = .ok (.invokevirtual 66, 3) := by decide +kernel
theorem dX7_watch_29 : decode cX7_watch 29 = .ok (.ireturn, 1) := by decide +kernel
theorem dX7_who_0 : decode cX7_who 0 = .ok (.aload_n 0, 1) := by decide +kernel
theorem dX7_who_1 : decode cX7_who 1 = .ok (.getfield 10, 3) := by decide +kernel
theorem dX7_who_4 : decode cX7_who 4 = .ok (.getfield 126, 3) := by decide +kernel
theorem dX7_who_7 : decode cX7_who 7 = .ok (.iload_n 1, 1) := by decide +kernel
theorem dX7_who_8 : decode cX7_who 8 = .ok (.invokevirtual 101, 3) := by decide +kernel
theorem dX7_who_11 : decode cX7_who 11 = .ok (.ifCond .eq 14, 3) := by decide +kernel
theorem dX7_who_14 : decode cX7_who 14 = .ok (.aload_n 0, 1) := by decide +kernel
theorem dX7_who_15 : decode cX7_who 15 = .ok (.getfield 51, 3) := by decide +kernel
theorem dX7_who_18 : decode cX7_who 18 = .ok (.iload_n 1, 1) := by decide +kernel
theorem dX7_who_19 : decode cX7_who 19 = .ok (.invokevirtual 262, 3) := by decide +kernel
theorem dX7_who_22 : decode cX7_who 22 = .ok (.goto 7, 3) := by decide +kernel
theorem dX7_who_25 : decode cX7_who 25 = .ok (.aload_n 0, 1) := by decide +kernel
theorem dX7_who_26 : decode cX7_who 26 = .ok (.invokevirtual 66, 3) := by decide +kernel
theorem dX7_who_29 : decode cX7_who 29 = .ok (.ireturn, 1) := by decide +kernel
theorem dX7_ask_0 : decode cX7_ask 0 = .ok (.aload_n 0, 1) := by decide +kernel
theorem dX7_ask_1 : decode cX7_ask 1 = .ok (.getfield 10, 3) := by decide +kernel
theorem dX7_ask_4 : decode cX7_ask 4 = .ok (.getfield 126, 3) := by decide +kernel
theorem dX7_ask_7 : decode cX7_ask 7 = .ok (.iload_n 1, 1) := by decide +kernel
theorem dX7_ask_8 : decode cX7_ask 8 = .ok (.invokevirtual 101, 3) := by decide +kernel
theorem dX7_ask_11 : decode cX7_ask 11 = .ok (.ifCond .eq 14, 3) := by decide +kernel
theorem dX7_ask_14 : decode cX7_ask 14 = .ok (.aload_n 0, 1) := by decide +kernel
theorem dX7_ask_15 : decode cX7_ask 15 = .ok (.getfield 51, 3) := by decide +kernel
theorem dX7_ask_18 : decode cX7_ask 18 = .ok (.iload_n 1, 1) := by decide +kernel
theorem dX7_ask_19 : decode cX7_ask 19 = .ok (.invokevirtual 265, 3) := by decide +kernel
theorem dX7_ask_22 : decode cX7_ask 22 = .ok (.goto 7, 3) := by decide +kernel
theorem dX7_ask_25 : decode cX7_ask 25 = .ok (.aload_n 0, 1) := by decide +kernel
theorem dX7_ask_26 : decode cX7_ask 26 = .ok (.invokevirtual 66, 3) := by decide +kernel
theorem dX7_ask_29 : decode cX7_ask 29 = .ok (.ireturn, 1) := by decide +kernel
theorem dX7_parishes_0 : decode cX7_parishes 0 = .ok (.aload_n 0, 1) := by decide +kernel
theorem dX7_parishes_1 : decode cX7_parishes 1 = .ok (.getfield 10, 3) := by decide +kernel
theorem dX7_parishes_4 : decode cX7_parishes 4 = .ok (.getfield 126, 3) := by decide +kernel
theorem dX7_parishes_7 : decode cX7_parishes 7 = .ok (.iload_n 1, 1) := by decide +kernel
theorem dX7_parishes_8 : decode cX7_parishes 8 = .ok (.invokevirtual 101, 3) := by decide +kernel
theorem dX7_parishes_11 : decode cX7_parishes 11 = .ok (.ifCond .eq 44, 3) := by decide +kernel
theorem dX7_parishes_14 : decode cX7_parishes 14 = .ok (.aload_n 0, 1) := by decide +kernel
theorem dX7_parishes_15 : decode cX7_parishes 15 = .ok (.getfield 10, 3) := by decide +kernel
theorem dX7_parishes_18 : decode cX7_parishes 18 = .ok (.getfield 126, 3) := by decide +kernel
theorem dX7_parishes_21 : decode cX7_parishes 21 = .ok (.iload_n 2, 1) := by decide +kernel
theorem dX7_parishes_22 : decode cX7_parishes 22 = .ok (.invokevirtual 101, 3) := by decide +kernel
theorem dX7_parishes_25 : decode cX7_parishes 25 = .ok (.ifCond .eq 30, 3) := by decide +kernel
theorem dX7_parishes_28 : decode cX7_parishes 28 = .ok (.iload_n 1, 1) := by decide +kernel
theorem dX7_parishes_29 : decode cX7_parishes 29 = .ok (.iload_n 2, 1) := by decide +kernel
theorem dX7_parishes_30 : decode cX7_parishes 30 = .ok (.if_icmp .eq 25, 3) := by decide +kernel
theorem dX7_parishes_33 : decode cX7_parishes 33 = .ok (.aload_n 0, 1) := by decide +kernel
theorem dX7_parishes_34 : decode cX7_parishes 34 = .ok (.getfield 10, 3) := by decide +kernel
theorem dX7_parishes_37 : decode cX7_parishes 37 = .ok (.getfield 132, 3) := by decide +kernel
theorem dX7_parishes_40 : decode cX7_parishes 40 = .ok (.iload_n 3, 1) := by decide +kernel
theorem dX7_parishes_41 : decode cX7_parishes 41 = .ok (.invokevirtual 101, 3) := by decide +kernel
theorem dX7_parishes_44 : decode cX7_parishes 44 = .ok (.ifCond .eq 11, 3) := by decide +kernel
theorem dX7_parishes_47 : decode cX7_parishes 47 = .ok (.iload 4, 2) := by decide +kernel
theorem dX7_parishes_49 : decode cX7_parishes 49 = .ok (.invokestatic 105, 3) := by decide +kernel
theorem dX7_parishes_52 : decode cX7_parishes 52 = .ok (.ifCond .ne 8, 3) := by decide +kernel
theorem dX7_parishes_55 : decode cX7_parishes 55 = .ok (.aload_n 0, 1) := by decide +kernel
theorem dX7_parishes_56 : decode cX7_parishes 56 = .ok (.invokevirtual 66, 3) := by decide +kernel
theorem dX7_parishes_59 : decode cX7_parishes 59 = .ok (.ireturn, 1) := by decide +kernel
theorem dX7_parishes_60 : decode cX7_parishes 60 = .ok (.aload_n 0, 1) := by decide +kernel
theorem dX7_parishes_61 : decode cX7_parishes 61 = .ok (.getfield 44, 3) := by decide +kernel
theorem dX7_parishes_64 : decode cX7_parishes 64 = .ok (.iload_n 1, 1) := by decide +kernel
theorem dX7_parishes_65 : decode cX7_parishes 65 = .ok (.iload_n 2, 1) := by decide +kernel
theorem dX7_parishes_66 : decode cX7_parishes 66 = .ok (.iload_n 3, 1) := by decide +kernel
theorem dX7_parishes_67 : decode cX7_parishes 67 = .ok (.iload 4, 2) := by decide +kernel
theorem dX7_parishes_69 : decode cX7_parishes 69 = .ok (.invokevirtual 268, 3) := by decide +kernel
theorem dX7_parishes_72 : decode cX7_parishes 72 = .ok (.ireturn, 1) := by decide +kernel
theorem dX7_gusts_0 : decode cX7_gusts 0 = .ok (.aload_n 0, 1) := by decide +kernel
theorem dX7_gusts_1 : decode cX7_gusts 1 = .ok (.getfield 10, 3) := by decide +kernel
theorem dX7_gusts_4 : decode cX7_gusts 4 = .ok (.getfield 126, 3) := by decide +kernel
theorem dX7_gusts_7 : decode cX7_gusts 7 = .ok (.iload_n 1, 1) := by decide +kernel
theorem dX7_gusts_8 : decode cX7_gusts 8 = .ok (.invokevirtual 101, 3) := by decide +kernel
theorem dX7_gusts_11 : decode cX7_gusts 11 = .ok (.ifCond .eq 46, 3) := by decide +kernel
theorem dX7_gusts_14 : decode cX7_gusts 14 = .ok (.aload_n 0, 1) := by decide +kernel
theorem dX7_gusts_15 : decode cX7_gusts 15 = .ok (.getfield 10, 3) := by decide +kernel
theorem dX7_gusts_18 : decode cX7_gusts 18 = .ok (.getfield 132, 3) := by decide +kernel
theorem dX7_gusts_21 : decode cX7_gusts 21 = .ok (.iload_n 2, 1) := by decide +kernel
theorem dX7_gusts_22 : decode cX7_gusts 22 = .ok (.invokevirtual 101, 3) := by decide +kernel
theorem dX7_gusts_25 : decode cX7_gusts 25 = .ok (.ifCond .eq 32, 3) := by decide +kernel
theorem dX7_gusts_28 : decode cX7_gusts 28 = .ok (.iload_n 3, 1) := by decide +kernel
theorem dX7_gusts_29 : decode cX7_gusts 29 = .ok (.invokestatic 105, 3) := by decide +kernel
theorem dX7_gusts_32 : decode cX7_gusts 32 = .ok (.ifCond .eq 25, 3) := by decide +kernel
theorem dX7_gusts_35 : decode cX7_gusts 35 = .ok (.iload 4, 2) := by decide +kernel
theorem dX7_gusts_37 : decode cX7_gusts 37 = .ok (.iconst 0, 1) := by decide +kernel
theorem dX7_gusts_38 : decode cX7_gusts 38 = .ok (.bipush 9, 2) := by decide +kernel
theorem dX7_gusts_40 : decode cX7_gusts 40 = .ok (.invokestatic 62, 3) := by decide +kernel
theorem dX7_gusts_43 : decode cX7_gusts 43 = .ok (.ifCond .eq 14, 3) := by decide +kernel
theorem dX7_gusts_46 : decode cX7_gusts 46 = .ok (.iload 5, 2) := by decide +kernel
theorem dX7_gusts_48 : decode cX7_gusts 48 = .ok (.iconst 0, 1) := by decide +kernel
theorem dX7_gusts_49 : decode cX7_gusts 49 = .ok (.bipush 10, 2) := by decide +kernel
theorem dX7_gusts_51 : decode cX7_gusts 51 = .ok (.invokestatic 62, 3) := by decide +kernel
theorem dX7_gusts_54 : decode cX7_gusts 54 = .ok (.ifCond .ne 8, 3) := by decide +kernel
theorem dX7_gusts_57 : decode cX7_gusts 57 = .ok (.aload_n 0, 1) := by decide +kernel
theorem dX7_gusts_58 : decode cX7_gusts 58 = .ok (.invokevirtual 66, 3) := by decide +kernel
theorem dX7_gusts_61 : decode cX7_gusts 61 = .ok (.ireturn, 1) := by decide +kernel
theorem dX7_gusts_62 : decode cX7_gusts 62 = .ok (.aload_n 0, 1) := by decide +kernel
theorem dX7_gusts_63 : decode cX7_gusts 63 = .ok (.getfield 10, 3) := by decide +kernel
theorem dX7_gusts_66 : decode cX7_gusts 66 = .ok (.iload_n 1, 1) := by decide +kernel
theorem dX7_gusts_67 : decode cX7_gusts 67 = .ok (.iload_n 2, 1) := by decide +kernel
theorem dX7_gusts_68 : decode cX7_gusts 68 = .ok (.iload_n 3, 1) := by decide +kernel
theorem dX7_gusts_69 : decode cX7_gusts 69 = .ok (.aload_n 0, 1) := by decide +kernel
theorem dX7_gusts_70 : decode cX7_gusts 70 = .ok (.getfield 10, 3) := by decide +kernel
theorem dX7_gusts_73 : decode cX7_gusts 73 = .ok (.getfield 182, 3) := by decide +kernel
theorem dX7_gusts_76 : decode cX7_gusts 76 = .ok (.invokevirtual 271, 3) := by decide +kernel
theorem dX7_gusts_79 : decode cX7_gusts 79 = .ok (.istore 6, 2) := by decide +kernel
theorem dX7_gusts_81 : decode cX7_gusts 81 = .ok (.aload_n 0, 1) := by decide +kernel
theorem dX7_gusts_82 : decode cX7_gusts 82 = .ok (.getfield 10, 3) := by decide +kernel
theorem dX7_gusts_85 : decode cX7_gusts 85 = .ok (.iload_n 1, 1) := by decide +kernel
theorem dX7_gusts_86 : decode cX7_gusts 86 = .ok (.iload_n 2, 1) := by decide +kernel
theorem dX7_gusts_87 : decode cX7_gusts 87 = .ok (.iload_n 3, 1) := by decide +kernel
theorem dX7_gusts_88 : decode cX7_gusts 88 = .ok (.bipush 9, 2) := by decide +kernel
theorem dX7_gusts_90 : decode cX7_gusts 90 = .ok (.aload_n 0, 1) := by decide +kernel
theorem dX7_gusts_91 : decode cX7_gusts 91 = .ok (.getfield 10, 3) := by decide +kernel
theorem dX7_gusts_94 : decode cX7_gusts 94 = .ok (.getfield 182, 3) := by decide +kernel
theorem dX7_gusts_97 : decode cX7_gusts 97 = .ok (.iconst 4, 1) := by decide +kernel
theorem dX7_gusts_98 : decode cX7_gusts 98 = .ok (.iadd, 1) := by decide +kernel
theorem dX7_gusts_99 : decode cX7_gusts 99 = .ok (.invokestatic 111, 3) := by decide +kernel
theorem dX7_gusts_102 : decode cX7_gusts 102 = .ok (.invokevirtual 271, 3) := by decide +kernel
theorem dX7_gusts_105 : decode cX7_gusts 105 = .ok (.istore 7, 2) := by decide +kernel
theorem dX7_gusts_107 : decode cX7_gusts 107 = .ok (.aload_n 0, 1) := by decide +kernel
theorem dX7_gusts_108 : decode cX7_gusts 108 = .ok (.iload 4, 2) := by decide +kernel
theorem dX7_gusts_110 : decode cX7_gusts 110 = .ok (.iload 5, 2) := by decide +kernel
theorem dX7_gusts_112 : decode cX7_gusts 112 = .ok (.iload 7, 2) := by decide +kernel
theorem dX7_gusts_114 : decode cX7_gusts 114 = .ok (.imul, 1) := by decide +kernel
theorem dX7_gusts_115 : decode cX7_gusts 115 = .ok (.bipush 10, 2) := by decide +kernel
theorem dX7_gusts_117 : decode cX7_gusts 117 = .ok (.iload 5, 2) := by decide +kernel
theorem dX7_gusts_119 : decode cX7_gusts 119 = .ok (.isub, 1) := by decide +kernel
theorem dX7_gusts_120 : decode cX7_gusts 120 = .ok (.iload 6, 2) := by decide +kernel
theorem dX7_gusts_122 : decode cX7_gusts 122 = .ok (.imul, 1) := by decide +kernel
theorem dX7_gusts_123 : decode cX7_gusts 123 = .ok (.iadd, 1) := by decide +kernel
theorem dX7_gusts_124 : decode cX7_gusts 124 = .ok (.imul, 1) := by decide +kernel
theorem dX7_gusts_125 : decode cX7_gusts 125 = .ok (.bipush 10, 2) := by decide +kernel
theorem dX7_gusts_127 : decode cX7_gusts 127 = .ok (.invokevirtual 274, 3) := by decide +kernel
theorem dX7_gusts_130 : decode cX7_gusts 130 = .ok (.iconst 1, 1) := by decide +kernel
theorem dX7_gusts_131 : decode cX7_gusts 131 = .ok (.ireturn, 1) := by decide +kernel
theorem dX7_summers_0 : decode cX7_summers 0 = .ok (.iload_n 1, 1) := by decide +kernel
theorem dX7_summers_1 : decode cX7_summers 1 = .ok (.iconst 0, 1) := by decide +kernel
theorem dX7_summers_2 : decode cX7_summers 2 = .ok (.ldc_w 278, 3) := by decide +kernel
theorem dX7_summers_5 : decode cX7_summers 5 = .ok (.invokestatic 62, 3) := by decide +kernel
theorem dX7_summers_8 : decode cX7_summers 8 = .ok (.ifCond .eq 13, 3) := by decide +kernel
theorem dX7_summers_11 : decode cX7_summers 11 = .ok (.iload_n 2, 1) := by decide +kernel
theorem dX7_summers_12 : decode cX7_summers 12 = .ok (.iconst 0, 1) := by decide +kernel
theorem dX7_summers_13 : decode cX7_summers 13 = .ok (.bipush 60, 2) := by decide +kernel
theorem dX7_summers_15 : decode cX7_summers 15 = .ok (.invokestatic 62, 3) := by decide +kernel
theorem dX7_summers_18 : decode cX7_summers 18 = .ok (.ifCond .ne 8, 3) := by decide +kernel
theorem dX7_summers_21 : decode cX7_summers 21 = .ok (.aload_n 0, 1) := by decide +kernel
theorem dX7_summers_22 : decode cX7_summers 22 = .ok (.invokevirtual 66, 3) := by decide +kernel
theorem dX7_summers_25 : decode cX7_summers 25 = .ok (.ireturn, 1) := by decide +kernel
theorem dX7_summers_26 : decode cX7_summers 26 = .ok (.aload_n 0, 1) := by decide +kernel
theorem dX7_summers_27 : decode cX7_summers 27 = .ok (.getfield 37, 3) := by decide +kernel
theorem dX7_summers_30 : decode cX7_summers 30 = .ok (.iload_n 1, 1) := by decide +kernel
theorem dX7_summers_31 : decode cX7_summers 31 = .ok (.iload_n 2, 1) := by decide +kernel
theorem dX7_summers_32 : decode cX7_summers 32 = .ok (.invokevirtual 279, 3) := by decide +kernel
theorem dX7_summers_35 : decode cX7_summers 35 = .ok (.ireturn, 1) := by decide +kernel
theorem dX7_part_0 : decode cX7_part 0 = .ok (.iload_n 1, 1) := by decide +kernel
theorem dX7_part_1 : decode cX7_part 1 = .ok (.lookupswitch 37 #[(0, 27), (1, 32)], 27) := by decide +kernel
theorem dX7_part_28 : decode cX7_part 28 = .ok (.aload_n 0, 1) := by decide +kernel
theorem dX7_part_29 : decode cX7_part 29 = .ok (.getfield 55, 3) := by decide +kernel
theorem dX7_part_32 : decode cX7_part 32 = .ok (.lreturn, 1) := by decide +kernel
theorem dX7_part_33 : decode cX7_part 33 = .ok (.aload_n 0, 1) := by decide +kernel
theorem dX7_part_34 : decode cX7_part 34 = .ok (.getfield 59, 3) := by decide +kernel
theorem dX7_part_37 : decode cX7_part 37 = .ok (.lreturn, 1) := by decide +kernel
theorem dX7_part_38 : decode cX7_part 38 = .ok (.aload_n 0, 1) := by decide +kernel
theorem dX7_part_39 : decode cX7_part 39 = .ok (.invokevirtual 66, 3) := by decide +kernel
theorem dX7_part_42 : decode cX7_part 42 = .ok (.i2l, 1) := by decide +kernel
theorem dX7_part_43 : decode cX7_part 43 = .ok (.lreturn, 1) := by decide +kernel
theorem dX7_image_0 : decode cX7_image 0 = .ok (.iload_n 1, 1) := by decide +kernel
theorem dX7_image_1 : decode cX7_image 1 = .ok (.lookupswitch 63 #[(0, 27), (1, 45)], 27) := by decide +kernel
theorem dX7_image_28 : decode cX7_image 28 = .ok (.aload_n 0, 1) := by decide +kernel
theorem dX7_image_29 : decode cX7_image 29 = .ok (.getfield 16, 3) := by decide +kernel
theorem dX7_image_32 : decode cX7_image 32 = .ok (.aload_n 0, 1) := by decide +kernel
theorem dX7_image_33 : decode cX7_image 33 = .ok (.getfield 10, 3) := by decide +kernel
theorem dX7_image_36 : decode cX7_image 36 = .ok (.invokevirtual 151, 3) := by decide +kernel
theorem dX7_image_39 : decode cX7_image 39 = .ok (.aload_n 0, 1) := by decide +kernel
theorem dX7_image_40 : decode cX7_image 40 = .ok (.iconst 1, 1) := by decide +kernel
theorem dX7_image_41 : decode cX7_image 41 = .ok (.putfield 282, 3) := by decide +kernel
theorem dX7_image_44 : decode cX7_image 44 = .ok (.iconst 1, 1) := by decide +kernel
theorem dX7_image_45 : decode cX7_image 45 = .ok (.ireturn, 1) := by decide +kernel
theorem dX7_image_46 : decode cX7_image 46 = .ok (.aload_n 0, 1) := by decide +kernel
theorem dX7_image_47 : decode cX7_image 47 = .ok (.getfield 19, 3) := by decide +kernel
theorem dX7_image_50 : decode cX7_image 50 = .ok (.aload_n 0, 1) := by decide +kernel
theorem dX7_image_51 : decode cX7_image 51 = .ok (.getfield 10, 3) := by decide +kernel
theorem dX7_image_54 : decode cX7_image 54 = .ok (.invokevirtual 151, 3) := by decide +kernel
theorem dX7_image_57 : decode cX7_image 57 = .ok (.aload_n 0, 1) := by decide +kernel
theorem dX7_image_58 : decode cX7_image 58 = .ok (.iconst 1, 1) := by decide +kernel
theorem dX7_image_59 : decode cX7_image 59 = .ok (.putfield 286, 3) := by decide +kernel
theorem dX7_image_62 : decode cX7_image 62 = .ok (.iconst 1, 1) := by decide +kernel
theorem dX7_image_63 : decode cX7_image 63 = .ok (.ireturn, 1) := by decide +kernel
theorem dX7_image_64 : decode cX7_image 64 = .ok (.aload_n 0, 1) := by decide +kernel
theorem dX7_image_65 : decode cX7_image 65 = .ok (.invokevirtual 66, 3) := by decide +kernel
theorem dX7_image_68 : decode cX7_image 68 = .ok (.ireturn, 1) := by decide +kernel
theorem dX7_from_0 : decode cX7_from 0 = .ok (.iload_n 1, 1) := by decide +kernel
theorem dX7_from_1 : decode cX7_from 1 = .ok (.iconst 0, 1) := by decide +kernel
theorem dX7_from_2 : decode cX7_from 2 = .ok (.iconst 1, 1) := by decide +kernel
theorem dX7_from_3 : decode cX7_from 3 = .ok (.invokestatic 62, 3) := by decide +kernel
theorem dX7_from_6 : decode cX7_from 6 = .ok (.ifCond .ne 8, 3) := by decide +kernel
theorem dX7_from_9 : decode cX7_from 9 = .ok (.aload_n 0, 1) := by decide +kernel
theorem dX7_from_10 : decode cX7_from 10 = .ok (.invokevirtual 66, 3) := by decide +kernel
theorem dX7_from_13 : decode cX7_from 13 = .ok (.ireturn, 1) := by decide +kernel
theorem dX7_from_14 : decode cX7_from 14 = .ok (.iload_n 1, 1) := by decide +kernel
theorem dX7_from_15 : decode cX7_from 15 = .ok (.ifCond .ne 10, 3) := by decide +kernel
theorem dX7_from_18 : decode cX7_from 18 = .ok (.aload_n 0, 1) := by decide +kernel
theorem dX7_from_19 : decode cX7_from 19 = .ok (.getfield 282, 3) := by decide +kernel
theorem dX7_from_22 : decode cX7_from 22 = .ok (.goto 7, 3) := by decide +kernel
theorem dX7_from_25 : decode cX7_from 25 = .ok (.aload_n 0, 1) := by decide +kernel
theorem dX7_from_26 : decode cX7_from 26 = .ok (.getfield 286, 3) := by decide +kernel
theorem dX7_from_29 : decode cX7_from 29 = .ok (.istore_n 2, 1) := by decide +kernel
theorem dX7_from_30 : decode cX7_from 30 = .ok (.iload_n 2, 1) := by decide +kernel
theorem dX7_from_31 : decode cX7_from 31 = .ok (.ifCond .ne 8, 3) := by decide +kernel
theorem dX7_from_34 : decode cX7_from 34 = .ok (.aload_n 0, 1) := by decide +kernel
theorem dX7_from_35 : decode cX7_from 35 = .ok (.invokevirtual 172, 3) := by decide +kernel
theorem dX7_from_38 : decode cX7_from 38 = .ok (.ireturn, 1) := by decide +kernel
theorem dX7_from_39 : decode cX7_from 39 = .ok (.aload_n 0, 1) := by decide +kernel
theorem dX7_from_40 : decode cX7_from 40 = .ok (.getfield 10, 3) := by decide +kernel
theorem dX7_from_43 : decode cX7_from 43 = .ok (.iload_n 1, 1) := by decide +kernel
theorem dX7_from_44 : decode cX7_from 44 = .ok (.ifCond .ne 10, 3) := by decide +kernel
theorem dX7_from_47 : decode cX7_from 47 = .ok (.aload_n 0, 1) := by decide +kernel
theorem dX7_from_48 : decode cX7_from 48 = .ok (.getfield 16, 3) := by decide +kernel
theorem dX7_from_51 : decode cX7_from 51 = .ok (.goto 7, 3) := by decide +kernel
theorem dX7_from_54 : decode cX7_from 54 = .ok (.aload_n 0, 1) := by decide +kernel
theorem dX7_from_55 : decode cX7_from 55 = .ok (.getfield 19, 3) := by decide +kernel
theorem dX7_from_58 : decode cX7_from 58 = .ok (.invokevirtual 151, 3) := by decide +kernel
theorem dX7_from_61 : decode cX7_from 61 = .ok (.iconst 1, 1) := by decide +kernel
theorem dX7_from_62 : decode cX7_from 62 = .ok (.ireturn, 1) := by decide +kernel
theorem dX7_status_0 : decode cX7_status 0 = .ok (.iload_n 1, 1) := by decide +kernel
theorem dX7_status_1 : decode cX7_status 1 = .ok (.tableswitch 42 0 2 #[27, 32, 37], 27) := by decide +kernel
theorem dX7_status_28 : decode cX7_status 28 = .ok (.aload_n 0, 1) := by decide +kernel
theorem dX7_status_29 : decode cX7_status 29 = .ok (.getfield 289, 3) := by decide +kernel
theorem dX7_status_32 : decode cX7_status 32 = .ok (.ireturn, 1) := by decide +kernel
theorem dX7_status_33 : decode cX7_status 33 = .ok (.aload_n 0, 1) := by decide +kernel
theorem dX7_status_34 : decode cX7_status 34 = .ok (.getfield 292, 3) := by decide +kernel
theorem dX7_status_37 : decode cX7_status 37 = .ok (.ireturn, 1) := by decide +kernel
theorem dX7_status_38 : decode cX7_status 38 = .ok (.aload_n 0, 1) := by decide +kernel
theorem dX7_status_39 : decode cX7_status 39 = .ok (.getfield 295, 3) := by decide +kernel
theorem dX7_status_42 : decode cX7_status 42 = .ok (.ireturn, 1) := by decide +kernel
theorem dX7_status_43 : decode cX7_status 43 = .ok (.aload_n 0, 1) := by decide +kernel
theorem dX7_status_44 : decode cX7_status 44 = .ok (.iconst (-1), 1) := by decide +kernel
theorem dX7_status_45 : decode cX7_status 45 = .ok (.invokevirtual 222, 3) := by decide +kernel
theorem dX7_status_48 : decode cX7_status 48 = .ok (.ireturn, 1) := by decide +kernel
theorem dX7_count_0 : decode cX7_count 0 = .ok (.iload_n 1, 1) := by decide +kernel
theorem dX7_count_1 : decode cX7_count 1 = .ok (.iconst 0, 1) := by decide +kernel
theorem dX7_count_2 : decode cX7_count 2 = .ok (.bipush 11, 2) := by decide +kernel
theorem dX7_count_4 : decode cX7_count 4 = .ok (.invokestatic 62, 3) := by decide +kernel
theorem dX7_count_7 : decode cX7_count 7 = .ok (.ifCond .eq 11, 3) := by decide +kernel
theorem dX7_count_10 : decode cX7_count 10 = .ok (.aload_n 0, 1) := by decide +kernel
theorem dX7_count_11 : decode cX7_count 11 = .ok (.iload_n 1, 1) := by decide +kernel
theorem dX7_count_12 : decode cX7_count 12 = .ok (.invokevirtual 298, 3) := by decide +kernel
theorem dX7_count_15 : decode cX7_count 15 = .ok (.goto 7, 3) := by decide +kernel
theorem dX7_count_18 : decode cX7_count 18 = .ok (.aload_n 0, 1) := by decide +kernel
theorem dX7_count_19 : decode cX7_count 19 = .ok (.invokevirtual 66, 3) := by decide +kernel
theorem dX7_count_22 : decode cX7_count 22 = .ok (.ireturn, 1) := by decide +kernel
theorem dX7_digest_0 : decode cX7_digest 0 = .ok (.ldc2_w 301, 3) := by decide +kernel
theorem dX7_digest_3 : decode cX7_digest 3 = .ok (.lstore_n 1, 1) := by decide +kernel
theorem dX7_digest_4 : decode cX7_digest 4 = .ok (.iconst 0, 1) := by decide +kernel
theorem dX7_digest_5 : decode cX7_digest 5 = .ok (.istore_n 3, 1) := by decide +kernel
theorem dX7_digest_6 : decode cX7_digest 6 = .ok (.iload_n 3, 1) := by decide +kernel
theorem dX7_digest_7 : decode cX7_digest 7 = .ok (.bipush 11, 2) := by decide +kernel
theorem dX7_digest_9 : decode cX7_digest 9 = .ok (.if_icmp .gt 22, 3) := by decide +kernel
theorem dX7_digest_12 : decode cX7_digest 12 = .ok (.ldc2_w 303, 3) := by decide +kernel
theorem dX7_digest_15 : decode cX7_digest 15 = .ok (.lload_n 1, 1) := by decide +kernel
theorem dX7_digest_16 : decode cX7_digest 16 = .ok (.lmul, 1) := by decide +kernel
theorem dX7_digest_17 : decode cX7_digest 17 = .ok (.aload_n 0, 1) := by decide +kernel
theorem dX7_digest_18 : decode cX7_digest 18 = .ok (.iload_n 3, 1) := by decide +kernel
theorem dX7_digest_19 : decode cX7_digest 19 = .ok (.invokevirtual 298, 3) := by decide +kernel
theorem dX7_digest_22 : decode cX7_digest 22 = .ok (.i2l, 1) := by decide +kernel
theorem dX7_digest_23 : decode cX7_digest 23 = .ok (.ladd, 1) := by decide +kernel
theorem dX7_digest_24 : decode cX7_digest 24 = .ok (.lstore_n 1, 1) := by decide +kernel
theorem dX7_digest_25 : decode cX7_digest 25 = .ok (.iinc 3 1, 3) := by decide +kernel
theorem dX7_digest_28 : decode cX7_digest 28 = .ok (.goto (-22), 3) := by decide +kernel
theorem dX7_digest_31 : decode cX7_digest 31 = .ok (.aload_n 0, 1) := by decide +kernel
theorem dX7_digest_32 : decode cX7_digest 32 = .ok (.getfield 10, 3) := by decide +kernel
theorem dX7_digest_35 : decode cX7_digest 35 = .ok (.getfield 70, 3) := by decide +kernel
theorem dX7_digest_38 : decode cX7_digest 38 = .ok (.lload_n 1, 1) := by decide +kernel
theorem dX7_digest_39 : decode cX7_digest 39 = .ok (.invokevirtual 305, 3) := by decide +kernel
theorem dX7_digest_42 : decode cX7_digest 42 = .ok (.lstore_n 1, 1) := by decide +kernel
theorem dX7_digest_43 : decode cX7_digest 43 = .ok (.aload_n 0, 1) := by decide +kernel
theorem dX7_digest_44 : decode cX7_digest 44 = .ok (.getfield 10, 3) := by decide +kernel
theorem dX7_digest_47 : decode cX7_digest 47 = .ok (.getfield 126, 3) := by decide +kernel
theorem dX7_digest_50 : decode cX7_digest 50 = .ok (.lload_n 1, 1) := by decide +kernel
theorem dX7_digest_51 : decode cX7_digest 51 = .ok (.invokevirtual 305, 3) := by decide +kernel
theorem dX7_digest_54 : decode cX7_digest 54 = .ok (.lstore_n 1, 1) := by decide +kernel
theorem dX7_digest_55 : decode cX7_digest 55 = .ok (.aload_n 0, 1) := by decide +kernel
theorem dX7_digest_56 : decode cX7_digest 56 = .ok (.getfield 10, 3) := by decide +kernel
theorem dX7_digest_59 : decode cX7_digest 59 = .ok (.getfield 132, 3) := by decide +kernel
theorem dX7_digest_62 : decode cX7_digest 62 = .ok (.lload_n 1, 1) := by decide +kernel
theorem dX7_digest_63 : decode cX7_digest 63 = .ok (.invokevirtual 305, 3) := by decide +kernel
theorem dX7_digest_66 : decode cX7_digest 66 = .ok (.lstore_n 1, 1) := by decide +kernel
theorem dX7_digest_67 : decode cX7_digest 67 = .ok (.aload_n 0, 1) := by decide +kernel
theorem dX7_digest_68 : decode cX7_digest 68 = .ok (.getfield 10, 3) := by decide +kernel
theorem dX7_digest_71 : decode cX7_digest 71 = .ok (.getfield 237, 3) := by decide +kernel
theorem dX7_digest_74 : decode cX7_digest 74 = .ok (.lload_n 1, 1) := by decide +kernel
theorem dX7_digest_75 : decode cX7_digest 75 = .ok (.invokevirtual 305, 3) := by decide +kernel
theorem dX7_digest_78 : decode cX7_digest 78 = .ok (.lstore_n 1, 1) := by decide +kernel
theorem dX7_digest_79 : decode cX7_digest 79 = .ok (.aload_n 0, 1) := by decide +kernel
theorem dX7_digest_80 : decode cX7_digest 80 = .ok (.getfield 10, 3) := by decide +kernel
theorem dX7_digest_83 : decode cX7_digest 83 = .ok (.getfield 250, 3) := by decide +kernel
theorem dX7_digest_86 : decode cX7_digest 86 = .ok (.lload_n 1, 1) := by decide +kernel
theorem dX7_digest_87 : decode cX7_digest 87 = .ok (.invokevirtual 305, 3) := by decide +kernel
theorem dX7_digest_90 : decode cX7_digest 90 = .ok (.lstore_n 1, 1) := by decide +kernel
theorem dX7_digest_91 : decode cX7_digest 91 = .ok (.aload_n 0, 1) := by decide +kernel
theorem dX7_digest_92 : decode cX7_digest 92 = .ok (.getfield 10, 3) := by decide +kernel
theorem dX7_digest_95 : decode cX7_digest 95 = .ok (.getfield 253, 3) := by decide +kernel
theorem dX7_digest_98 : decode cX7_digest 98 = .ok (.lload_n 1, 1) := by decide +kernel
theorem dX7_digest_99 : decode cX7_digest 99 = .ok (.invokevirtual 305, 3) := by decide +kernel
theorem dX7_digest_102 : decode cX7_digest 102 = .ok (.lstore_n 1, 1) := by decide +kernel
theorem dX7_digest_103 : decode cX7_digest 103 = .ok (.ldc2_w 303, 3) := by decide +kernel
theorem dX7_digest_106 : decode cX7_digest 106 = .ok (.lload_n 1, 1) := by decide +kernel
theorem dX7_digest_107 : decode cX7_digest 107 = .ok (.lmul, 1) := by decide +kernel
theorem dX7_digest_108 : decode cX7_digest 108 = .ok (.aload_n 0, 1) := by decide +kernel
theorem dX7_digest_109 : decode cX7_digest 109 = .ok (.getfield 55, 3) := by decide +kernel
theorem dX7_digest_112 : decode cX7_digest 112 = .ok (.ladd, 1) := by decide +kernel
theorem dX7_digest_113 : decode cX7_digest 113 = .ok (.lstore_n 1, 1) := by decide +kernel
theorem dX7_digest_114 : decode cX7_digest 114 = .ok (.ldc2_w 303, 3) := by decide +kernel
theorem dX7_digest_117 : decode cX7_digest 117 = .ok (.lload_n 1, 1) := by decide +kernel
theorem dX7_digest_118 : decode cX7_digest 118 = .ok (.lmul, 1) := by decide +kernel
theorem dX7_digest_119 : decode cX7_digest 119 = .ok (.aload_n 0, 1) := by decide +kernel
theorem dX7_digest_120 : decode cX7_digest 120 = .ok (.getfield 59, 3) := by decide +kernel
theorem dX7_digest_123 : decode cX7_digest 123 = .ok (.ladd, 1) := by decide +kernel
theorem dX7_digest_124 : decode cX7_digest 124 = .ok (.lreturn, 1) := by decide +kernel
theorem dX7_amount_0 : decode cX7_amount 0 = .ok (.iload_n 1, 1) := by decide +kernel
theorem dX7_amount_1 : decode cX7_amount 1 = .ok (.tableswitch 168 0 10 #[59, 70, 81, 92, 100, 108, 116, 124, 135, 146, 157], 59) := by decide +kernel
theorem dX7_amount_60 : decode cX7_amount 60 = .ok (.aload_n 0, 1) := by decide +kernel
theorem dX7_amount_61 : decode cX7_amount 61 = .ok (.getfield 10, 3) := by decide +kernel
theorem dX7_amount_64 : decode cX7_amount 64 = .ok (.getfield 70, 3) := by decide +kernel
theorem dX7_amount_67 : decode cX7_amount 67 = .ok (.getfield 74, 3) := by decide +kernel
theorem dX7_amount_70 : decode cX7_amount 70 = .ok (.ireturn, 1) := by decide +kernel
theorem dX7_amount_71 : decode cX7_amount 71 = .ok (.aload_n 0, 1) := by decide +kernel
theorem dX7_amount_72 : decode cX7_amount 72 = .ok (.getfield 10, 3) := by decide +kernel
theorem dX7_amount_75 : decode cX7_amount 75 = .ok (.getfield 126, 3) := by decide +kernel
theorem dX7_amount_78 : decode cX7_amount 78 = .ok (.getfield 74, 3) := by decide +kernel
theorem dX7_amount_81 : decode cX7_amount 81 = .ok (.ireturn, 1) := by decide +kernel
theorem dX7_amount_82 : decode cX7_amount 82 = .ok (.aload_n 0, 1) := by decide +kernel
theorem dX7_amount_83 : decode cX7_amount 83 = .ok (.getfield 10, 3) := by decide +kernel
theorem dX7_amount_86 : decode cX7_amount 86 = .ok (.getfield 132, 3) := by decide +kernel
theorem dX7_amount_89 : decode cX7_amount 89 = .ok (.getfield 74, 3) := by decide +kernel
theorem dX7_amount_92 : decode cX7_amount 92 = .ok (.ireturn, 1) := by decide +kernel
theorem dX7_amount_93 : decode cX7_amount 93 = .ok (.aload_n 0, 1) := by decide +kernel
theorem dX7_amount_94 : decode cX7_amount 94 = .ok (.getfield 10, 3) := by decide +kernel
theorem dX7_amount_97 : decode cX7_amount 97 = .ok (.getfield 188, 3) := by decide +kernel
theorem dX7_amount_100 : decode cX7_amount 100 = .ok (.ireturn, 1) := by decide +kernel
theorem dX7_amount_101 : decode cX7_amount 101 = .ok (.aload_n 0, 1) := by decide +kernel
theorem dX7_amount_102 : decode cX7_amount 102 = .ok (.getfield 10, 3) := by decide +kernel
theorem dX7_amount_105 : decode cX7_amount 105 = .ok (.getfield 182, 3) := by decide +kernel
theorem dX7_amount_108 : decode cX7_amount 108 = .ok (.ireturn, 1) := by decide +kernel
theorem dX7_amount_109 : decode cX7_amount 109 = .ok (.aload_n 0, 1) := by decide +kernel
theorem dX7_amount_110 : decode cX7_amount 110 = .ok (.getfield 10, 3) := by decide +kernel
theorem dX7_amount_113 : decode cX7_amount 113 = .ok (.invokevirtual 160, 3) := by decide +kernel
theorem dX7_amount_116 : decode cX7_amount 116 = .ok (.ireturn, 1) := by decide +kernel
theorem dX7_amount_117 : decode cX7_amount 117 = .ok (.aload_n 0, 1) := by decide +kernel
theorem dX7_amount_118 : decode cX7_amount 118 = .ok (.getfield 10, 3) := by decide +kernel
theorem dX7_amount_121 : decode cX7_amount 121 = .ok (.invokevirtual 309, 3) := by decide +kernel
theorem dX7_amount_124 : decode cX7_amount 124 = .ok (.ireturn, 1) := by decide +kernel
theorem dX7_amount_125 : decode cX7_amount 125 = .ok (.aload_n 0, 1) := by decide +kernel
theorem dX7_amount_126 : decode cX7_amount 126 = .ok (.getfield 10, 3) := by decide +kernel
theorem dX7_amount_129 : decode cX7_amount 129 = .ok (.getfield 237, 3) := by decide +kernel
theorem dX7_amount_132 : decode cX7_amount 132 = .ok (.getfield 74, 3) := by decide +kernel
theorem dX7_amount_135 : decode cX7_amount 135 = .ok (.ireturn, 1) := by decide +kernel
theorem dX7_amount_136 : decode cX7_amount 136 = .ok (.aload_n 0, 1) := by decide +kernel
theorem dX7_amount_137 : decode cX7_amount 137 = .ok (.getfield 10, 3) := by decide +kernel
theorem dX7_amount_140 : decode cX7_amount 140 = .ok (.getfield 250, 3) := by decide +kernel
theorem dX7_amount_143 : decode cX7_amount 143 = .ok (.getfield 74, 3) := by decide +kernel
theorem dX7_amount_146 : decode cX7_amount 146 = .ok (.ireturn, 1) := by decide +kernel
theorem dX7_amount_147 : decode cX7_amount 147 = .ok (.aload_n 0, 1) := by decide +kernel
theorem dX7_amount_148 : decode cX7_amount 148 = .ok (.getfield 10, 3) := by decide +kernel
theorem dX7_amount_151 : decode cX7_amount 151 = .ok (.getfield 253, 3) := by decide +kernel
theorem dX7_amount_154 : decode cX7_amount 154 = .ok (.getfield 74, 3) := by decide +kernel
theorem dX7_amount_157 : decode cX7_amount 157 = .ok (.ireturn, 1) := by decide +kernel
theorem dX7_amount_158 : decode cX7_amount 158 = .ok (.aload_n 0, 1) := by decide +kernel
theorem dX7_amount_159 : decode cX7_amount 159 = .ok (.getfield 10, 3) := by decide +kernel
theorem dX7_amount_162 : decode cX7_amount 162 = .ok (.getfield 91, 3) := by decide +kernel
theorem dX7_amount_165 : decode cX7_amount 165 = .ok (.getfield 74, 3) := by decide +kernel
theorem dX7_amount_168 : decode cX7_amount 168 = .ok (.ireturn, 1) := by decide +kernel
theorem dX7_amount_169 : decode cX7_amount 169 = .ok (.aload_n 0, 1) := by decide +kernel
theorem dX7_amount_170 : decode cX7_amount 170 = .ok (.getfield 30, 3) := by decide +kernel
theorem dX7_amount_173 : decode cX7_amount 173 = .ok (.getfield 312, 3) := by decide +kernel
theorem dX7_amount_176 : decode cX7_amount 176 = .ok (.ireturn, 1) := by decide +kernel
theorem dX7_keepFraction_0 : decode cX7_keepFraction 0 = .ok (.iload_n 1, 1) := by decide +kernel
theorem dX7_keepFraction_1 : decode cX7_keepFraction 1 = .ok (.istore_n 3, 1) := by decide +kernel
theorem dX7_keepFraction_2 : decode cX7_keepFraction 2 = .ok (.iload_n 2, 1) := by decide +kernel
theorem dX7_keepFraction_3 : decode cX7_keepFraction 3 = .ok (.istore 4, 2) := by decide +kernel
theorem dX7_keepFraction_5 : decode cX7_keepFraction 5 = .ok (.iconst 0, 1) := by decide +kernel
theorem dX7_keepFraction_6 : decode cX7_keepFraction 6 = .ok (.istore 5, 2) := by decide +kernel
theorem dX7_keepFraction_8 : decode cX7_keepFraction 8 = .ok (.iload 5, 2) := by decide +kernel
theorem dX7_keepFraction_10 : decode cX7_keepFraction 10 = .ok (.bipush 64, 2) := by decide +kernel
theorem dX7_keepFraction_12 : decode cX7_keepFraction 12 = .ok (.if_icmp .ge 27, 3) := by decide +kernel
theorem dX7_keepFraction_15 : decode cX7_keepFraction 15 = .ok (.iload 4, 2) := by decide +kernel
theorem dX7_keepFraction_17 : decode cX7_keepFraction 17 = .ok (.ifCond .eq 22, 3) := by decide +kernel
theorem dX7_keepFraction_20 : decode cX7_keepFraction 20 = .ok (.iload_n 3, 1) := by decide +kernel
theorem dX7_keepFraction_21 : decode cX7_keepFraction 21 = .ok (.iload 4, 2) := by decide +kernel
theorem dX7_keepFraction_23 : decode cX7_keepFraction 23 = .ok (.irem, 1) := by decide +kernel
theorem dX7_keepFraction_24 : decode cX7_keepFraction 24 = .ok (.istore 6, 2) := by decide +kernel
theorem dX7_keepFraction_26 : decode cX7_keepFraction 26 = .ok (.iload 4, 2) := by decide +kernel
theorem dX7_keepFraction_28 : decode cX7_keepFraction 28 = .ok (.istore_n 3, 1) := by decide +kernel
theorem dX7_keepFraction_29 : decode cX7_keepFraction 29 = .ok (.iload 6, 2) := by decide +kernel
theorem dX7_keepFraction_31 : decode cX7_keepFraction 31 = .ok (.istore 4, 2) := by decide +kernel
theorem dX7_keepFraction_33 : decode cX7_keepFraction 33 = .ok (.iinc 5 1, 3) := by decide +kernel
theorem dX7_keepFraction_36 : decode cX7_keepFraction 36 = .ok (.goto (-28), 3) := by decide +kernel
theorem dX7_keepFraction_39 : decode cX7_keepFraction 39 = .ok (.iload_n 3, 1) := by decide +kernel
theorem dX7_keepFraction_40 : decode cX7_keepFraction 40 = .ok (.ifCond .le 19, 3) := by decide +kernel
theorem dX7_keepFraction_43 : decode cX7_keepFraction 43 = .ok (.aload_n 0, 1) := by decide +kernel
theorem dX7_keepFraction_44 : decode cX7_keepFraction 44 = .ok (.iload_n 1, 1) := by decide +kernel
theorem dX7_keepFraction_45 : decode cX7_keepFraction 45 = .ok (.iload_n 3, 1) := by decide +kernel
theorem dX7_keepFraction_46 : decode cX7_keepFraction 46 = .ok (.idiv, 1) := by decide +kernel
theorem dX7_keepFraction_47 : decode cX7_keepFraction 47 = .ok (.i2l, 1) := by decide +kernel
theorem dX7_keepFraction_48 : decode cX7_keepFraction 48 = .ok (.putfield 55, 3) := by decide +kernel
theorem dX7_keepFraction_51 : decode cX7_keepFraction 51 = .ok (.aload_n 0, 1) := by decide +kernel
theorem dX7_keepFraction_52 : decode cX7_keepFraction 52 = .ok (.iload_n 2, 1) := by decide +kernel
theorem dX7_keepFraction_53 : decode cX7_keepFraction 53 = .ok (.iload_n 3, 1) := by decide +kernel
theorem dX7_keepFraction_54 : decode cX7_keepFraction 54 = .ok (.idiv, 1) := by decide +kernel
theorem dX7_keepFraction_55 : decode cX7_keepFraction 55 = .ok (.i2l, 1) := by decide +kernel
theorem dX7_keepFraction_56 : decode cX7_keepFraction 56 = .ok (.putfield 59, 3) := by decide +kernel
theorem dX7_keepFraction_59 : decode cX7_keepFraction 59 = .ok (.return_, 1) := by decide +kernel
theorem dX7_bad_0 : decode cX7_bad 0 = .ok (.aload_n 0, 1) := by decide +kernel
theorem dX7_bad_1 : decode cX7_bad 1 = .ok (.bipush (-2), 2) := by decide +kernel
theorem dX7_bad_3 : decode cX7_bad 3 = .ok (.invokevirtual 222, 3) := by decide +kernel
theorem dX7_bad_6 : decode cX7_bad 6 = .ok (.ireturn, 1) := by decide +kernel
theorem dX7_refusedAsBad_0 : decode cX7_refusedAsBad 0 = .ok (.aload_n 0, 1) := by decide +kernel
theorem dX7_refusedAsBad_1 : decode cX7_refusedAsBad 1 = .ok (.dup, 1) := by decide +kernel
theorem dX7_refusedAsBad_2 : decode cX7_refusedAsBad 2 = .ok (.getfield 289, 3) := by decide +kernel
theorem dX7_refusedAsBad_5 : decode cX7_refusedAsBad 5 = .ok (.iconst 1, 1) := by decide +kernel
theorem dX7_refusedAsBad_6 : decode cX7_refusedAsBad 6 = .ok (.iadd, 1) := by decide +kernel
theorem dX7_refusedAsBad_7 : decode cX7_refusedAsBad 7 = .ok (.putfield 289, 3) := by decide +kernel
theorem dX7_refusedAsBad_10 : decode cX7_refusedAsBad 10 = .ok (.iload_n 1, 1) := by decide +kernel
theorem dX7_refusedAsBad_11 : decode cX7_refusedAsBad 11 = .ok (.ireturn, 1) := by decide +kernel
theorem dX7_no_0 : decode cX7_no 0 = .ok (.aload_n 0, 1) := by decide +kernel
theorem dX7_no_1 : decode cX7_no 1 = .ok (.dup, 1) := by decide +kernel
theorem dX7_no_2 : decode cX7_no 2 = .ok (.getfield 292, 3) := by decide +kernel
theorem dX7_no_5 : decode cX7_no 5 = .ok (.iconst 1, 1) := by decide +kernel
theorem dX7_no_6 : decode cX7_no 6 = .ok (.iadd, 1) := by decide +kernel
theorem dX7_no_7 : decode cX7_no 7 = .ok (.putfield 292, 3) := by decide +kernel
theorem dX7_no_10 : decode cX7_no 10 = .ok (.bipush (-3), 2) := by decide +kernel
theorem dX7_no_12 : decode cX7_no 12 = .ok (.ireturn, 1) := by decide +kernel
theorem dX7_full_0 : decode cX7_full 0 = .ok (.aload_n 0, 1) := by decide +kernel
theorem dX7_full_1 : decode cX7_full 1 = .ok (.dup, 1) := by decide +kernel
theorem dX7_full_2 : decode cX7_full 2 = .ok (.getfield 295, 3) := by decide +kernel
theorem dX7_full_5 : decode cX7_full 5 = .ok (.iconst 1, 1) := by decide +kernel
theorem dX7_full_6 : decode cX7_full 6 = .ok (.iadd, 1) := by decide +kernel
theorem dX7_full_7 : decode cX7_full 7 = .ok (.putfield 295, 3) := by decide +kernel
theorem dX7_full_10 : decode cX7_full 10 = .ok (.bipush (-4), 2) := by decide +kernel
theorem dX7_full_12 : decode cX7_full 12 = .ok (.ireturn, 1) := by decide +kernel
theorem dX7_within_0 : decode cX7_within 0 = .ok (.iload_n 1, 1) := by decide +kernel
theorem dX7_within_1 : decode cX7_within 1 = .ok (.iload_n 0, 1) := by decide +kernel
theorem dX7_within_2 : decode cX7_within 2 = .ok (.if_icmp .gt 12, 3) := by decide +kernel
theorem dX7_within_5 : decode cX7_within 5 = .ok (.iload_n 0, 1) := by decide +kernel
theorem dX7_within_6 : decode cX7_within 6 = .ok (.iload_n 2, 1) := by decide +kernel
theorem dX7_within_7 : decode cX7_within 7 = .ok (.if_icmp .gt 7, 3) := by decide +kernel
theorem dX7_within_10 : decode cX7_within 10 = .ok (.iconst 1, 1) := by decide +kernel
theorem dX7_within_11 : decode cX7_within 11 = .ok (.goto 4, 3) := by decide +kernel
theorem dX7_within_14 : decode cX7_within 14 = .ok (.iconst 0, 1) := by decide +kernel
theorem dX7_within_15 : decode cX7_within 15 = .ok (.ireturn, 1) := by decide +kernel
theorem dX7_isRings_0 : decode cX7_isRings 0 = .ok (.iload_n 0, 1) := by decide +kernel
theorem dX7_isRings_1 : decode cX7_isRings 1 = .ok (.iconst 1, 1) := by decide +kernel
theorem dX7_isRings_2 : decode cX7_isRings 2 = .ok (.bipush 9, 2) := by decide +kernel
theorem dX7_isRings_4 : decode cX7_isRings 4 = .ok (.invokestatic 62, 3) := by decide +kernel
theorem dX7_isRings_7 : decode cX7_isRings 7 = .ok (.ireturn, 1) := by decide +kernel
theorem dX8_init_0 : decode cX8_init 0 = .ok (.aload_n 0, 1) := by decide +kernel
theorem dX8_init_1 : decode cX8_init 1 = .ok (.invokespecial 1, 3) := by decide +kernel
theorem dX8_init_4 : decode cX8_init 4 = .ok (.aload_n 0, 1) := by decide +kernel
theorem dX8_init_5 : decode cX8_init 5 = .ok (.sipush 168, 3) := by decide +kernel
theorem dX8_init_8 : decode cX8_init 8 = .ok (.newarray .int, 2) := by decide +kernel
theorem dX8_init_10 : decode cX8_init 10 = .ok (.putfield 7, 3) := by decide +kernel
theorem dX8_init_13 : decode cX8_init 13 = .ok (.aload_n 0, 1) := by decide +kernel
theorem dX8_init_14 : decode cX8_init 14 = .ok (.iconst 3, 1) := by decide +kernel
theorem dX8_init_15 : decode cX8_init 15 = .ok (.newarray .int, 2) := by decide +kernel
theorem dX8_init_17 : decode cX8_init 17 = .ok (.putfield 13, 3) := by decide +kernel
theorem dX8_init_20 : decode cX8_init 20 = .ok (.aload_n 0, 1) := by decide +kernel
theorem dX8_init_21 : decode cX8_init 21 = .ok (.lconst 1, 1) := by decide +kernel
theorem dX8_init_22 : decode cX8_init 22 = .ok (.putfield 16, 3) := by decide +kernel
theorem dX8_init_25 : decode cX8_init 25 = .ok (.aload_n 0, 1) := by decide +kernel
theorem dX8_init_26 : decode cX8_init 26 = .ok (.sipush 480, 3) := by decide +kernel
theorem dX8_init_29 : decode cX8_init 29 = .ok (.newarray .int, 2) := by decide +kernel
theorem dX8_init_31 : decode cX8_init 31 = .ok (.putfield 20, 3) := by decide +kernel
theorem dX8_init_34 : decode cX8_init 34 = .ok (.aload_n 0, 1) := by decide +kernel
theorem dX8_init_35 : decode cX8_init 35 = .ok (.sipush 150, 3) := by decide +kernel
theorem dX8_init_38 : decode cX8_init 38 = .ok (.newarray .int, 2) := by decide +kernel
theorem dX8_init_40 : decode cX8_init 40 = .ok (.putfield 23, 3) := by decide +kernel
theorem dX8_init_43 : decode cX8_init 43 = .ok (.aload_n 0, 1) := by decide +kernel
theorem dX8_init_44 : decode cX8_init 44 = .ok (.sipush 168, 3) := by decide +kernel
theorem dX8_init_47 : decode cX8_init 47 = .ok (.newarray .int, 2) := by decide +kernel
theorem dX8_init_49 : decode cX8_init 49 = .ok (.putfield 26, 3) := by decide +kernel
theorem dX8_init_52 : decode cX8_init 52 = .ok (.aload_n 0, 1) := by decide +kernel
theorem dX8_init_53 : decode cX8_init 53 = .ok (.bipush 10, 2) := by decide +kernel
theorem dX8_init_55 : decode cX8_init 55 = .ok (.newarray .int, 2) := by decide +kernel
theorem dX8_init_57 : decode cX8_init 57 = .ok (.putfield 29, 3) := by decide +kernel
theorem dX8_init_60 : decode cX8_init 60 = .ok (.aload_n 0, 1) := by decide +kernel
theorem dX8_init_61 : decode cX8_init 61 = .ok (.bipush 41, 2) := by decide +kernel
theorem dX8_init_63 : decode cX8_init 63 = .ok (.newarray .int, 2) := by decide +kernel
theorem dX8_init_65 : decode cX8_init 65 = .ok (.putfield 32, 3) := by decide +kernel
theorem dX8_init_68 : decode cX8_init 68 = .ok (.aload_n 0, 1) := by decide +kernel
theorem dX8_init_69 : decode cX8_init 69 = .ok (.iconst 4, 1) := by decide +kernel
theorem dX8_init_70 : decode cX8_init 70 = .ok (.newarray .int, 2) := by decide +kernel
theorem dX8_init_72 : decode cX8_init 72 = .ok (.putfield 35, 3) := by decide +kernel
theorem dX8_init_75 : decode cX8_init 75 = .ok (.aload_n 0, 1) := by decide +kernel
theorem dX8_init_76 : decode cX8_init 76 = .ok (.iconst 4, 1) := by decide +kernel
theorem dX8_init_77 : decode cX8_init 77 = .ok (.newarray .int, 2) := by decide +kernel
theorem dX8_init_79 : decode cX8_init 79 = .ok (.putfield 38, 3) := by decide +kernel
theorem dX8_init_82 : decode cX8_init 82 = .ok (.aload_n 0, 1) := by decide +kernel
theorem dX8_init_83 : decode cX8_init 83 = .ok (.bipush 6, 2) := by decide +kernel
theorem dX8_init_85 : decode cX8_init 85 = .ok (.newarray .int, 2) := by decide +kernel
theorem dX8_init_87 : decode cX8_init 87 = .ok (.putfield 41, 3) := by decide +kernel
theorem dX8_init_90 : decode cX8_init 90 = .ok (.aload_n 0, 1) := by decide +kernel
theorem dX8_init_91 : decode cX8_init 91 = .ok (.sipush 168, 3) := by decide +kernel
theorem dX8_init_94 : decode cX8_init 94 = .ok (.newarray .int, 2) := by decide +kernel
theorem dX8_init_96 : decode cX8_init 96 = .ok (.putfield 44, 3) := by decide +kernel
theorem dX8_init_99 : decode cX8_init 99 = .ok (.aload_n 0, 1) := by decide +kernel
theorem dX8_init_100 : decode cX8_init 100 = .ok (.sipush 336, 3) := by decide +kernel
theorem dX8_init_103 : decode cX8_init 103 = .ok (.newarray .int, 2) := by decide +kernel
theorem dX8_init_105 : decode cX8_init 105 = .ok (.putfield 47, 3) := by decide +kernel
theorem dX8_init_108 : decode cX8_init 108 = .ok (.aload_n 0, 1) := by decide +kernel
theorem dX8_init_109 : decode cX8_init 109 = .ok (.iconst 2, 1) := by decide +kernel
theorem dX8_init_110 : decode cX8_init 110 = .ok (.newarray .boolean, 2) := by decide +kernel
theorem dX8_init_112 : decode cX8_init 112 = .ok (.putfield 50, 3) := by decide +kernel
theorem dX8_init_115 : decode cX8_init 115 = .ok (.aload_n 0, 1) := by decide +kernel
theorem dX8_init_116 : decode cX8_init 116 = .ok (.iconst 2, 1) := by decide +kernel
theorem dX8_init_117 : decode cX8_init 117 = .ok (.newarray .int, 2) := by decide +kernel
theorem dX8_init_119 : decode cX8_init 119 = .ok (.putfield 54, 3) := by decide +kernel
theorem dX8_init_122 : decode cX8_init 122 = .ok (.aload_n 0, 1) := by decide +kernel
theorem dX8_init_123 : decode cX8_init 123 = .ok (.sipush 960, 3) := by decide +kernel
theorem dX8_init_126 : decode cX8_init 126 = .ok (.newarray .int, 2) := by decide +kernel
theorem dX8_init_128 : decode cX8_init 128 = .ok (.putfield 57, 3) := by decide +kernel
theorem dX8_init_131 : decode cX8_init 131 = .ok (.aload_n 0, 1) := by decide +kernel
theorem dX8_init_132 : decode cX8_init 132 = .ok (.getfield 7, 3) := by decide +kernel
theorem dX8_init_135 : decode cX8_init 135 = .ok (.iconst 3, 1) := by decide +kernel
theorem dX8_init_136 : decode cX8_init 136 = .ok (.iconst 0, 1) := by decide +kernel
theorem dX8_init_137 : decode cX8_init 137 = .ok (.iastore, 1) := by decide +kernel
theorem dX8_init_138 : decode cX8_init 138 = .ok (.return_, 1) := by decide +kernel
theorem dX8_in_0 : decode cX8_in 0 = .ok (.lload_n 0, 1) := by decide +kernel
theorem dX8_in_1 : decode cX8_in 1 = .ok (.lload_n 2, 1) := by decide +kernel
theorem dX8_in_2 : decode cX8_in 2 = .ok (.lcmp, 1) := by decide +kernel
theorem dX8_in_3 : decode cX8_in 3 = .ok (.ifCond .lt 14, 3) := by decide +kernel
theorem dX8_in_6 : decode cX8_in 6 = .ok (.lload_n 0, 1) := by decide +kernel
theorem dX8_in_7 : decode cX8_in 7 = .ok (.lload 4, 2) := by decide +kernel
theorem dX8_in_9 : decode cX8_in 9 = .ok (.lcmp, 1) := by decide +kernel
theorem dX8_in_10 : decode cX8_in 10 = .ok (.ifCond .gt 7, 3) := by decide +kernel
theorem dX8_in_13 : decode cX8_in 13 = .ok (.iconst 1, 1) := by decide +kernel
theorem dX8_in_14 : decode cX8_in 14 = .ok (.goto 4, 3) := by decide +kernel
theorem dX8_in_17 : decode cX8_in 17 = .ok (.iconst 0, 1) := by decide +kernel
theorem dX8_in_18 : decode cX8_in 18 = .ok (.ireturn, 1) := by decide +kernel
theorem dX8_bad_0 : decode cX8_bad 0 = .ok (.aload_n 0, 1) := by decide +kernel
theorem dX8_bad_1 : decode cX8_bad 1 = .ok (.getfield 13, 3) := by decide +kernel
theorem dX8_bad_4 : decode cX8_bad 4 = .ok (.iconst 0, 1) := by decide +kernel
theorem dX8_bad_5 : decode cX8_bad 5 = .ok (.dup2, 1) := by decide +kernel
theorem dX8_bad_6 : decode cX8_bad 6 = .ok (.iaload, 1) := by decide +kernel
theorem dX8_bad_7 : decode cX8_bad 7 = .ok (.iconst 1, 1) := by decide +kernel
theorem dX8_bad_8 : decode cX8_bad 8 = .ok (.iadd, 1) := by decide +kernel
theorem dX8_bad_9 : decode cX8_bad 9 = .ok (.iastore, 1) := by decide +kernel
theorem dX8_bad_10 : decode cX8_bad 10 = .ok (.bipush (-2), 2) := by decide +kernel
theorem dX8_bad_12 : decode cX8_bad 12 = .ok (.ireturn, 1) := by decide +kernel
theorem dX8_no_0 : decode cX8_no 0 = .ok (.aload_n 0, 1) := by decide +kernel
theorem dX8_no_1 : decode cX8_no 1 = .ok (.getfield 13, 3) := by decide +kernel
theorem dX8_no_4 : decode cX8_no 4 = .ok (.iconst 1, 1) := by decide +kernel
theorem dX8_no_5 : decode cX8_no 5 = .ok (.dup2, 1) := by decide +kernel
theorem dX8_no_6 : decode cX8_no 6 = .ok (.iaload, 1) := by decide +kernel
theorem dX8_no_7 : decode cX8_no 7 = .ok (.iconst 1, 1) := by decide +kernel
theorem dX8_no_8 : decode cX8_no 8 = .ok (.iadd, 1) := by decide +kernel
theorem dX8_no_9 : decode cX8_no 9 = .ok (.iastore, 1) := by decide +kernel
theorem dX8_no_10 : decode cX8_no 10 = .ok (.bipush (-3), 2) := by decide +kernel
theorem dX8_no_12 : decode cX8_no 12 = .ok (.ireturn, 1) := by decide +kernel
theorem dX8_full_0 : decode cX8_full 0 = .ok (.aload_n 0, 1) := by decide +kernel
theorem dX8_full_1 : decode cX8_full 1 = .ok (.getfield 13, 3) := by decide +kernel
theorem dX8_full_4 : decode cX8_full 4 = .ok (.iconst 2, 1) := by decide +kernel
theorem dX8_full_5 : decode cX8_full 5 = .ok (.dup2, 1) := by decide +kernel
theorem dX8_full_6 : decode cX8_full 6 = .ok (.iaload, 1) := by decide +kernel
theorem dX8_full_7 : decode cX8_full 7 = .ok (.iconst 1, 1) := by decide +kernel
theorem dX8_full_8 : decode cX8_full 8 = .ok (.iadd, 1) := by decide +kernel
theorem dX8_full_9 : decode cX8_full 9 = .ok (.iastore, 1) := by decide +kernel
theorem dX8_full_10 : decode cX8_full 10 = .ok (.bipush (-4), 2) := by decide +kernel
theorem dX8_full_12 : decode cX8_full 12 = .ok (.ireturn, 1) := by decide +kernel
theorem dX8_isCellar_0 : decode cX8_isCellar 0 = .ok (.iload_n 1, 1) := by decide +kernel
theorem dX8_isCellar_1 : decode cX8_isCellar 1 = .ok (.i2l, 1) := by decide +kernel
theorem dX8_isCellar_2 : decode cX8_isCellar 2 = .ok (.lconst 0, 1) := by decide +kernel
theorem dX8_isCellar_3 : decode cX8_isCellar 3 = .ok (.aload_n 0, 1) := by decide +kernel
theorem dX8_isCellar_4 : decode cX8_isCellar 4 = .ok (.getfield 7, 3) := by decide +kernel
theorem dX8_isCellar_7 : decode cX8_isCellar 7 = .ok (.iconst 0, 1) := by decide +kernel
theorem dX8_isCellar_8 : decode cX8_isCellar 8 = .ok (.iaload, 1) := by decide +kernel
theorem dX8_isCellar_9 : decode cX8_isCellar 9 = .ok (.iconst 1, 1) := by decide +kernel
theorem dX8_isCellar_10 : decode cX8_isCellar 10 = .ok (.isub, 1) := by decide +kernel
theorem dX8_isCellar_11 : decode cX8_isCellar 11 = .ok (.i2l, 1) := by decide +kernel
theorem dX8_isCellar_12 : decode cX8_isCellar 12 = .ok (.invokestatic 60, 3) := by decide +kernel
theorem dX8_isCellar_15 : decode cX8_isCellar 15 = .ok (.ireturn, 1) := by decide +kernel
theorem dX8_isSlinger_0 : decode cX8_isSlinger 0 = .ok (.iload_n 1, 1) := by decide +kernel
theorem dX8_isSlinger_1 : decode cX8_isSlinger 1 = .ok (.i2l, 1) := by decide +kernel
theorem dX8_isSlinger_2 : decode cX8_isSlinger 2 = .ok (.lconst 0, 1) := by decide +kernel
theorem dX8_isSlinger_3 : decode cX8_isSlinger 3 = .ok (.aload_n 0, 1) := by decide +kernel
theorem dX8_isSlinger_4 : decode cX8_isSlinger 4 = .ok (.getfield 7, 3) := by decide +kernel
theorem dX8_isSlinger_7 : decode cX8_isSlinger 7 = .ok (.iconst 1, 1) := by decide +kernel
theorem dX8_isSlinger_8 : decode cX8_isSlinger 8 = .ok (.iaload, 1) := by decide +kernel
theorem dX8_isSlinger_9 : decode cX8_isSlinger 9 = .ok (.iconst 1, 1) := by decide +kernel
theorem dX8_isSlinger_10 : decode cX8_isSlinger 10 = .ok (.isub, 1) := by decide +kernel
theorem dX8_isSlinger_11 : decode cX8_isSlinger 11 = .ok (.i2l, 1) := by decide +kernel
theorem dX8_isSlinger_12 : decode cX8_isSlinger 12 = .ok (.invokestatic 60, 3) := by decide +kernel
theorem dX8_isSlinger_15 : decode cX8_isSlinger 15 = .ok (.ireturn, 1) := by decide +kernel
theorem dX8_isCloud_0 : decode cX8_isCloud 0 = .ok (.iload_n 1, 1) := by decide +kernel
theorem dX8_isCloud_1 : decode cX8_isCloud 1 = .ok (.i2l, 1) := by decide +kernel
theorem dX8_isCloud_2 : decode cX8_isCloud 2 = .ok (.lconst 0, 1) := by decide +kernel
theorem dX8_isCloud_3 : decode cX8_isCloud 3 = .ok (.aload_n 0, 1) := by decide +kernel
theorem dX8_isCloud_4 : decode cX8_isCloud 4 = .ok (.getfield 7, 3) := by decide +kernel
theorem dX8_isCloud_7 : decode cX8_isCloud 7 = .ok (.iconst 2, 1) := by decide +kernel
theorem dX8_isCloud_8 : decode cX8_isCloud 8 = .ok (.iaload, 1) := by decide +kernel
theorem dX8_isCloud_9 : decode cX8_isCloud 9 = .ok (.iconst 1, 1) := by decide +kernel
theorem dX8_isCloud_10 : decode cX8_isCloud 10 = .ok (.isub, 1) := by decide +kernel
theorem dX8_isCloud_11 : decode cX8_isCloud 11 = .ok (.i2l, 1) := by decide +kernel
theorem dX8_isCloud_12 : decode cX8_isCloud 12 = .ok (.invokestatic 60, 3) := by decide +kernel
theorem dX8_isCloud_15 : decode cX8_isCloud 15 = .ok (.ireturn, 1) := by decide +kernel
theorem dX8_meltsBy_0 : decode cX8_meltsBy 0 = .ok (.iload_n 1, 1) := by decide +kernel
theorem dX8_meltsBy_1 : decode cX8_meltsBy 1 = .ok (.iconst 2, 1) := by decide +kernel
theorem dX8_meltsBy_2 : decode cX8_meltsBy 2 = .ok (.irem, 1) := by decide +kernel
theorem dX8_meltsBy_3 : decode cX8_meltsBy 3 = .ok (.ifCond .ne 12, 3) := by decide +kernel
theorem dX8_meltsBy_6 : decode cX8_meltsBy 6 = .ok (.iload_n 2, 1) := by decide +kernel
theorem dX8_meltsBy_7 : decode cX8_meltsBy 7 = .ok (.iconst 5, 1) := by decide +kernel
theorem dX8_meltsBy_8 : decode cX8_meltsBy 8 = .ok (.if_icmp .lt 7, 3) := by decide +kernel
theorem dX8_meltsBy_11 : decode cX8_meltsBy 11 = .ok (.iconst 0, 1) := by decide +kernel
theorem dX8_meltsBy_12 : decode cX8_meltsBy 12 = .ok (.goto 4, 3) := by decide +kernel
theorem dX8_meltsBy_15 : decode cX8_meltsBy 15 = .ok (.iconst 1, 1) := by decide +kernel
theorem dX8_meltsBy_16 : decode cX8_meltsBy 16 = .ok (.istore_n 3, 1) := by decide +kernel
theorem dX8_meltsBy_17 : decode cX8_meltsBy 17 = .ok (.iload_n 1, 1) := by decide +kernel
theorem dX8_meltsBy_18 : decode cX8_meltsBy 18 = .ok (.iconst 3, 1) := by decide +kernel
theorem dX8_meltsBy_19 : decode cX8_meltsBy 19 = .ok (.irem, 1) := by decide +kernel
theorem dX8_meltsBy_20 : decode cX8_meltsBy 20 = .ok (.ifCond .ne 7, 3) := by decide +kernel
theorem dX8_meltsBy_23 : decode cX8_meltsBy 23 = .ok (.iconst 0, 1) := by decide +kernel
theorem dX8_meltsBy_24 : decode cX8_meltsBy 24 = .ok (.goto 4, 3) := by decide +kernel
theorem dX8_meltsBy_27 : decode cX8_meltsBy 27 = .ok (.iload_n 3, 1) := by decide +kernel
theorem dX8_meltsBy_28 : decode cX8_meltsBy 28 = .ok (.istore 4, 2) := by decide +kernel
theorem dX8_meltsBy_30 : decode cX8_meltsBy 30 = .ok (.iload_n 0, 1) := by decide +kernel
theorem dX8_meltsBy_31 : decode cX8_meltsBy 31 = .ok (.tableswitch 57 0 4 #[33, 35, 38, 42, 44], 33) := by decide +kernel
theorem dX8_meltsBy_64 : decode cX8_meltsBy 64 = .ok (.iload_n 3, 1) := by decide +kernel
theorem dX8_meltsBy_65 : decode cX8_meltsBy 65 = .ok (.ireturn, 1) := by decide +kernel
theorem dX8_meltsBy_66 : decode cX8_meltsBy 66 = .ok (.iload 4, 2) := by decide +kernel
theorem dX8_meltsBy_68 : decode cX8_meltsBy 68 = .ok (.ireturn, 1) := by decide +kernel
theorem dX8_meltsBy_69 : decode cX8_meltsBy 69 = .ok (.iload_n 3, 1) := by decide +kernel
theorem dX8_meltsBy_70 : decode cX8_meltsBy 70 = .ok (.iconst 1, 1) := by decide +kernel
theorem dX8_meltsBy_71 : decode cX8_meltsBy 71 = .ok (.iadd, 1) := by decide +kernel
theorem dX8_meltsBy_72 : decode cX8_meltsBy 72 = .ok (.ireturn, 1) := by decide +kernel
theorem dX8_meltsBy_73 : decode cX8_meltsBy 73 = .ok (.iconst 0, 1) := by decide +kernel
theorem dX8_meltsBy_74 : decode cX8_meltsBy 74 = .ok (.ireturn, 1) := by decide +kernel
theorem dX8_meltsBy_75 : decode cX8_meltsBy 75 = .ok (.iload_n 2, 1) := by decide +kernel
theorem dX8_meltsBy_76 : decode cX8_meltsBy 76 = .ok (.bipush 8, 2) := by decide +kernel
theorem dX8_meltsBy_78 : decode cX8_meltsBy 78 = .ok (.if_icmp .lt 7, 3) := by decide +kernel
theorem dX8_meltsBy_81 : decode cX8_meltsBy 81 = .ok (.iconst 0, 1) := by decide +kernel
theorem dX8_meltsBy_82 : decode cX8_meltsBy 82 = .ok (.goto 5, 3) := by decide +kernel
theorem dX8_meltsBy_85 : decode cX8_meltsBy 85 = .ok (.iload 4, 2) := by decide +kernel
theorem dX8_meltsBy_87 : decode cX8_meltsBy 87 = .ok (.ireturn, 1) := by decide +kernel
theorem dX8_meltsBy_88 : decode cX8_meltsBy 88 = .ok (.iload_n 3, 1) := by decide +kernel
theorem dX8_meltsBy_89 : decode cX8_meltsBy 89 = .ok (.iconst 1, 1) := by decide +kernel
theorem dX8_meltsBy_90 : decode cX8_meltsBy 90 = .ok (.iadd, 1) := by decide +kernel
theorem dX8_meltsBy_91 : decode cX8_meltsBy 91 = .ok (.ireturn, 1) := by decide +kernel
theorem dX8_costBy_0 : decode cX8_costBy 0 = .ok (.iload_n 0, 1) := by decide +kernel
theorem dX8_costBy_1 : decode cX8_costBy 1 = .ok (.iconst 4, 1) := by decide +kernel
theorem dX8_costBy_2 : decode cX8_costBy 2 = .ok (.if_icmp .ne 7, 3) := by decide +kernel
theorem dX8_costBy_5 : decode cX8_costBy 5 = .ok (.iconst 0, 1) := by decide +kernel
theorem dX8_costBy_6 : decode cX8_costBy 6 = .ok (.goto 13, 3) := by decide +kernel
theorem dX8_costBy_9 : decode cX8_costBy 9 = .ok (.iload_n 0, 1) := by decide +kernel
theorem dX8_costBy_10 : decode cX8_costBy 10 = .ok (.iconst 5, 1) := by decide +kernel
theorem dX8_costBy_11 : decode cX8_costBy 11 = .ok (.if_icmp .ne 7, 3) := by decide +kernel
theorem dX8_costBy_14 : decode cX8_costBy 14 = .ok (.iconst 2, 1) := by decide +kernel
theorem dX8_costBy_15 : decode cX8_costBy 15 = .ok (.goto 4, 3) := by decide +kernel
theorem dX8_costBy_18 : decode cX8_costBy 18 = .ok (.iconst 1, 1) := by decide +kernel
theorem dX8_costBy_19 : decode cX8_costBy 19 = .ok (.ireturn, 1) := by decide +kernel
theorem dX8_sizeOf_0 : decode cX8_sizeOf 0 = .ok (.iload_n 0, 1) := by decide +kernel
theorem dX8_sizeOf_1 : decode cX8_sizeOf 1 = .ok (.iconst 2, 1) := by decide +kernel
theorem dX8_sizeOf_2 : decode cX8_sizeOf 2 = .ok (.iadd, 1) := by decide +kernel
theorem dX8_sizeOf_3 : decode cX8_sizeOf 3 = .ok (.iconst 3, 1) := by decide +kernel
theorem dX8_sizeOf_4 : decode cX8_sizeOf 4 = .ok (.idiv, 1) := by decide +kernel
theorem dX8_sizeOf_5 : decode cX8_sizeOf 5 = .ok (.ireturn, 1) := by decide +kernel
theorem dX8_least0_0 : decode cX8_least0 0 = .ok (.iload_n 0, 1) := by decide +kernel
theorem dX8_least0_1 : decode cX8_least0 1 = .ok (.ifCond .le 7, 3) := by decide +kernel
theorem dX8_least0_4 : decode cX8_least0 4 = .ok (.iload_n 0, 1) := by decide +kernel
theorem dX8_least0_5 : decode cX8_least0 5 = .ok (.goto 4, 3) := by decide +kernel
theorem dX8_least0_8 : decode cX8_least0 8 = .ok (.iconst 0, 1) := by decide +kernel
theorem dX8_least0_9 : decode cX8_least0 9 = .ok (.ireturn, 1) := by decide +kernel
theorem dX8_farBy_0 : decode cX8_farBy 0 = .ok (.iconst 2, 1) := by decide +kernel
theorem dX8_farBy_1 : decode cX8_farBy 1 = .ok (.iload_n 1, 1) := by decide +kernel
theorem dX8_farBy_2 : decode cX8_farBy 2 = .ok (.imul, 1) := by decide +kernel
theorem dX8_farBy_3 : decode cX8_farBy 3 = .ok (.iload_n 2, 1) := by decide +kernel
theorem dX8_farBy_4 : decode cX8_farBy 4 = .ok (.iadd, 1) := by decide +kernel
theorem dX8_farBy_5 : decode cX8_farBy 5 = .ok (.iload_n 3, 1) := by decide +kernel
theorem dX8_farBy_6 : decode cX8_farBy 6 = .ok (.isub, 1) := by decide +kernel
theorem dX8_farBy_7 : decode cX8_farBy 7 = .ok (.invokestatic 64, 3) := by decide +kernel
theorem dX8_farBy_10 : decode cX8_farBy 10 = .ok (.istore 4, 2) := by decide +kernel
theorem dX8_farBy_12 : decode cX8_farBy 12 = .ok (.iload_n 0, 1) := by decide +kernel
theorem dX8_farBy_13 : decode cX8_farBy 13 = .ok (.tableswitch 59 0 4 #[35, 59, 38, 43, 51], 35) := by decide +kernel
theorem dX8_farBy_48 : decode cX8_farBy 48 = .ok (.iload 4, 2) := by decide +kernel
theorem dX8_farBy_50 : decode cX8_farBy 50 = .ok (.ireturn, 1) := by decide +kernel
theorem dX8_farBy_51 : decode cX8_farBy 51 = .ok (.iload 4, 2) := by decide +kernel
theorem dX8_farBy_53 : decode cX8_farBy 53 = .ok (.iconst 4, 1) := by decide +kernel
theorem dX8_farBy_54 : decode cX8_farBy 54 = .ok (.iadd, 1) := by decide +kernel
theorem dX8_farBy_55 : decode cX8_farBy 55 = .ok (.ireturn, 1) := by decide +kernel
theorem dX8_farBy_56 : decode cX8_farBy 56 = .ok (.iload 4, 2) := by decide +kernel
theorem dX8_farBy_58 : decode cX8_farBy 58 = .ok (.iload_n 3, 1) := by decide +kernel
theorem dX8_farBy_59 : decode cX8_farBy 59 = .ok (.isub, 1) := by decide +kernel
theorem dX8_farBy_60 : decode cX8_farBy 60 = .ok (.invokestatic 64, 3) := by decide +kernel
theorem dX8_farBy_63 : decode cX8_farBy 63 = .ok (.ireturn, 1) := by decide +kernel
theorem dX8_farBy_64 : decode cX8_farBy 64 = .ok (.iconst 2, 1) := by decide +kernel
theorem dX8_farBy_65 : decode cX8_farBy 65 = .ok (.iload_n 1, 1) := by decide +kernel
theorem dX8_farBy_66 : decode cX8_farBy 66 = .ok (.imul, 1) := by decide +kernel
theorem dX8_farBy_67 : decode cX8_farBy 67 = .ok (.iload_n 2, 1) := by decide +kernel
theorem dX8_farBy_68 : decode cX8_farBy 68 = .ok (.iadd, 1) := by decide +kernel
theorem dX8_farBy_69 : decode cX8_farBy 69 = .ok (.iconst 4, 1) := by decide +kernel
theorem dX8_farBy_70 : decode cX8_farBy 70 = .ok (.iadd, 1) := by decide +kernel
theorem dX8_farBy_71 : decode cX8_farBy 71 = .ok (.ireturn, 1) := by decide +kernel
theorem dX8_farBy_72 : decode cX8_farBy 72 = .ok (.iload_n 2, 1) := by decide +kernel
theorem dX8_farBy_73 : decode cX8_farBy 73 = .ok (.iconst 3, 1) := by decide +kernel
theorem dX8_farBy_74 : decode cX8_farBy 74 = .ok (.if_icmp .le 7, 3) := by decide +kernel
theorem dX8_farBy_77 : decode cX8_farBy 77 = .ok (.iconst 0, 1) := by decide +kernel
theorem dX8_farBy_78 : decode cX8_farBy 78 = .ok (.goto 5, 3) := by decide +kernel
theorem dX8_farBy_81 : decode cX8_farBy 81 = .ok (.iload 4, 2) := by decide +kernel
theorem dX8_farBy_83 : decode cX8_farBy 83 = .ok (.ireturn, 1) := by decide +kernel
theorem dX8_hitsBy_0 : decode cX8_hitsBy 0 = .ok (.iload_n 1, 1) := by decide +kernel
theorem dX8_hitsBy_1 : decode cX8_hitsBy 1 = .ok (.invokestatic 68, 3) := by decide +kernel
theorem dX8_hitsBy_4 : decode cX8_hitsBy 4 = .ok (.istore_n 2, 1) := by decide +kernel
theorem dX8_hitsBy_5 : decode cX8_hitsBy 5 = .ok (.iload_n 0, 1) := by decide +kernel
theorem dX8_hitsBy_6 : decode cX8_hitsBy 6 = .ok (.tableswitch 58 1 5 #[34, 58, 38, 58, 52], 34) := by decide +kernel
theorem dX8_hitsBy_40 : decode cX8_hitsBy 40 = .ok (.iload_n 2, 1) := by decide +kernel
theorem dX8_hitsBy_41 : decode cX8_hitsBy 41 = .ok (.iconst 2, 1) := by decide +kernel
theorem dX8_hitsBy_42 : decode cX8_hitsBy 42 = .ok (.iadd, 1) := by decide +kernel
theorem dX8_hitsBy_43 : decode cX8_hitsBy 43 = .ok (.ireturn, 1) := by decide +kernel
theorem dX8_hitsBy_44 : decode cX8_hitsBy 44 = .ok (.iload_n 1, 1) := by decide +kernel
theorem dX8_hitsBy_45 : decode cX8_hitsBy 45 = .ok (.bipush 7, 2) := by decide +kernel
theorem dX8_hitsBy_47 : decode cX8_hitsBy 47 = .ok (.if_icmp .lt 9, 3) := by decide +kernel
theorem dX8_hitsBy_50 : decode cX8_hitsBy 50 = .ok (.iload_n 2, 1) := by decide +kernel
theorem dX8_hitsBy_51 : decode cX8_hitsBy 51 = .ok (.iconst 1, 1) := by decide +kernel
theorem dX8_hitsBy_52 : decode cX8_hitsBy 52 = .ok (.iadd, 1) := by decide +kernel
theorem dX8_hitsBy_53 : decode cX8_hitsBy 53 = .ok (.goto 4, 3) := by decide +kernel
theorem dX8_hitsBy_56 : decode cX8_hitsBy 56 = .ok (.iload_n 2, 1) := by decide +kernel
theorem dX8_hitsBy_57 : decode cX8_hitsBy 57 = .ok (.ireturn, 1) := by decide +kernel
theorem dX8_hitsBy_58 : decode cX8_hitsBy 58 = .ok (.iconst 2, 1) := by decide +kernel
theorem dX8_hitsBy_59 : decode cX8_hitsBy 59 = .ok (.iload_n 2, 1) := by decide +kernel
theorem dX8_hitsBy_60 : decode cX8_hitsBy 60 = .ok (.iconst 2, 1) := by decide +kernel
theorem dX8_hitsBy_61 : decode cX8_hitsBy 61 = .ok (.iadd, 1) := by decide +kernel
theorem dX8_hitsBy_62 : decode cX8_hitsBy 62 = .ok (.imul, 1) := by decide +kernel
theorem dX8_hitsBy_63 : decode cX8_hitsBy 63 = .ok (.ireturn, 1) := by decide +kernel
theorem dX8_hitsBy_64 : decode cX8_hitsBy 64 = .ok (.iload_n 2, 1) := by decide +kernel
theorem dX8_hitsBy_65 : decode cX8_hitsBy 65 = .ok (.ireturn, 1) := by decide +kernel
theorem dX8_farOf_0 : decode cX8_farOf 0 = .ok (.aload_n 0, 1) := by decide +kernel
theorem dX8_farOf_1 : decode cX8_farOf 1 = .ok (.getfield 7, 3) := by decide +kernel
theorem dX8_farOf_4 : decode cX8_farOf 4 = .ok (.bipush 68, 2) := by decide +kernel
theorem dX8_farOf_6 : decode cX8_farOf 6 = .ok (.iload_n 1, 1) := by decide +kernel
theorem dX8_farOf_7 : decode cX8_farOf 7 = .ok (.iadd, 1) := by decide +kernel
theorem dX8_farOf_8 : decode cX8_farOf 8 = .ok (.iaload, 1) := by decide +kernel
theorem dX8_farOf_9 : decode cX8_farOf 9 = .ok (.aload_n 0, 1) := by decide +kernel
theorem dX8_farOf_10 : decode cX8_farOf 10 = .ok (.getfield 7, 3) := by decide +kernel
theorem dX8_farOf_13 : decode cX8_farOf 13 = .ok (.bipush 74, 2) := by decide +kernel
theorem dX8_farOf_15 : decode cX8_farOf 15 = .ok (.iload_n 1, 1) := by decide +kernel
theorem dX8_farOf_16 : decode cX8_farOf 16 = .ok (.iadd, 1) := by decide +kernel
theorem dX8_farOf_17 : decode cX8_farOf 17 = .ok (.iaload, 1) := by decide +kernel
theorem dX8_farOf_18 : decode cX8_farOf 18 = .ok (.iload_n 2, 1) := by decide +kernel
theorem dX8_farOf_19 : decode cX8_farOf 19 = .ok (.iload_n 3, 1) := by decide +kernel
theorem dX8_farOf_20 : decode cX8_farOf 20 = .ok (.invokestatic 71, 3) := by decide +kernel
theorem dX8_farOf_23 : decode cX8_farOf 23 = .ok (.ireturn, 1) := by decide +kernel
theorem dX8_hitsOf_0 : decode cX8_hitsOf 0 = .ok (.aload_n 0, 1) := by decide +kernel
theorem dX8_hitsOf_1 : decode cX8_hitsOf 1 = .ok (.getfield 7, 3) := by decide +kernel
theorem dX8_hitsOf_4 : decode cX8_hitsOf 4 = .ok (.bipush 68, 2) := by decide +kernel
theorem dX8_hitsOf_6 : decode cX8_hitsOf 6 = .ok (.iload_n 1, 1) := by decide +kernel
theorem dX8_hitsOf_7 : decode cX8_hitsOf 7 = .ok (.iadd, 1) := by decide +kernel
theorem dX8_hitsOf_8 : decode cX8_hitsOf 8 = .ok (.iaload, 1) := by decide +kernel
theorem dX8_hitsOf_9 : decode cX8_hitsOf 9 = .ok (.iload_n 2, 1) := by decide +kernel
theorem dX8_hitsOf_10 : decode cX8_hitsOf 10 = .ok (.invokestatic 75, 3) := by decide +kernel
theorem dX8_hitsOf_13 : decode cX8_hitsOf 13 = .ok (.ireturn, 1) := by decide +kernel
theorem dX8_reaches_0 : decode cX8_reaches 0 = .ok (.aload_n 0, 1) := by decide +kernel
theorem dX8_reaches_1 : decode cX8_reaches 1 = .ok (.getfield 7, 3) := by decide +kernel
theorem dX8_reaches_4 : decode cX8_reaches 4 = .ok (.bipush 80, 2) := by decide +kernel
theorem dX8_reaches_6 : decode cX8_reaches 6 = .ok (.iload_n 3, 1) := by decide +kernel
theorem dX8_reaches_7 : decode cX8_reaches 7 = .ok (.iadd, 1) := by decide +kernel
theorem dX8_reaches_8 : decode cX8_reaches 8 = .ok (.iaload, 1) := by decide +kernel
theorem dX8_reaches_9 : decode cX8_reaches 9 = .ok (.ifCond .le 27, 3) := by decide +kernel
theorem dX8_reaches_12 : decode cX8_reaches 12 = .ok (.aload_n 0, 1) := by decide +kernel
theorem dX8_reaches_13 : decode cX8_reaches 13 = .ok (.getfield 7, 3) := by decide +kernel
theorem dX8_reaches_16 : decode cX8_reaches 16 = .ok (.bipush 80, 2) := by decide +kernel
theorem dX8_reaches_18 : decode cX8_reaches 18 = .ok (.iload_n 3, 1) := by decide +kernel
theorem dX8_reaches_19 : decode cX8_reaches 19 = .ok (.iadd, 1) := by decide +kernel
theorem dX8_reaches_20 : decode cX8_reaches 20 = .ok (.iaload, 1) := by decide +kernel
theorem dX8_reaches_21 : decode cX8_reaches 21 = .ok (.aload_n 0, 1) := by decide +kernel
theorem dX8_reaches_22 : decode cX8_reaches 22 = .ok (.iload_n 1, 1) := by decide +kernel
theorem dX8_reaches_23 : decode cX8_reaches 23 = .ok (.iload_n 2, 1) := by decide +kernel
theorem dX8_reaches_24 : decode cX8_reaches 24 = .ok (.iload 4, 2) := by decide +kernel
theorem dX8_reaches_26 : decode cX8_reaches 26 = .ok (.invokevirtual 79, 3) := by decide +kernel
theorem dX8_reaches_29 : decode cX8_reaches 29 = .ok (.if_icmp .gt 7, 3) := by decide +kernel
theorem dX8_reaches_32 : decode cX8_reaches 32 = .ok (.iconst 1, 1) := by decide +kernel
theorem dX8_reaches_33 : decode cX8_reaches 33 = .ok (.goto 4, 3) := by decide +kernel
theorem dX8_reaches_36 : decode cX8_reaches 36 = .ok (.iconst 0, 1) := by decide +kernel
theorem dX8_reaches_37 : decode cX8_reaches 37 = .ok (.ireturn, 1) := by decide +kernel
theorem dX8_isTurned_0 : decode cX8_isTurned 0 = .ok (.aload_n 0, 1) := by decide +kernel
theorem dX8_isTurned_1 : decode cX8_isTurned 1 = .ok (.getfield 7, 3) := by decide +kernel
theorem dX8_isTurned_4 : decode cX8_isTurned 4 = .ok (.bipush 88, 2) := by decide +kernel
theorem dX8_isTurned_6 : decode cX8_isTurned 6 = .ok (.iload_n 1, 1) := by decide +kernel
theorem dX8_isTurned_7 : decode cX8_isTurned 7 = .ok (.iadd, 1) := by decide +kernel
theorem dX8_isTurned_8 : decode cX8_isTurned 8 = .ok (.iaload, 1) := by decide +kernel
theorem dX8_isTurned_9 : decode cX8_isTurned 9 = .ok (.aload_n 0, 1) := by decide +kernel
theorem dX8_isTurned_10 : decode cX8_isTurned 10 = .ok (.getfield 7, 3) := by decide +kernel
theorem dX8_isTurned_13 : decode cX8_isTurned 13 = .ok (.bipush 84, 2) := by decide +kernel
theorem dX8_isTurned_15 : decode cX8_isTurned 15 = .ok (.iload_n 1, 1) := by decide +kernel
theorem dX8_isTurned_16 : decode cX8_isTurned 16 = .ok (.iadd, 1) := by decide +kernel
theorem dX8_isTurned_17 : decode cX8_isTurned 17 = .ok (.iaload, 1) := by decide +kernel
theorem dX8_isTurned_18 : decode cX8_isTurned 18 = .ok (.if_icmp .lt 7, 3) := by decide +kernel
theorem dX8_isTurned_21 : decode cX8_isTurned 21 = .ok (.iconst 1, 1) := by decide +kernel
theorem dX8_isTurned_22 : decode cX8_isTurned 22 = .ok (.goto 4, 3) := by decide +kernel
theorem dX8_isTurned_25 : decode cX8_isTurned 25 = .ok (.iconst 0, 1) := by decide +kernel
theorem dX8_isTurned_26 : decode cX8_isTurned 26 = .ok (.ireturn, 1) := by decide +kernel
theorem dX8_melt_0 : decode cX8_melt 0 = .ok (.iconst 1, 1) := by decide +kernel
theorem dX8_melt_1 : decode cX8_melt 1 = .ok (.istore_n 3, 1) := by decide +kernel
theorem dX8_melt_2 : decode cX8_melt 2 = .ok (.iload_n 3, 1) := by decide +kernel
theorem dX8_melt_3 : decode cX8_melt 3 = .ok (.bipush 10, 2) := by decide +kernel
theorem dX8_melt_5 : decode cX8_melt 5 = .ok (.if_icmp .ge 33, 3) := by decide +kernel
theorem dX8_melt_8 : decode cX8_melt 8 = .ok (.aload_n 0, 1) := by decide +kernel
theorem dX8_melt_9 : decode cX8_melt 9 = .ok (.iload_n 1, 1) := by decide +kernel
theorem dX8_melt_10 : decode cX8_melt 10 = .ok (.iload_n 3, 1) := by decide +kernel
theorem dX8_melt_11 : decode cX8_melt 11 = .ok (.iadd, 1) := by decide +kernel
theorem dX8_melt_12 : decode cX8_melt 12 = .ok (.iload_n 3, 1) := by decide +kernel
theorem dX8_melt_13 : decode cX8_melt 13 = .ok (.iload_n 2, 1) := by decide +kernel
theorem dX8_melt_14 : decode cX8_melt 14 = .ok (.iadd, 1) := by decide +kernel
theorem dX8_melt_15 : decode cX8_melt 15 = .ok (.bipush 10, 2) := by decide +kernel
theorem dX8_melt_17 : decode cX8_melt 17 = .ok (.if_icmp .ge 13, 3) := by decide +kernel
theorem dX8_melt_20 : decode cX8_melt 20 = .ok (.aload_n 0, 1) := by decide +kernel
theorem dX8_melt_21 : decode cX8_melt 21 = .ok (.iload_n 1, 1) := by decide +kernel
theorem dX8_melt_22 : decode cX8_melt 22 = .ok (.iload_n 3, 1) := by decide +kernel
theorem dX8_melt_23 : decode cX8_melt 23 = .ok (.iadd, 1) := by decide +kernel
theorem dX8_melt_24 : decode cX8_melt 24 = .ok (.iload_n 2, 1) := by decide +kernel
theorem dX8_melt_25 : decode cX8_melt 25 = .ok (.iadd, 1) := by decide +kernel
theorem dX8_melt_26 : decode cX8_melt 26 = .ok (.iaload, 1) := by decide +kernel
theorem dX8_melt_27 : decode cX8_melt 27 = .ok (.goto 4, 3) := by decide +kernel
theorem dX8_melt_30 : decode cX8_melt 30 = .ok (.iconst 0, 1) := by decide +kernel
theorem dX8_melt_31 : decode cX8_melt 31 = .ok (.iastore, 1) := by decide +kernel
theorem dX8_melt_32 : decode cX8_melt 32 = .ok (.iinc 3 1, 3) := by decide +kernel
theorem dX8_melt_35 : decode cX8_melt 35 = .ok (.goto (-33), 3) := by decide +kernel
theorem dX8_melt_38 : decode cX8_melt 38 = .ok (.return_, 1) := by decide +kernel
theorem dX8_stonesIn_0 : decode cX8_stonesIn 0 = .ok (.iconst 0, 1) := by decide +kernel
theorem dX8_stonesIn_1 : decode cX8_stonesIn 1 = .ok (.istore_n 2, 1) := by decide +kernel
theorem dX8_stonesIn_2 : decode cX8_stonesIn 2 = .ok (.iconst 1, 1) := by decide +kernel
theorem dX8_stonesIn_3 : decode cX8_stonesIn 3 = .ok (.istore_n 3, 1) := by decide +kernel
theorem dX8_stonesIn_4 : decode cX8_stonesIn 4 = .ok (.iload_n 3, 1) := by decide +kernel
theorem dX8_stonesIn_5 : decode cX8_stonesIn 5 = .ok (.bipush 10, 2) := by decide +kernel
theorem dX8_stonesIn_7 : decode cX8_stonesIn 7 = .ok (.if_icmp .ge 17, 3) := by decide +kernel
theorem dX8_stonesIn_10 : decode cX8_stonesIn 10 = .ok (.iload_n 2, 1) := by decide +kernel
theorem dX8_stonesIn_11 : decode cX8_stonesIn 11 = .ok (.aload_n 0, 1) := by decide +kernel
theorem dX8_stonesIn_12 : decode cX8_stonesIn 12 = .ok (.iload_n 1, 1) := by decide +kernel
theorem dX8_stonesIn_13 : decode cX8_stonesIn 13 = .ok (.iload_n 3, 1) := by decide +kernel
theorem dX8_stonesIn_14 : decode cX8_stonesIn 14 = .ok (.iadd, 1) := by decide +kernel
theorem dX8_stonesIn_15 : decode cX8_stonesIn 15 = .ok (.iaload, 1) := by decide +kernel
theorem dX8_stonesIn_16 : decode cX8_stonesIn 16 = .ok (.iadd, 1) := by decide +kernel
theorem dX8_stonesIn_17 : decode cX8_stonesIn 17 = .ok (.istore_n 2, 1) := by decide +kernel
theorem dX8_stonesIn_18 : decode cX8_stonesIn 18 = .ok (.iinc 3 1, 3) := by decide +kernel
theorem dX8_stonesIn_21 : decode cX8_stonesIn 21 = .ok (.goto (-17), 3) := by decide +kernel
theorem dX8_stonesIn_24 : decode cX8_stonesIn 24 = .ok (.iload_n 2, 1) := by decide +kernel
theorem dX8_stonesIn_25 : decode cX8_stonesIn 25 = .ok (.ireturn, 1) := by decide +kernel
theorem dX8_allStones_0 : decode cX8_allStones 0 = .ok (.iconst 0, 1) := by decide +kernel
theorem dX8_allStones_1 : decode cX8_allStones 1 = .ok (.istore_n 1, 1) := by decide +kernel
theorem dX8_allStones_2 : decode cX8_allStones 2 = .ok (.iconst 0, 1) := by decide +kernel
theorem dX8_allStones_3 : decode cX8_allStones 3 = .ok (.istore_n 2, 1) := by decide +kernel
theorem dX8_allStones_4 : decode cX8_allStones 4 = .ok (.iload_n 2, 1) := by decide +kernel
theorem dX8_allStones_5 : decode cX8_allStones 5 = .ok (.aload_n 0, 1) := by decide +kernel
theorem dX8_allStones_6 : decode cX8_allStones 6 = .ok (.getfield 7, 3) := by decide +kernel
theorem dX8_allStones_9 : decode cX8_allStones 9 = .ok (.iconst 0, 1) := by decide +kernel
theorem dX8_allStones_10 : decode cX8_allStones 10 = .ok (.iaload, 1) := by decide +kernel
theorem dX8_allStones_11 : decode cX8_allStones 11 = .ok (.if_icmp .ge 26, 3) := by decide +kernel
theorem dX8_allStones_14 : decode cX8_allStones 14 = .ok (.iload_n 1, 1) := by decide +kernel
theorem dX8_allStones_15 : decode cX8_allStones 15 = .ok (.aload_n 0, 1) := by decide +kernel
theorem dX8_allStones_16 : decode cX8_allStones 16 = .ok (.getfield 7, 3) := by decide +kernel
theorem dX8_allStones_19 : decode cX8_allStones 19 = .ok (.bipush 18, 2) := by decide +kernel
theorem dX8_allStones_21 : decode cX8_allStones 21 = .ok (.bipush 10, 2) := by decide +kernel
theorem dX8_allStones_23 : decode cX8_allStones 23 = .ok (.iload_n 2, 1) := by decide +kernel
theorem dX8_allStones_24 : decode cX8_allStones 24 = .ok (.imul, 1) := by decide +kernel
theorem dX8_allStones_25 : decode cX8_allStones 25 = .ok (.iadd, 1) := by decide +kernel
theorem dX8_allStones_26 : decode cX8_allStones 26 = .ok (.invokestatic 83, 3) := by decide +kernel
theorem dX8_allStones_29 : decode cX8_allStones 29 = .ok (.iadd, 1) := by decide +kernel
theorem dX8_allStones_30 : decode cX8_allStones 30 = .ok (.istore_n 1, 1) := by decide +kernel
theorem dX8_allStones_31 : decode cX8_allStones 31 = .ok (.iinc 2 1, 3) := by decide +kernel
theorem dX8_allStones_34 : decode cX8_allStones 34 = .ok (.goto (-30), 3) := by decide +kernel
theorem dX8_allStones_37 : decode cX8_allStones 37 = .ok (.iload_n 1, 1) := by decide +kernel
theorem dX8_allStones_38 : decode cX8_allStones 38 = .ok (.ireturn, 1) := by decide +kernel
theorem dX8_passWeek_0 : decode cX8_passWeek 0 = .ok (.iconst 0, 1) := by decide +kernel
theorem dX8_passWeek_1 : decode cX8_passWeek 1 = .ok (.istore_n 1, 1) := by decide +kernel
theorem dX8_passWeek_2 : decode cX8_passWeek 2 = .ok (.iload_n 1, 1) := by decide +kernel
theorem dX8_passWeek_3 : decode cX8_passWeek 3 = .ok (.aload_n 0, 1) := by decide +kernel
theorem dX8_passWeek_4 : decode cX8_passWeek 4 = .ok (.iconst 0, 1) := by decide +kernel
theorem dX8_passWeek_5 : decode cX8_passWeek 5 = .ok (.iaload, 1) := by decide +kernel
theorem dX8_passWeek_6 : decode cX8_passWeek 6 = .ok (.if_icmp .ge 38, 3) := by decide +kernel
theorem dX8_passWeek_9 : decode cX8_passWeek 9 = .ok (.aload_n 0, 1) := by decide +kernel
theorem dX8_passWeek_10 : decode cX8_passWeek 10 = .ok (.bipush 18, 2) := by decide +kernel
theorem dX8_passWeek_12 : decode cX8_passWeek 12 = .ok (.bipush 10, 2) := by decide +kernel
theorem dX8_passWeek_14 : decode cX8_passWeek 14 = .ok (.iload_n 1, 1) := by decide +kernel
theorem dX8_passWeek_15 : decode cX8_passWeek 15 = .ok (.imul, 1) := by decide +kernel
theorem dX8_passWeek_16 : decode cX8_passWeek 16 = .ok (.iadd, 1) := by decide +kernel
theorem dX8_passWeek_17 : decode cX8_passWeek 17 = .ok (.aload_n 0, 1) := by decide +kernel
theorem dX8_passWeek_18 : decode cX8_passWeek 18 = .ok (.bipush 8, 2) := by decide +kernel
theorem dX8_passWeek_20 : decode cX8_passWeek 20 = .ok (.iload_n 1, 1) := by decide +kernel
theorem dX8_passWeek_21 : decode cX8_passWeek 21 = .ok (.iadd, 1) := by decide +kernel
theorem dX8_passWeek_22 : decode cX8_passWeek 22 = .ok (.iaload, 1) := by decide +kernel
theorem dX8_passWeek_23 : decode cX8_passWeek 23 = .ok (.aload_n 0, 1) := by decide +kernel
theorem dX8_passWeek_24 : decode cX8_passWeek 24 = .ok (.iconst 3, 1) := by decide +kernel
theorem dX8_passWeek_25 : decode cX8_passWeek 25 = .ok (.iaload, 1) := by decide +kernel
theorem dX8_passWeek_26 : decode cX8_passWeek 26 = .ok (.aload_n 0, 1) := by decide +kernel
theorem dX8_passWeek_27 : decode cX8_passWeek 27 = .ok (.bipush 13, 2) := by decide +kernel
theorem dX8_passWeek_29 : decode cX8_passWeek 29 = .ok (.iload_n 1, 1) := by decide +kernel
theorem dX8_passWeek_30 : decode cX8_passWeek 30 = .ok (.iadd, 1) := by decide +kernel
theorem dX8_passWeek_31 : decode cX8_passWeek 31 = .ok (.iaload, 1) := by decide +kernel
theorem dX8_passWeek_32 : decode cX8_passWeek 32 = .ok (.invokestatic 87, 3) := by decide +kernel
theorem dX8_passWeek_35 : decode cX8_passWeek 35 = .ok (.invokestatic 90, 3) := by decide +kernel
theorem dX8_passWeek_38 : decode cX8_passWeek 38 = .ok (.iinc 1 1, 3) := by decide +kernel
theorem dX8_passWeek_41 : decode cX8_passWeek 41 = .ok (.goto (-39), 3) := by decide +kernel
theorem dX8_passWeek_44 : decode cX8_passWeek 44 = .ok (.aload_n 0, 1) := by decide +kernel
theorem dX8_passWeek_45 : decode cX8_passWeek 45 = .ok (.iconst 3, 1) := by decide +kernel
theorem dX8_passWeek_46 : decode cX8_passWeek 46 = .ok (.dup2, 1) := by decide +kernel
theorem dX8_passWeek_47 : decode cX8_passWeek 47 = .ok (.iaload, 1) := by decide +kernel
theorem dX8_passWeek_48 : decode cX8_passWeek 48 = .ok (.iconst 1, 1) := by decide +kernel
theorem dX8_passWeek_49 : decode cX8_passWeek 49 = .ok (.iadd, 1) := by decide +kernel
theorem dX8_passWeek_50 : decode cX8_passWeek 50 = .ok (.iastore, 1) := by decide +kernel
theorem dX8_passWeek_51 : decode cX8_passWeek 51 = .ok (.return_, 1) := by decide +kernel
theorem dX8_undoneAt_0 : decode cX8_undoneAt 0 = .ok (.iload_n 0, 1) := by decide +kernel
theorem dX8_undoneAt_1 : decode cX8_undoneAt 1 = .ok (.iconst 2, 1) := by decide +kernel
theorem dX8_undoneAt_2 : decode cX8_undoneAt 2 = .ok (.if_icmp .ge 9, 3) := by decide +kernel
theorem dX8_undoneAt_5 : decode cX8_undoneAt 5 = .ok (.iconst 3, 1) := by decide +kernel
theorem dX8_undoneAt_6 : decode cX8_undoneAt 6 = .ok (.iload_n 0, 1) := by decide +kernel
theorem dX8_undoneAt_7 : decode cX8_undoneAt 7 = .ok (.iadd, 1) := by decide +kernel
theorem dX8_undoneAt_8 : decode cX8_undoneAt 8 = .ok (.goto 41, 3) := by decide +kernel
theorem dX8_undoneAt_11 : decode cX8_undoneAt 11 = .ok (.iload_n 0, 1) := by decide +kernel
theorem dX8_undoneAt_12 : decode cX8_undoneAt 12 = .ok (.bipush 52, 2) := by decide +kernel
theorem dX8_undoneAt_14 : decode cX8_undoneAt 14 = .ok (.if_icmp .ge 12, 3) := by decide +kernel
theorem dX8_undoneAt_17 : decode cX8_undoneAt 17 = .ok (.bipush 18, 2) := by decide +kernel
theorem dX8_undoneAt_19 : decode cX8_undoneAt 19 = .ok (.iload_n 0, 1) := by decide +kernel
theorem dX8_undoneAt_20 : decode cX8_undoneAt 20 = .ok (.iadd, 1) := by decide +kernel
theorem dX8_undoneAt_21 : decode cX8_undoneAt 21 = .ok (.iconst 2, 1) := by decide +kernel
theorem dX8_undoneAt_22 : decode cX8_undoneAt 22 = .ok (.isub, 1) := by decide +kernel
theorem dX8_undoneAt_23 : decode cX8_undoneAt 23 = .ok (.goto 26, 3) := by decide +kernel
theorem dX8_undoneAt_26 : decode cX8_undoneAt 26 = .ok (.iload_n 0, 1) := by decide +kernel
theorem dX8_undoneAt_27 : decode cX8_undoneAt 27 = .ok (.bipush 56, 2) := by decide +kernel
theorem dX8_undoneAt_29 : decode cX8_undoneAt 29 = .ok (.if_icmp .ge 13, 3) := by decide +kernel
theorem dX8_undoneAt_32 : decode cX8_undoneAt 32 = .ok (.bipush 80, 2) := by decide +kernel
theorem dX8_undoneAt_34 : decode cX8_undoneAt 34 = .ok (.iload_n 0, 1) := by decide +kernel
theorem dX8_undoneAt_35 : decode cX8_undoneAt 35 = .ok (.iadd, 1) := by decide +kernel
theorem dX8_undoneAt_36 : decode cX8_undoneAt 36 = .ok (.bipush 52, 2) := by decide +kernel
theorem dX8_undoneAt_38 : decode cX8_undoneAt 38 = .ok (.isub, 1) := by decide +kernel
theorem dX8_undoneAt_39 : decode cX8_undoneAt 39 = .ok (.goto 10, 3) := by decide +kernel
theorem dX8_undoneAt_42 : decode cX8_undoneAt 42 = .ok (.bipush 88, 2) := by decide +kernel
theorem dX8_undoneAt_44 : decode cX8_undoneAt 44 = .ok (.iload_n 0, 1) := by decide +kernel
theorem dX8_undoneAt_45 : decode cX8_undoneAt 45 = .ok (.iadd, 1) := by decide +kernel
theorem dX8_undoneAt_46 : decode cX8_undoneAt 46 = .ok (.bipush 56, 2) := by decide +kernel
theorem dX8_undoneAt_48 : decode cX8_undoneAt 48 = .ok (.isub, 1) := by decide +kernel
theorem dX8_undoneAt_49 : decode cX8_undoneAt 49 = .ok (.ireturn, 1) := by decide +kernel
theorem dX8_remember_0 : decode cX8_remember 0 = .ok (.aload_n 0, 1) := by decide +kernel
theorem dX8_remember_1 : decode cX8_remember 1 = .ok (.getfield 94, 3) := by decide +kernel
theorem dX8_remember_4 : decode cX8_remember 4 = .ok (.bipush 8, 2) := by decide +kernel
theorem dX8_remember_6 : decode cX8_remember 6 = .ok (.if_icmp .ne 44, 3) := by decide +kernel
theorem dX8_remember_9 : decode cX8_remember 9 = .ok (.bipush 60, 2) := by decide +kernel
theorem dX8_remember_11 : decode cX8_remember 11 = .ok (.istore_n 1, 1) := by decide +kernel
theorem dX8_remember_12 : decode cX8_remember 12 = .ok (.iload_n 1, 1) := by decide +kernel
theorem dX8_remember_13 : decode cX8_remember 13 = .ok (.sipush 480, 3) := by decide +kernel
theorem dX8_remember_16 : decode cX8_remember 16 = .ok (.if_icmp .ge 24, 3) := by decide +kernel
theorem dX8_remember_19 : decode cX8_remember 19 = .ok (.aload_n 0, 1) := by decide +kernel
theorem dX8_remember_20 : decode cX8_remember 20 = .ok (.getfield 20, 3) := by decide +kernel
theorem dX8_remember_23 : decode cX8_remember 23 = .ok (.iload_n 1, 1) := by decide +kernel
theorem dX8_remember_24 : decode cX8_remember 24 = .ok (.bipush 60, 2) := by decide +kernel
theorem dX8_remember_26 : decode cX8_remember 26 = .ok (.isub, 1) := by decide +kernel
theorem dX8_remember_27 : decode cX8_remember 27 = .ok (.aload_n 0, 1) := by decide +kernel
theorem dX8_remember_28 : decode cX8_remember 28 = .ok (.getfield 20, 3) := by decide +kernel
theorem dX8_remember_31 : decode cX8_remember 31 = .ok (.iload_n 1, 1) := by decide +kernel
theorem dX8_remember_32 : decode cX8_remember 32 = .ok (.iaload, 1) := by decide +kernel
theorem dX8_remember_33 : decode cX8_remember 33 = .ok (.iastore, 1) := by decide +kernel
theorem dX8_remember_34 : decode cX8_remember 34 = .ok (.iinc 1 1, 3) := by decide +kernel
theorem dX8_remember_37 : decode cX8_remember 37 = .ok (.goto (-25), 3) := by decide +kernel
theorem dX8_remember_40 : decode cX8_remember 40 = .ok (.aload_n 0, 1) := by decide +kernel
theorem dX8_remember_41 : decode cX8_remember 41 = .ok (.dup, 1) := by decide +kernel
theorem dX8_remember_42 : decode cX8_remember 42 = .ok (.getfield 94, 3) := by decide +kernel
theorem dX8_remember_45 : decode cX8_remember 45 = .ok (.iconst 1, 1) := by decide +kernel
theorem dX8_remember_46 : decode cX8_remember 46 = .ok (.isub, 1) := by decide +kernel
theorem dX8_remember_47 : decode cX8_remember 47 = .ok (.putfield 94, 3) := by decide +kernel
theorem dX8_remember_50 : decode cX8_remember 50 = .ok (.iconst 0, 1) := by decide +kernel
theorem dX8_remember_51 : decode cX8_remember 51 = .ok (.istore_n 1, 1) := by decide +kernel
theorem dX8_remember_52 : decode cX8_remember 52 = .ok (.iload_n 1, 1) := by decide +kernel
theorem dX8_remember_53 : decode cX8_remember 53 = .ok (.bipush 60, 2) := by decide +kernel
theorem dX8_remember_55 : decode cX8_remember 55 = .ok (.if_icmp .ge 32, 3) := by decide +kernel
theorem dX8_remember_58 : decode cX8_remember 58 = .ok (.aload_n 0, 1) := by decide +kernel
theorem dX8_remember_59 : decode cX8_remember 59 = .ok (.getfield 20, 3) := by decide +kernel
theorem dX8_remember_62 : decode cX8_remember 62 = .ok (.bipush 60, 2) := by decide +kernel
theorem dX8_remember_64 : decode cX8_remember 64 = .ok (.aload_n 0, 1) := by decide +kernel
theorem dX8_remember_65 : decode cX8_remember 65 = .ok (.getfield 94, 3) := by decide +kernel
theorem dX8_remember_68 : decode cX8_remember 68 = .ok (.imul, 1) := by decide +kernel
theorem dX8_remember_69 : decode cX8_remember 69 = .ok (.iload_n 1, 1) := by decide +kernel
theorem dX8_remember_70 : decode cX8_remember 70 = .ok (.iadd, 1) := by decide +kernel
theorem dX8_remember_71 : decode cX8_remember 71 = .ok (.aload_n 0, 1) := by decide +kernel
theorem dX8_remember_72 : decode cX8_remember 72 = .ok (.getfield 7, 3) := by decide +kernel
theorem dX8_remember_75 : decode cX8_remember 75 = .ok (.iload_n 1, 1) := by decide +kernel
theorem dX8_remember_76 : decode cX8_remember 76 = .ok (.invokestatic 98, 3) := by decide +kernel
theorem dX8_remember_79 : decode cX8_remember 79 = .ok (.iaload, 1) := by decide +kernel
theorem dX8_remember_80 : decode cX8_remember 80 = .ok (.iastore, 1) := by decide +kernel
theorem dX8_remember_81 : decode cX8_remember 81 = .ok (.iinc 1 1, 3) := by decide +kernel
theorem dX8_remember_84 : decode cX8_remember 84 = .ok (.goto (-32), 3) := by decide +kernel
theorem dX8_remember_87 : decode cX8_remember 87 = .ok (.aload_n 0, 1) := by decide +kernel
theorem dX8_remember_88 : decode cX8_remember 88 = .ok (.dup, 1) := by decide +kernel
theorem dX8_remember_89 : decode cX8_remember 89 = .ok (.getfield 94, 3) := by decide +kernel
theorem dX8_remember_92 : decode cX8_remember 92 = .ok (.iconst 1, 1) := by decide +kernel
theorem dX8_remember_93 : decode cX8_remember 93 = .ok (.iadd, 1) := by decide +kernel
theorem dX8_remember_94 : decode cX8_remember 94 = .ok (.putfield 94, 3) := by decide +kernel
theorem dX8_remember_97 : decode cX8_remember 97 = .ok (.return_, 1) := by decide +kernel
theorem dX8_emptyAll_0 : decode cX8_emptyAll 0 = .ok (.iconst 0, 1) := by decide +kernel
theorem dX8_emptyAll_1 : decode cX8_emptyAll 1 = .ok (.istore_n 2, 1) := by decide +kernel
theorem dX8_emptyAll_2 : decode cX8_emptyAll 2 = .ok (.iload_n 2, 1) := by decide +kernel
theorem dX8_emptyAll_3 : decode cX8_emptyAll 3 = .ok (.sipush 168, 3) := by decide +kernel
theorem dX8_emptyAll_6 : decode cX8_emptyAll 6 = .ok (.if_icmp .ge 16, 3) := by decide +kernel
theorem dX8_emptyAll_9 : decode cX8_emptyAll 9 = .ok (.aload_n 0, 1) := by decide +kernel
theorem dX8_emptyAll_10 : decode cX8_emptyAll 10 = .ok (.getfield 7, 3) := by decide +kernel
theorem dX8_emptyAll_13 : decode cX8_emptyAll 13 = .ok (.iload_n 2, 1) := by decide +kernel
theorem dX8_emptyAll_14 : decode cX8_emptyAll 14 = .ok (.iconst 0, 1) := by decide +kernel
theorem dX8_emptyAll_15 : decode cX8_emptyAll 15 = .ok (.iastore, 1) := by decide +kernel
theorem dX8_emptyAll_16 : decode cX8_emptyAll 16 = .ok (.iinc 2 1, 3) := by decide +kernel
theorem dX8_emptyAll_19 : decode cX8_emptyAll 19 = .ok (.goto (-17), 3) := by decide +kernel
theorem dX8_emptyAll_22 : decode cX8_emptyAll 22 = .ok (.aload_n 0, 1) := by decide +kernel
theorem dX8_emptyAll_23 : decode cX8_emptyAll 23 = .ok (.getfield 7, 3) := by decide +kernel
theorem dX8_emptyAll_26 : decode cX8_emptyAll 26 = .ok (.iconst 4, 1) := by decide +kernel
theorem dX8_emptyAll_27 : decode cX8_emptyAll 27 = .ok (.iload_n 1, 1) := by decide +kernel
theorem dX8_emptyAll_28 : decode cX8_emptyAll 28 = .ok (.iastore, 1) := by decide +kernel
theorem dX8_emptyAll_29 : decode cX8_emptyAll 29 = .ok (.aload_n 0, 1) := by decide +kernel
theorem dX8_emptyAll_30 : decode cX8_emptyAll 30 = .ok (.iconst 0, 1) := by decide +kernel
theorem dX8_emptyAll_31 : decode cX8_emptyAll 31 = .ok (.putfield 94, 3) := by decide +kernel
theorem dX8_emptyAll_34 : decode cX8_emptyAll 34 = .ok (.return_, 1) := by decide +kernel
theorem dX8_store_0 : decode cX8_store 0 = .ok (.iload_n 1, 1) := by decide +kernel
theorem dX8_store_1 : decode cX8_store 1 = .ok (.i2l, 1) := by decide +kernel
theorem dX8_store_2 : decode cX8_store 2 = .ok (.lconst 0, 1) := by decide +kernel
theorem dX8_store_3 : decode cX8_store 3 = .ok (.ldc2_w 101, 3) := by decide +kernel
theorem dX8_store_6 : decode cX8_store 6 = .ok (.invokestatic 60, 3) := by decide +kernel
theorem dX8_store_9 : decode cX8_store 9 = .ok (.ifCond .ne 8, 3) := by decide +kernel
theorem dX8_store_12 : decode cX8_store 12 = .ok (.aload_n 0, 1) := by decide +kernel
theorem dX8_store_13 : decode cX8_store 13 = .ok (.invokevirtual 103, 3) := by decide +kernel
theorem dX8_store_16 : decode cX8_store 16 = .ok (.ireturn, 1) := by decide +kernel
theorem dX8_store_17 : decode cX8_store 17 = .ok (.aload_n 0, 1) := by decide +kernel
theorem dX8_store_18 : decode cX8_store 18 = .ok (.getfield 7, 3) := by decide +kernel
theorem dX8_store_21 : decode cX8_store 21 = .ok (.iconst 0, 1) := by decide +kernel
theorem dX8_store_22 : decode cX8_store 22 = .ok (.iaload, 1) := by decide +kernel
theorem dX8_store_23 : decode cX8_store 23 = .ok (.istore_n 2, 1) := by decide +kernel
theorem dX8_store_24 : decode cX8_store 24 = .ok (.aload_n 0, 1) := by decide +kernel
theorem dX8_store_25 : decode cX8_store 25 = .ok (.iload_n 1, 1) := by decide +kernel
theorem dX8_store_26 : decode cX8_store 26 = .ok (.invokevirtual 107, 3) := by decide +kernel
theorem dX8_store_29 : decode cX8_store 29 = .ok (.iload_n 2, 1) := by decide +kernel
theorem dX8_store_30 : decode cX8_store 30 = .ok (.ireturn, 1) := by decide +kernel
theorem dX8_cellar_0 : decode cX8_cellar 0 = .ok (.iload_n 1, 1) := by decide +kernel
theorem dX8_cellar_1 : decode cX8_cellar 1 = .ok (.i2l, 1) := by decide +kernel
theorem dX8_cellar_2 : decode cX8_cellar 2 = .ok (.lconst 0, 1) := by decide +kernel
theorem dX8_cellar_3 : decode cX8_cellar 3 = .ok (.ldc2_w 111, 3) := by decide +kernel
theorem dX8_cellar_6 : decode cX8_cellar 6 = .ok (.invokestatic 60, 3) := by decide +kernel
theorem dX8_cellar_9 : decode cX8_cellar 9 = .ok (.ifCond .eq 15, 3) := by decide +kernel
theorem dX8_cellar_12 : decode cX8_cellar 12 = .ok (.iload_n 2, 1) := by decide +kernel
theorem dX8_cellar_13 : decode cX8_cellar 13 = .ok (.i2l, 1) := by decide +kernel
theorem dX8_cellar_14 : decode cX8_cellar 14 = .ok (.lconst 0, 1) := by decide +kernel
theorem dX8_cellar_15 : decode cX8_cellar 15 = .ok (.ldc2_w 101, 3) := by decide +kernel
theorem dX8_cellar_18 : decode cX8_cellar 18 = .ok (.invokestatic 60, 3) := by decide +kernel
theorem dX8_cellar_21 : decode cX8_cellar 21 = .ok (.ifCond .ne 8, 3) := by decide +kernel
theorem dX8_cellar_24 : decode cX8_cellar 24 = .ok (.aload_n 0, 1) := by decide +kernel
theorem dX8_cellar_25 : decode cX8_cellar 25 = .ok (.invokevirtual 103, 3) := by decide +kernel
theorem dX8_cellar_28 : decode cX8_cellar 28 = .ok (.ireturn, 1) := by decide +kernel
theorem dX8_cellar_29 : decode cX8_cellar 29 = .ok (.aload_n 0, 1) := by decide +kernel
theorem dX8_cellar_30 : decode cX8_cellar 30 = .ok (.getfield 7, 3) := by decide +kernel
theorem dX8_cellar_33 : decode cX8_cellar 33 = .ok (.iconst 0, 1) := by decide +kernel
theorem dX8_cellar_34 : decode cX8_cellar 34 = .ok (.iaload, 1) := by decide +kernel
theorem dX8_cellar_35 : decode cX8_cellar 35 = .ok (.iconst 5, 1) := by decide +kernel
theorem dX8_cellar_36 : decode cX8_cellar 36 = .ok (.if_icmp .ne 8, 3) := by decide +kernel
theorem dX8_cellar_39 : decode cX8_cellar 39 = .ok (.aload_n 0, 1) := by decide +kernel
theorem dX8_cellar_40 : decode cX8_cellar 40 = .ok (.invokevirtual 113, 3) := by decide +kernel
theorem dX8_cellar_43 : decode cX8_cellar 43 = .ok (.ireturn, 1) := by decide +kernel
theorem dX8_cellar_44 : decode cX8_cellar 44 = .ok (.aload_n 0, 1) := by decide +kernel
theorem dX8_cellar_45 : decode cX8_cellar 45 = .ok (.getfield 7, 3) := by decide +kernel
theorem dX8_cellar_48 : decode cX8_cellar 48 = .ok (.iconst 0, 1) := by decide +kernel
theorem dX8_cellar_49 : decode cX8_cellar 49 = .ok (.iaload, 1) := by decide +kernel
theorem dX8_cellar_50 : decode cX8_cellar 50 = .ok (.istore_n 3, 1) := by decide +kernel
theorem dX8_cellar_51 : decode cX8_cellar 51 = .ok (.aload_n 0, 1) := by decide +kernel
theorem dX8_cellar_52 : decode cX8_cellar 52 = .ok (.getfield 7, 3) := by decide +kernel
theorem dX8_cellar_55 : decode cX8_cellar 55 = .ok (.bipush 8, 2) := by decide +kernel
theorem dX8_cellar_57 : decode cX8_cellar 57 = .ok (.iload_n 3, 1) := by decide +kernel
theorem dX8_cellar_58 : decode cX8_cellar 58 = .ok (.iadd, 1) := by decide +kernel
theorem dX8_cellar_59 : decode cX8_cellar 59 = .ok (.iload_n 1, 1) := by decide +kernel
theorem dX8_cellar_60 : decode cX8_cellar 60 = .ok (.iastore, 1) := by decide +kernel
theorem dX8_cellar_61 : decode cX8_cellar 61 = .ok (.aload_n 0, 1) := by decide +kernel
theorem dX8_cellar_62 : decode cX8_cellar 62 = .ok (.getfield 7, 3) := by decide +kernel
theorem dX8_cellar_65 : decode cX8_cellar 65 = .ok (.bipush 13, 2) := by decide +kernel
theorem dX8_cellar_67 : decode cX8_cellar 67 = .ok (.iload_n 3, 1) := by decide +kernel
theorem dX8_cellar_68 : decode cX8_cellar 68 = .ok (.iadd, 1) := by decide +kernel
theorem dX8_cellar_69 : decode cX8_cellar 69 = .ok (.iload_n 2, 1) := by decide +kernel
theorem dX8_cellar_70 : decode cX8_cellar 70 = .ok (.iastore, 1) := by decide +kernel
theorem dX8_cellar_71 : decode cX8_cellar 71 = .ok (.aload_n 0, 1) := by decide +kernel
theorem dX8_cellar_72 : decode cX8_cellar 72 = .ok (.getfield 7, 3) := by decide +kernel
theorem dX8_cellar_75 : decode cX8_cellar 75 = .ok (.iconst 0, 1) := by decide +kernel
theorem dX8_cellar_76 : decode cX8_cellar 76 = .ok (.dup2, 1) := by decide +kernel
theorem dX8_cellar_77 : decode cX8_cellar 77 = .ok (.iaload, 1) := by decide +kernel
theorem dX8_cellar_78 : decode cX8_cellar 78 = .ok (.iconst 1, 1) := by decide +kernel
theorem dX8_cellar_79 : decode cX8_cellar 79 = .ok (.iadd, 1) := by decide +kernel
theorem dX8_cellar_80 : decode cX8_cellar 80 = .ok (.iastore, 1) := by decide +kernel
theorem dX8_cellar_81 : decode cX8_cellar 81 = .ok (.aload_n 0, 1) := by decide +kernel
theorem dX8_cellar_82 : decode cX8_cellar 82 = .ok (.iconst 0, 1) := by decide +kernel
theorem dX8_cellar_83 : decode cX8_cellar 83 = .ok (.putfield 94, 3) := by decide +kernel
theorem dX8_cellar_86 : decode cX8_cellar 86 = .ok (.iload_n 3, 1) := by decide +kernel
theorem dX8_cellar_87 : decode cX8_cellar 87 = .ok (.ireturn, 1) := by decide +kernel
theorem dX8_stones_0 : decode cX8_stones 0 = .ok (.aload_n 0, 1) := by decide +kernel
theorem dX8_stones_1 : decode cX8_stones 1 = .ok (.iload_n 1, 1) := by decide +kernel
theorem dX8_stones_2 : decode cX8_stones 2 = .ok (.invokevirtual 116, 3) := by decide +kernel
theorem dX8_stones_5 : decode cX8_stones 5 = .ok (.ifCond .eq 27, 3) := by decide +kernel
theorem dX8_stones_8 : decode cX8_stones 8 = .ok (.iload_n 2, 1) := by decide +kernel
theorem dX8_stones_9 : decode cX8_stones 9 = .ok (.i2l, 1) := by decide +kernel
theorem dX8_stones_10 : decode cX8_stones 10 = .ok (.lconst 1, 1) := by decide +kernel
theorem dX8_stones_11 : decode cX8_stones 11 = .ok (.ldc2_w 101, 3) := by decide +kernel
theorem dX8_stones_14 : decode cX8_stones 14 = .ok (.invokestatic 60, 3) := by decide +kernel
theorem dX8_stones_17 : decode cX8_stones 17 = .ok (.ifCond .eq 15, 3) := by decide +kernel
theorem dX8_stones_20 : decode cX8_stones 20 = .ok (.iload_n 3, 1) := by decide +kernel
theorem dX8_stones_21 : decode cX8_stones 21 = .ok (.i2l, 1) := by decide +kernel
theorem dX8_stones_22 : decode cX8_stones 22 = .ok (.lconst 1, 1) := by decide +kernel
theorem dX8_stones_23 : decode cX8_stones 23 = .ok (.ldc2_w 120, 3) := by decide +kernel
theorem dX8_stones_26 : decode cX8_stones 26 = .ok (.invokestatic 60, 3) := by decide +kernel
theorem dX8_stones_29 : decode cX8_stones 29 = .ok (.ifCond .ne 8, 3) := by decide +kernel
theorem dX8_stones_32 : decode cX8_stones 32 = .ok (.aload_n 0, 1) := by decide +kernel
theorem dX8_stones_33 : decode cX8_stones 33 = .ok (.invokevirtual 103, 3) := by decide +kernel
theorem dX8_stones_36 : decode cX8_stones 36 = .ok (.ireturn, 1) := by decide +kernel
theorem dX8_stones_37 : decode cX8_stones 37 = .ok (.bipush 18, 2) := by decide +kernel
theorem dX8_stones_39 : decode cX8_stones 39 = .ok (.bipush 10, 2) := by decide +kernel
theorem dX8_stones_41 : decode cX8_stones 41 = .ok (.iload_n 1, 1) := by decide +kernel
theorem dX8_stones_42 : decode cX8_stones 42 = .ok (.imul, 1) := by decide +kernel
theorem dX8_stones_43 : decode cX8_stones 43 = .ok (.iadd, 1) := by decide +kernel
theorem dX8_stones_44 : decode cX8_stones 44 = .ok (.iload_n 2, 1) := by decide +kernel
theorem dX8_stones_45 : decode cX8_stones 45 = .ok (.iadd, 1) := by decide +kernel
theorem dX8_stones_46 : decode cX8_stones 46 = .ok (.istore 4, 2) := by decide +kernel
theorem dX8_stones_48 : decode cX8_stones 48 = .ok (.aload_n 0, 1) := by decide +kernel
theorem dX8_stones_49 : decode cX8_stones 49 = .ok (.getfield 7, 3) := by decide +kernel
theorem dX8_stones_52 : decode cX8_stones 52 = .ok (.iload 4, 2) := by decide +kernel
theorem dX8_stones_54 : decode cX8_stones 54 = .ok (.aload_n 0, 1) := by decide +kernel
theorem dX8_stones_55 : decode cX8_stones 55 = .ok (.getfield 7, 3) := by decide +kernel
theorem dX8_stones_58 : decode cX8_stones 58 = .ok (.iload 4, 2) := by decide +kernel
theorem dX8_stones_60 : decode cX8_stones 60 = .ok (.iaload, 1) := by decide +kernel
theorem dX8_stones_61 : decode cX8_stones 61 = .ok (.iload_n 3, 1) := by decide +kernel
theorem dX8_stones_62 : decode cX8_stones 62 = .ok (.iadd, 1) := by decide +kernel
theorem dX8_stones_63 : decode cX8_stones 63 = .ok (.bipush 99, 2) := by decide +kernel
theorem dX8_stones_65 : decode cX8_stones 65 = .ok (.if_icmp .ge 15, 3) := by decide +kernel
theorem dX8_stones_68 : decode cX8_stones 68 = .ok (.aload_n 0, 1) := by decide +kernel
theorem dX8_stones_69 : decode cX8_stones 69 = .ok (.getfield 7, 3) := by decide +kernel
theorem dX8_stones_72 : decode cX8_stones 72 = .ok (.iload 4, 2) := by decide +kernel
theorem dX8_stones_74 : decode cX8_stones 74 = .ok (.iaload, 1) := by decide +kernel
theorem dX8_stones_75 : decode cX8_stones 75 = .ok (.iload_n 3, 1) := by decide +kernel
theorem dX8_stones_76 : decode cX8_stones 76 = .ok (.iadd, 1) := by decide +kernel
theorem dX8_stones_77 : decode cX8_stones 77 = .ok (.goto 5, 3) := by decide +kernel
theorem dX8_stones_80 : decode cX8_stones 80 = .ok (.bipush 99, 2) := by decide +kernel
theorem dX8_stones_82 : decode cX8_stones 82 = .ok (.iastore, 1) := by decide +kernel
theorem dX8_stones_83 : decode cX8_stones 83 = .ok (.aload_n 0, 1) := by decide +kernel
theorem dX8_stones_84 : decode cX8_stones 84 = .ok (.iconst 0, 1) := by decide +kernel
theorem dX8_stones_85 : decode cX8_stones 85 = .ok (.putfield 94, 3) := by decide +kernel
theorem dX8_stones_88 : decode cX8_stones 88 = .ok (.aload_n 0, 1) := by decide +kernel
theorem dX8_stones_89 : decode cX8_stones 89 = .ok (.getfield 7, 3) := by decide +kernel
theorem dX8_stones_92 : decode cX8_stones 92 = .ok (.iload 4, 2) := by decide +kernel
theorem dX8_stones_94 : decode cX8_stones 94 = .ok (.iaload, 1) := by decide +kernel
theorem dX8_stones_95 : decode cX8_stones 95 = .ok (.ireturn, 1) := by decide +kernel
theorem dX8_straw_0 : decode cX8_straw 0 = .ok (.aload_n 0, 1) := by decide +kernel
theorem dX8_straw_1 : decode cX8_straw 1 = .ok (.iload_n 1, 1) := by decide +kernel
theorem dX8_straw_2 : decode cX8_straw 2 = .ok (.invokevirtual 116, 3) := by decide +kernel
theorem dX8_straw_5 : decode cX8_straw 5 = .ok (.ifCond .eq 15, 3) := by decide +kernel
theorem dX8_straw_8 : decode cX8_straw 8 = .ok (.iload_n 2, 1) := by decide +kernel
theorem dX8_straw_9 : decode cX8_straw 9 = .ok (.i2l, 1) := by decide +kernel
theorem dX8_straw_10 : decode cX8_straw 10 = .ok (.lconst 0, 1) := by decide +kernel
theorem dX8_straw_11 : decode cX8_straw 11 = .ok (.ldc2_w 101, 3) := by decide +kernel
theorem dX8_straw_14 : decode cX8_straw 14 = .ok (.invokestatic 60, 3) := by decide +kernel
theorem dX8_straw_17 : decode cX8_straw 17 = .ok (.ifCond .ne 8, 3) := by decide +kernel
theorem dX8_straw_20 : decode cX8_straw 20 = .ok (.aload_n 0, 1) := by decide +kernel
theorem dX8_straw_21 : decode cX8_straw 21 = .ok (.invokevirtual 103, 3) := by decide +kernel
theorem dX8_straw_24 : decode cX8_straw 24 = .ok (.ireturn, 1) := by decide +kernel
theorem dX8_straw_25 : decode cX8_straw 25 = .ok (.aload_n 0, 1) := by decide +kernel
theorem dX8_straw_26 : decode cX8_straw 26 = .ok (.getfield 7, 3) := by decide +kernel
theorem dX8_straw_29 : decode cX8_straw 29 = .ok (.bipush 13, 2) := by decide +kernel
theorem dX8_straw_31 : decode cX8_straw 31 = .ok (.iload_n 1, 1) := by decide +kernel
theorem dX8_straw_32 : decode cX8_straw 32 = .ok (.iadd, 1) := by decide +kernel
theorem dX8_straw_33 : decode cX8_straw 33 = .ok (.iaload, 1) := by decide +kernel
theorem dX8_straw_34 : decode cX8_straw 34 = .ok (.istore_n 3, 1) := by decide +kernel
theorem dX8_straw_35 : decode cX8_straw 35 = .ok (.aload_n 0, 1) := by decide +kernel
theorem dX8_straw_36 : decode cX8_straw 36 = .ok (.getfield 7, 3) := by decide +kernel
theorem dX8_straw_39 : decode cX8_straw 39 = .ok (.bipush 13, 2) := by decide +kernel
theorem dX8_straw_41 : decode cX8_straw 41 = .ok (.iload_n 1, 1) := by decide +kernel
theorem dX8_straw_42 : decode cX8_straw 42 = .ok (.iadd, 1) := by decide +kernel
theorem dX8_straw_43 : decode cX8_straw 43 = .ok (.iload_n 2, 1) := by decide +kernel
theorem dX8_straw_44 : decode cX8_straw 44 = .ok (.iastore, 1) := by decide +kernel
theorem dX8_straw_45 : decode cX8_straw 45 = .ok (.aload_n 0, 1) := by decide +kernel
theorem dX8_straw_46 : decode cX8_straw 46 = .ok (.iconst 0, 1) := by decide +kernel
theorem dX8_straw_47 : decode cX8_straw 47 = .ok (.putfield 94, 3) := by decide +kernel
theorem dX8_straw_50 : decode cX8_straw 50 = .ok (.iload_n 3, 1) := by decide +kernel
theorem dX8_straw_51 : decode cX8_straw 51 = .ok (.ireturn, 1) := by decide +kernel
theorem dX8_slinger_0 : decode cX8_slinger 0 = .ok (.iload_n 1, 1) := by decide +kernel
theorem dX8_slinger_1 : decode cX8_slinger 1 = .ok (.i2l, 1) := by decide +kernel
theorem dX8_slinger_2 : decode cX8_slinger 2 = .ok (.lconst 0, 1) := by decide +kernel
theorem dX8_slinger_3 : decode cX8_slinger 3 = .ok (.ldc2_w 111, 3) := by decide +kernel
theorem dX8_slinger_6 : decode cX8_slinger 6 = .ok (.invokestatic 60, 3) := by decide +kernel
theorem dX8_slinger_9 : decode cX8_slinger 9 = .ok (.ifCond .eq 15, 3) := by decide +kernel
theorem dX8_slinger_12 : decode cX8_slinger 12 = .ok (.iload_n 2, 1) := by decide +kernel
theorem dX8_slinger_13 : decode cX8_slinger 13 = .ok (.i2l, 1) := by decide +kernel
theorem dX8_slinger_14 : decode cX8_slinger 14 = .ok (.lconst 0, 1) := by decide +kernel
theorem dX8_slinger_15 : decode cX8_slinger 15 = .ok (.ldc2_w 101, 3) := by decide +kernel
theorem dX8_slinger_18 : decode cX8_slinger 18 = .ok (.invokestatic 60, 3) := by decide +kernel
theorem dX8_slinger_21 : decode cX8_slinger 21 = .ok (.ifCond .ne 8, 3) := by decide +kernel
theorem dX8_slinger_24 : decode cX8_slinger 24 = .ok (.aload_n 0, 1) := by decide +kernel
theorem dX8_slinger_25 : decode cX8_slinger 25 = .ok (.invokevirtual 103, 3) := by decide +kernel
theorem dX8_slinger_28 : decode cX8_slinger 28 = .ok (.ireturn, 1) := by decide +kernel
theorem dX8_slinger_29 : decode cX8_slinger 29 = .ok (.aload_n 0, 1) := by decide +kernel
theorem dX8_slinger_30 : decode cX8_slinger 30 = .ok (.getfield 7, 3) := by decide +kernel
theorem dX8_slinger_33 : decode cX8_slinger 33 = .ok (.iconst 1, 1) := by decide +kernel
theorem dX8_slinger_34 : decode cX8_slinger 34 = .ok (.iaload, 1) := by decide +kernel
theorem dX8_slinger_35 : decode cX8_slinger 35 = .ok (.bipush 6, 2) := by decide +kernel
theorem dX8_slinger_37 : decode cX8_slinger 37 = .ok (.if_icmp .ne 8, 3) := by decide +kernel
theorem dX8_slinger_40 : decode cX8_slinger 40 = .ok (.aload_n 0, 1) := by decide +kernel
theorem dX8_slinger_41 : decode cX8_slinger 41 = .ok (.invokevirtual 113, 3) := by decide +kernel
theorem dX8_slinger_44 : decode cX8_slinger 44 = .ok (.ireturn, 1) := by decide +kernel
theorem dX8_slinger_45 : decode cX8_slinger 45 = .ok (.aload_n 0, 1) := by decide +kernel
theorem dX8_slinger_46 : decode cX8_slinger 46 = .ok (.getfield 7, 3) := by decide +kernel
theorem dX8_slinger_49 : decode cX8_slinger 49 = .ok (.iconst 1, 1) := by decide +kernel
theorem dX8_slinger_50 : decode cX8_slinger 50 = .ok (.iaload, 1) := by decide +kernel
theorem dX8_slinger_51 : decode cX8_slinger 51 = .ok (.istore_n 3, 1) := by decide +kernel
theorem dX8_slinger_52 : decode cX8_slinger 52 = .ok (.aload_n 0, 1) := by decide +kernel
theorem dX8_slinger_53 : decode cX8_slinger 53 = .ok (.getfield 7, 3) := by decide +kernel
theorem dX8_slinger_56 : decode cX8_slinger 56 = .ok (.bipush 68, 2) := by decide +kernel
theorem dX8_slinger_58 : decode cX8_slinger 58 = .ok (.iload_n 3, 1) := by decide +kernel
theorem dX8_slinger_59 : decode cX8_slinger 59 = .ok (.iadd, 1) := by decide +kernel
theorem dX8_slinger_60 : decode cX8_slinger 60 = .ok (.iload_n 1, 1) := by decide +kernel
theorem dX8_slinger_61 : decode cX8_slinger 61 = .ok (.iastore, 1) := by decide +kernel
theorem dX8_slinger_62 : decode cX8_slinger 62 = .ok (.aload_n 0, 1) := by decide +kernel
theorem dX8_slinger_63 : decode cX8_slinger 63 = .ok (.getfield 7, 3) := by decide +kernel
theorem dX8_slinger_66 : decode cX8_slinger 66 = .ok (.bipush 74, 2) := by decide +kernel
theorem dX8_slinger_68 : decode cX8_slinger 68 = .ok (.iload_n 3, 1) := by decide +kernel
theorem dX8_slinger_69 : decode cX8_slinger 69 = .ok (.iadd, 1) := by decide +kernel
theorem dX8_slinger_70 : decode cX8_slinger 70 = .ok (.iload_n 2, 1) := by decide +kernel
theorem dX8_slinger_71 : decode cX8_slinger 71 = .ok (.iastore, 1) := by decide +kernel
theorem dX8_slinger_72 : decode cX8_slinger 72 = .ok (.aload_n 0, 1) := by decide +kernel
theorem dX8_slinger_73 : decode cX8_slinger 73 = .ok (.getfield 7, 3) := by decide +kernel
theorem dX8_slinger_76 : decode cX8_slinger 76 = .ok (.iconst 1, 1) := by decide +kernel
theorem dX8_slinger_77 : decode cX8_slinger 77 = .ok (.dup2, 1) := by decide +kernel
theorem dX8_slinger_78 : decode cX8_slinger 78 = .ok (.iaload, 1) := by decide +kernel
theorem dX8_slinger_79 : decode cX8_slinger 79 = .ok (.iconst 1, 1) := by decide +kernel
theorem dX8_slinger_80 : decode cX8_slinger 80 = .ok (.iadd, 1) := by decide +kernel
theorem dX8_slinger_81 : decode cX8_slinger 81 = .ok (.iastore, 1) := by decide +kernel
theorem dX8_slinger_82 : decode cX8_slinger 82 = .ok (.aload_n 0, 1) := by decide +kernel
theorem dX8_slinger_83 : decode cX8_slinger 83 = .ok (.iconst 0, 1) := by decide +kernel
theorem dX8_slinger_84 : decode cX8_slinger 84 = .ok (.putfield 94, 3) := by decide +kernel
theorem dX8_slinger_87 : decode cX8_slinger 87 = .ok (.iload_n 3, 1) := by decide +kernel
theorem dX8_slinger_88 : decode cX8_slinger 88 = .ok (.ireturn, 1) := by decide +kernel
theorem dX8_cloud_0 : decode cX8_cloud 0 = .ok (.iload_n 1, 1) := by decide +kernel
theorem dX8_cloud_1 : decode cX8_cloud 1 = .ok (.i2l, 1) := by decide +kernel
theorem dX8_cloud_2 : decode cX8_cloud 2 = .ok (.lconst 1, 1) := by decide +kernel
theorem dX8_cloud_3 : decode cX8_cloud 3 = .ok (.ldc2_w 122, 3) := by decide +kernel
theorem dX8_cloud_6 : decode cX8_cloud 6 = .ok (.invokestatic 60, 3) := by decide +kernel
theorem dX8_cloud_9 : decode cX8_cloud 9 = .ok (.ifCond .eq 15, 3) := by decide +kernel
theorem dX8_cloud_12 : decode cX8_cloud 12 = .ok (.iload_n 2, 1) := by decide +kernel
theorem dX8_cloud_13 : decode cX8_cloud 13 = .ok (.i2l, 1) := by decide +kernel
theorem dX8_cloud_14 : decode cX8_cloud 14 = .ok (.lconst 1, 1) := by decide +kernel
theorem dX8_cloud_15 : decode cX8_cloud 15 = .ok (.ldc2_w 124, 3) := by decide +kernel
theorem dX8_cloud_18 : decode cX8_cloud 18 = .ok (.invokestatic 60, 3) := by decide +kernel
theorem dX8_cloud_21 : decode cX8_cloud 21 = .ok (.ifCond .ne 8, 3) := by decide +kernel
theorem dX8_cloud_24 : decode cX8_cloud 24 = .ok (.aload_n 0, 1) := by decide +kernel
theorem dX8_cloud_25 : decode cX8_cloud 25 = .ok (.invokevirtual 103, 3) := by decide +kernel
theorem dX8_cloud_28 : decode cX8_cloud 28 = .ok (.ireturn, 1) := by decide +kernel
theorem dX8_cloud_29 : decode cX8_cloud 29 = .ok (.aload_n 0, 1) := by decide +kernel
theorem dX8_cloud_30 : decode cX8_cloud 30 = .ok (.getfield 7, 3) := by decide +kernel
theorem dX8_cloud_33 : decode cX8_cloud 33 = .ok (.iconst 2, 1) := by decide +kernel
theorem dX8_cloud_34 : decode cX8_cloud 34 = .ok (.iaload, 1) := by decide +kernel
theorem dX8_cloud_35 : decode cX8_cloud 35 = .ok (.iconst 4, 1) := by decide +kernel
theorem dX8_cloud_36 : decode cX8_cloud 36 = .ok (.if_icmp .ne 8, 3) := by decide +kernel
theorem dX8_cloud_39 : decode cX8_cloud 39 = .ok (.aload_n 0, 1) := by decide +kernel
theorem dX8_cloud_40 : decode cX8_cloud 40 = .ok (.invokevirtual 113, 3) := by decide +kernel
theorem dX8_cloud_43 : decode cX8_cloud 43 = .ok (.ireturn, 1) := by decide +kernel
theorem dX8_cloud_44 : decode cX8_cloud 44 = .ok (.aload_n 0, 1) := by decide +kernel
theorem dX8_cloud_45 : decode cX8_cloud 45 = .ok (.getfield 7, 3) := by decide +kernel
theorem dX8_cloud_48 : decode cX8_cloud 48 = .ok (.iconst 2, 1) := by decide +kernel
theorem dX8_cloud_49 : decode cX8_cloud 49 = .ok (.iaload, 1) := by decide +kernel
theorem dX8_cloud_50 : decode cX8_cloud 50 = .ok (.istore_n 3, 1) := by decide +kernel
theorem dX8_cloud_51 : decode cX8_cloud 51 = .ok (.aload_n 0, 1) := by decide +kernel
theorem dX8_cloud_52 : decode cX8_cloud 52 = .ok (.getfield 7, 3) := by decide +kernel
theorem dX8_cloud_55 : decode cX8_cloud 55 = .ok (.bipush 80, 2) := by decide +kernel
theorem dX8_cloud_57 : decode cX8_cloud 57 = .ok (.iload_n 3, 1) := by decide +kernel
theorem dX8_cloud_58 : decode cX8_cloud 58 = .ok (.iadd, 1) := by decide +kernel
theorem dX8_cloud_59 : decode cX8_cloud 59 = .ok (.iload_n 1, 1) := by decide +kernel
theorem dX8_cloud_60 : decode cX8_cloud 60 = .ok (.iastore, 1) := by decide +kernel
theorem dX8_cloud_61 : decode cX8_cloud 61 = .ok (.aload_n 0, 1) := by decide +kernel
theorem dX8_cloud_62 : decode cX8_cloud 62 = .ok (.getfield 7, 3) := by decide +kernel
theorem dX8_cloud_65 : decode cX8_cloud 65 = .ok (.bipush 84, 2) := by decide +kernel
theorem dX8_cloud_67 : decode cX8_cloud 67 = .ok (.iload_n 3, 1) := by decide +kernel
theorem dX8_cloud_68 : decode cX8_cloud 68 = .ok (.iadd, 1) := by decide +kernel
theorem dX8_cloud_69 : decode cX8_cloud 69 = .ok (.iload_n 2, 1) := by decide +kernel
theorem dX8_cloud_70 : decode cX8_cloud 70 = .ok (.iastore, 1) := by decide +kernel
theorem dX8_cloud_71 : decode cX8_cloud 71 = .ok (.aload_n 0, 1) := by decide +kernel
theorem dX8_cloud_72 : decode cX8_cloud 72 = .ok (.getfield 7, 3) := by decide +kernel
theorem dX8_cloud_75 : decode cX8_cloud 75 = .ok (.bipush 88, 2) := by decide +kernel
theorem dX8_cloud_77 : decode cX8_cloud 77 = .ok (.iload_n 3, 1) := by decide +kernel
theorem dX8_cloud_78 : decode cX8_cloud 78 = .ok (.iadd, 1) := by decide +kernel
theorem dX8_cloud_79 : decode cX8_cloud 79 = .ok (.iconst 0, 1) := by decide +kernel
theorem dX8_cloud_80 : decode cX8_cloud 80 = .ok (.iastore, 1) := by decide +kernel
theorem dX8_cloud_81 : decode cX8_cloud 81 = .ok (.aload_n 0, 1) := by decide +kernel
theorem dX8_cloud_82 : decode cX8_cloud 82 = .ok (.getfield 7, 3) := by decide +kernel
theorem dX8_cloud_85 : decode cX8_cloud 85 = .ok (.iconst 2, 1) := by decide +kernel
theorem dX8_cloud_86 : decode cX8_cloud 86 = .ok (.dup2, 1) := by decide +kernel
theorem dX8_cloud_87 : decode cX8_cloud 87 = .ok (.iaload, 1) := by decide +kernel
theorem dX8_cloud_88 : decode cX8_cloud 88 = .ok (.iconst 1, 1) := by decide +kernel
theorem dX8_cloud_89 : decode cX8_cloud 89 = .ok (.iadd, 1) := by decide +kernel
theorem dX8_cloud_90 : decode cX8_cloud 90 = .ok (.iastore, 1) := by decide +kernel
theorem dX8_cloud_91 : decode cX8_cloud 91 = .ok (.aload_n 0, 1) := by decide +kernel
theorem dX8_cloud_92 : decode cX8_cloud 92 = .ok (.iconst 0, 1) := by decide +kernel
theorem dX8_cloud_93 : decode cX8_cloud 93 = .ok (.putfield 94, 3) := by decide +kernel
theorem dX8_cloud_96 : decode cX8_cloud 96 = .ok (.iload_n 3, 1) := by decide +kernel
theorem dX8_cloud_97 : decode cX8_cloud 97 = .ok (.ireturn, 1) := by decide +kernel
theorem dX8_type_0 : decode cX8_type 0 = .ok (.iload_n 1, 1) := by decide +kernel
theorem dX8_type_1 : decode cX8_type 1 = .ok (.i2l, 1) := by decide +kernel
theorem dX8_type_2 : decode cX8_type 2 = .ok (.lconst 0, 1) := by decide +kernel
theorem dX8_type_3 : decode cX8_type 3 = .ok (.ldc2_w 126, 3) := by decide +kernel
theorem dX8_type_6 : decode cX8_type 6 = .ok (.invokestatic 60, 3) := by decide +kernel
theorem dX8_type_9 : decode cX8_type 9 = .ok (.ifCond .ne 8, 3) := by decide +kernel
theorem dX8_type_12 : decode cX8_type 12 = .ok (.aload_n 0, 1) := by decide +kernel
theorem dX8_type_13 : decode cX8_type 13 = .ok (.invokevirtual 103, 3) := by decide +kernel
theorem dX8_type_16 : decode cX8_type 16 = .ok (.ireturn, 1) := by decide +kernel
theorem dX8_type_17 : decode cX8_type 17 = .ok (.aload_n 0, 1) := by decide +kernel
theorem dX8_type_18 : decode cX8_type 18 = .ok (.getfield 128, 3) := by decide +kernel
theorem dX8_type_21 : decode cX8_type 21 = .ok (.sipush 150, 3) := by decide +kernel
theorem dX8_type_24 : decode cX8_type 24 = .ok (.if_icmp .ne 8, 3) := by decide +kernel
theorem dX8_type_27 : decode cX8_type 27 = .ok (.aload_n 0, 1) := by decide +kernel
theorem dX8_type_28 : decode cX8_type 28 = .ok (.invokevirtual 113, 3) := by decide +kernel
theorem dX8_type_31 : decode cX8_type 31 = .ok (.ireturn, 1) := by decide +kernel
theorem dX8_type_32 : decode cX8_type 32 = .ok (.aload_n 0, 1) := by decide +kernel
theorem dX8_type_33 : decode cX8_type 33 = .ok (.getfield 23, 3) := by decide +kernel
theorem dX8_type_36 : decode cX8_type 36 = .ok (.aload_n 0, 1) := by decide +kernel
theorem dX8_type_37 : decode cX8_type 37 = .ok (.getfield 128, 3) := by decide +kernel
theorem dX8_type_40 : decode cX8_type 40 = .ok (.iload_n 1, 1) := by decide +kernel
theorem dX8_type_41 : decode cX8_type 41 = .ok (.iastore, 1) := by decide +kernel
theorem dX8_type_42 : decode cX8_type 42 = .ok (.aload_n 0, 1) := by decide +kernel
theorem dX8_type_43 : decode cX8_type 43 = .ok (.dup, 1) := by decide +kernel
theorem dX8_type_44 : decode cX8_type 44 = .ok (.getfield 128, 3) := by decide +kernel
theorem dX8_type_47 : decode cX8_type 47 = .ok (.iconst 1, 1) := by decide +kernel
theorem dX8_type_48 : decode cX8_type 48 = .ok (.iadd, 1) := by decide +kernel
theorem dX8_type_49 : decode cX8_type 49 = .ok (.putfield 128, 3) := by decide +kernel
theorem dX8_type_52 : decode cX8_type 52 = .ok (.aload_n 0, 1) := by decide +kernel
theorem dX8_type_53 : decode cX8_type 53 = .ok (.getfield 128, 3) := by decide +kernel
theorem dX8_type_56 : decode cX8_type 56 = .ok (.ireturn, 1) := by decide +kernel
theorem dX8_clear_0 : decode cX8_clear 0 = .ok (.aload_n 0, 1) := by decide +kernel
theorem dX8_clear_1 : decode cX8_clear 1 = .ok (.getfield 128, 3) := by decide +kernel
theorem dX8_clear_4 : decode cX8_clear 4 = .ok (.istore_n 1, 1) := by decide +kernel
theorem dX8_clear_5 : decode cX8_clear 5 = .ok (.aload_n 0, 1) := by decide +kernel
theorem dX8_clear_6 : decode cX8_clear 6 = .ok (.iconst 0, 1) := by decide +kernel
theorem dX8_clear_7 : decode cX8_clear 7 = .ok (.putfield 128, 3) := by decide +kernel
theorem dX8_clear_10 : decode cX8_clear 10 = .ok (.iload_n 1, 1) := by decide +kernel
theorem dX8_clear_11 : decode cX8_clear 11 = .ok (.ireturn, 1) := by decide +kernel
theorem dX8_isLetter_0 : decode cX8_isLetter 0 = .ok (.iload_n 1, 1) := by decide +kernel
theorem dX8_isLetter_1 : decode cX8_isLetter 1 = .ok (.aload_n 0, 1) := by decide +kernel
theorem dX8_isLetter_2 : decode cX8_isLetter 2 = .ok (.getfield 128, 3) := by decide +kernel
theorem dX8_isLetter_5 : decode cX8_isLetter 5 = .ok (.if_icmp .ge 26, 3) := by decide +kernel
theorem dX8_isLetter_8 : decode cX8_isLetter 8 = .ok (.aload_n 0, 1) := by decide +kernel
theorem dX8_isLetter_9 : decode cX8_isLetter 9 = .ok (.getfield 23, 3) := by decide +kernel
theorem dX8_isLetter_12 : decode cX8_isLetter 12 = .ok (.iload_n 1, 1) := by decide +kernel
theorem dX8_isLetter_13 : decode cX8_isLetter 13 = .ok (.iaload, 1) := by decide +kernel
theorem dX8_isLetter_14 : decode cX8_isLetter 14 = .ok (.i2l, 1) := by decide +kernel
theorem dX8_isLetter_15 : decode cX8_isLetter 15 = .ok (.ldc2_w 131, 3) := by decide +kernel
theorem dX8_isLetter_18 : decode cX8_isLetter 18 = .ok (.ldc2_w 133, 3) := by decide +kernel
theorem dX8_isLetter_21 : decode cX8_isLetter 21 = .ok (.invokestatic 60, 3) := by decide +kernel
theorem dX8_isLetter_24 : decode cX8_isLetter 24 = .ok (.ifCond .eq 7, 3) := by decide +kernel
theorem dX8_isLetter_27 : decode cX8_isLetter 27 = .ok (.iconst 1, 1) := by decide +kernel
theorem dX8_isLetter_28 : decode cX8_isLetter 28 = .ok (.goto 4, 3) := by decide +kernel
theorem dX8_isLetter_31 : decode cX8_isLetter 31 = .ok (.iconst 0, 1) := by decide +kernel
theorem dX8_isLetter_32 : decode cX8_isLetter 32 = .ok (.ireturn, 1) := by decide +kernel
theorem dX8_isFigure_0 : decode cX8_isFigure 0 = .ok (.iload_n 1, 1) := by decide +kernel
theorem dX8_isFigure_1 : decode cX8_isFigure 1 = .ok (.aload_n 0, 1) := by decide +kernel
theorem dX8_isFigure_2 : decode cX8_isFigure 2 = .ok (.getfield 128, 3) := by decide +kernel
theorem dX8_isFigure_5 : decode cX8_isFigure 5 = .ok (.if_icmp .ge 26, 3) := by decide +kernel
theorem dX8_isFigure_8 : decode cX8_isFigure 8 = .ok (.aload_n 0, 1) := by decide +kernel
theorem dX8_isFigure_9 : decode cX8_isFigure 9 = .ok (.getfield 23, 3) := by decide +kernel
theorem dX8_isFigure_12 : decode cX8_isFigure 12 = .ok (.iload_n 1, 1) := by decide +kernel
theorem dX8_isFigure_13 : decode cX8_isFigure 13 = .ok (.iaload, 1) := by decide +kernel
theorem dX8_isFigure_14 : decode cX8_isFigure 14 = .ok (.i2l, 1) := by decide +kernel
theorem dX8_isFigure_15 : decode cX8_isFigure 15 = .ok (.ldc2_w 135, 3) := by decide +kernel
theorem dX8_isFigure_18 : decode cX8_isFigure 18 = .ok (.ldc2_w 137, 3) := by decide +kernel
theorem dX8_isFigure_21 : decode cX8_isFigure 21 = .ok (.invokestatic 60, 3) := by decide +kernel
theorem dX8_isFigure_24 : decode cX8_isFigure 24 = .ok (.ifCond .eq 7, 3) := by decide +kernel
theorem dX8_isFigure_27 : decode cX8_isFigure 27 = .ok (.iconst 1, 1) := by decide +kernel
theorem dX8_isFigure_28 : decode cX8_isFigure 28 = .ok (.goto 4, 3) := by decide +kernel
theorem dX8_isFigure_31 : decode cX8_isFigure 31 = .ok (.iconst 0, 1) := by decide +kernel
theorem dX8_isFigure_32 : decode cX8_isFigure 32 = .ok (.ireturn, 1) := by decide +kernel
theorem dX8_nextToken_0 : decode cX8_nextToken 0 = .ok (.aload_n 0, 1) := by decide +kernel
theorem dX8_nextToken_1 : decode cX8_nextToken 1 = .ok (.getfield 139, 3) := by decide +kernel
theorem dX8_nextToken_4 : decode cX8_nextToken 4 = .ok (.aload_n 0, 1) := by decide +kernel
theorem dX8_nextToken_5 : decode cX8_nextToken 5 = .ok (.getfield 128, 3) := by decide +kernel
theorem dX8_nextToken_8 : decode cX8_nextToken 8 = .ok (.if_icmp .ge 30, 3) := by decide +kernel
theorem dX8_nextToken_11 : decode cX8_nextToken 11 = .ok (.aload_n 0, 1) := by decide +kernel
theorem dX8_nextToken_12 : decode cX8_nextToken 12 = .ok (.getfield 23, 3) := by decide +kernel
theorem dX8_nextToken_15 : decode cX8_nextToken 15 = .ok (.aload_n 0, 1) := by decide +kernel
theorem dX8_nextToken_16 : decode cX8_nextToken 16 = .ok (.getfield 139, 3) := by decide +kernel
theorem dX8_nextToken_19 : decode cX8_nextToken 19 = .ok (.iaload, 1) := by decide +kernel
theorem dX8_nextToken_20 : decode cX8_nextToken 20 = .ok (.bipush 32, 2) := by decide +kernel
theorem dX8_nextToken_22 : decode cX8_nextToken 22 = .ok (.if_icmp .ne 16, 3) := by decide +kernel
theorem dX8_nextToken_25 : decode cX8_nextToken 25 = .ok (.aload_n 0, 1) := by decide +kernel
theorem dX8_nextToken_26 : decode cX8_nextToken 26 = .ok (.dup, 1) := by decide +kernel
theorem dX8_nextToken_27 : decode cX8_nextToken 27 = .ok (.getfield 139, 3) := by decide +kernel
theorem dX8_nextToken_30 : decode cX8_nextToken 30 = .ok (.iconst 1, 1) := by decide +kernel
theorem dX8_nextToken_31 : decode cX8_nextToken 31 = .ok (.iadd, 1) := by decide +kernel
theorem dX8_nextToken_32 : decode cX8_nextToken 32 = .ok (.putfield 139, 3) := by decide +kernel
theorem dX8_nextToken_35 : decode cX8_nextToken 35 = .ok (.goto (-35), 3) := by decide +kernel
theorem dX8_nextToken_38 : decode cX8_nextToken 38 = .ok (.aload_n 0, 1) := by decide +kernel
theorem dX8_nextToken_39 : decode cX8_nextToken 39 = .ok (.aload_n 0, 1) := by decide +kernel
theorem dX8_nextToken_40 : decode cX8_nextToken 40 = .ok (.getfield 139, 3) := by decide +kernel
theorem dX8_nextToken_43 : decode cX8_nextToken 43 = .ok (.putfield 142, 3) := by decide +kernel
theorem dX8_nextToken_46 : decode cX8_nextToken 46 = .ok (.aload_n 0, 1) := by decide +kernel
theorem dX8_nextToken_47 : decode cX8_nextToken 47 = .ok (.aload_n 0, 1) := by decide +kernel
theorem dX8_nextToken_48 : decode cX8_nextToken 48 = .ok (.getfield 139, 3) := by decide +kernel
theorem dX8_nextToken_51 : decode cX8_nextToken 51 = .ok (.iconst 1, 1) := by decide +kernel
theorem dX8_nextToken_52 : decode cX8_nextToken 52 = .ok (.iadd, 1) := by decide +kernel
theorem dX8_nextToken_53 : decode cX8_nextToken 53 = .ok (.putfield 145, 3) := by decide +kernel
theorem dX8_nextToken_56 : decode cX8_nextToken 56 = .ok (.aload_n 0, 1) := by decide +kernel
theorem dX8_nextToken_57 : decode cX8_nextToken 57 = .ok (.aload_n 0, 1) := by decide +kernel
theorem dX8_nextToken_58 : decode cX8_nextToken 58 = .ok (.getfield 139, 3) := by decide +kernel
theorem dX8_nextToken_61 : decode cX8_nextToken 61 = .ok (.aload_n 0, 1) := by decide +kernel
theorem dX8_nextToken_62 : decode cX8_nextToken 62 = .ok (.getfield 128, 3) := by decide +kernel
theorem dX8_nextToken_65 : decode cX8_nextToken 65 = .ok (.if_icmp .ne 7, 3) := by decide +kernel
theorem dX8_nextToken_68 : decode cX8_nextToken 68 = .ok (.iconst 0, 1) := by decide +kernel
theorem dX8_nextToken_69 : decode cX8_nextToken 69 = .ok (.goto 52, 3) := by decide +kernel
theorem dX8_nextToken_72 : decode cX8_nextToken 72 = .ok (.aload_n 0, 1) := by decide +kernel
theorem dX8_nextToken_73 : decode cX8_nextToken 73 = .ok (.aload_n 0, 1) := by decide +kernel
theorem dX8_nextToken_74 : decode cX8_nextToken 74 = .ok (.getfield 139, 3) := by decide +kernel
theorem dX8_nextToken_77 : decode cX8_nextToken 77 = .ok (.invokevirtual 148, 3) := by decide +kernel
theorem dX8_nextToken_80 : decode cX8_nextToken 80 = .ok (.ifCond .eq 7, 3) := by decide +kernel
theorem dX8_nextToken_83 : decode cX8_nextToken 83 = .ok (.iconst 1, 1) := by decide +kernel
theorem dX8_nextToken_84 : decode cX8_nextToken 84 = .ok (.goto 37, 3) := by decide +kernel
theorem dX8_nextToken_87 : decode cX8_nextToken 87 = .ok (.aload_n 0, 1) := by decide +kernel
theorem dX8_nextToken_88 : decode cX8_nextToken 88 = .ok (.aload_n 0, 1) := by decide +kernel
theorem dX8_nextToken_89 : decode cX8_nextToken 89 = .ok (.getfield 139, 3) := by decide +kernel
theorem dX8_nextToken_92 : decode cX8_nextToken 92 = .ok (.invokevirtual 151, 3) := by decide +kernel
theorem dX8_nextToken_95 : decode cX8_nextToken 95 = .ok (.ifCond .eq 7, 3) := by decide +kernel
theorem dX8_nextToken_98 : decode cX8_nextToken 98 = .ok (.iconst 2, 1) := by decide +kernel
theorem dX8_nextToken_99 : decode cX8_nextToken 99 = .ok (.goto 22, 3) := by decide +kernel
theorem dX8_nextToken_102 : decode cX8_nextToken 102 = .ok (.aload_n 0, 1) := by decide +kernel
theorem dX8_nextToken_103 : decode cX8_nextToken 103 = .ok (.getfield 23, 3) := by decide +kernel
theorem dX8_nextToken_106 : decode cX8_nextToken 106 = .ok (.aload_n 0, 1) := by decide +kernel
theorem dX8_nextToken_107 : decode cX8_nextToken 107 = .ok (.getfield 139, 3) := by decide +kernel
theorem dX8_nextToken_110 : decode cX8_nextToken 110 = .ok (.iaload, 1) := by decide +kernel
theorem dX8_nextToken_111 : decode cX8_nextToken 111 = .ok (.bipush 59, 2) := by decide +kernel
theorem dX8_nextToken_113 : decode cX8_nextToken 113 = .ok (.if_icmp .ne 7, 3) := by decide +kernel
theorem dX8_nextToken_116 : decode cX8_nextToken 116 = .ok (.iconst 3, 1) := by decide +kernel
theorem dX8_nextToken_117 : decode cX8_nextToken 117 = .ok (.goto 4, 3) := by decide +kernel
theorem dX8_nextToken_120 : decode cX8_nextToken 120 = .ok (.iconst 4, 1) := by decide +kernel
theorem dX8_nextToken_121 : decode cX8_nextToken 121 = .ok (.putfield 154, 3) := by decide +kernel
theorem dX8_nextToken_124 : decode cX8_nextToken 124 = .ok (.aload_n 0, 1) := by decide +kernel
theorem dX8_nextToken_125 : decode cX8_nextToken 125 = .ok (.getfield 154, 3) := by decide +kernel
theorem dX8_nextToken_128 : decode cX8_nextToken 128 = .ok (.iconst 1, 1) := by decide +kernel
theorem dX8_nextToken_129 : decode cX8_nextToken 129 = .ok (.if_icmp .ne 14, 3) := by decide +kernel
theorem dX8_nextToken_132 : decode cX8_nextToken 132 = .ok (.aload_n 0, 1) := by decide +kernel
theorem dX8_nextToken_133 : decode cX8_nextToken 133 = .ok (.aload_n 0, 1) := by decide +kernel
theorem dX8_nextToken_134 : decode cX8_nextToken 134 = .ok (.getfield 145, 3) := by decide +kernel
theorem dX8_nextToken_137 : decode cX8_nextToken 137 = .ok (.invokevirtual 148, 3) := by decide +kernel
theorem dX8_nextToken_140 : decode cX8_nextToken 140 = .ok (.ifCond .ne 22, 3) := by decide +kernel
theorem dX8_nextToken_143 : decode cX8_nextToken 143 = .ok (.aload_n 0, 1) := by decide +kernel
theorem dX8_nextToken_144 : decode cX8_nextToken 144 = .ok (.getfield 154, 3) := by decide +kernel
theorem dX8_nextToken_147 : decode cX8_nextToken 147 = .ok (.iconst 2, 1) := by decide +kernel
theorem dX8_nextToken_148 : decode cX8_nextToken 148 = .ok (.if_icmp .ne 27, 3) := by decide +kernel
theorem dX8_nextToken_151 : decode cX8_nextToken 151 = .ok (.aload_n 0, 1) := by decide +kernel
theorem dX8_nextToken_152 : decode cX8_nextToken 152 = .ok (.aload_n 0, 1) := by decide +kernel
theorem dX8_nextToken_153 : decode cX8_nextToken 153 = .ok (.getfield 145, 3) := by decide +kernel
theorem dX8_nextToken_156 : decode cX8_nextToken 156 = .ok (.invokevirtual 151, 3) := by decide +kernel
theorem dX8_nextToken_159 : decode cX8_nextToken 159 = .ok (.ifCond .eq 16, 3) := by decide +kernel
theorem dX8_nextToken_162 : decode cX8_nextToken 162 = .ok (.aload_n 0, 1) := by decide +kernel
theorem dX8_nextToken_163 : decode cX8_nextToken 163 = .ok (.dup, 1) := by decide +kernel
theorem dX8_nextToken_164 : decode cX8_nextToken 164 = .ok (.getfield 145, 3) := by decide +kernel
theorem dX8_nextToken_167 : decode cX8_nextToken 167 = .ok (.iconst 1, 1) := by decide +kernel
theorem dX8_nextToken_168 : decode cX8_nextToken 168 = .ok (.iadd, 1) := by decide +kernel
theorem dX8_nextToken_169 : decode cX8_nextToken 169 = .ok (.putfield 145, 3) := by decide +kernel
theorem dX8_nextToken_172 : decode cX8_nextToken 172 = .ok (.goto (-48), 3) := by decide +kernel
theorem dX8_nextToken_175 : decode cX8_nextToken 175 = .ok (.aload_n 0, 1) := by decide +kernel
theorem dX8_nextToken_176 : decode cX8_nextToken 176 = .ok (.iconst 0, 1) := by decide +kernel
theorem dX8_nextToken_177 : decode cX8_nextToken 177 = .ok (.putfield 157, 3) := by decide +kernel
theorem dX8_nextToken_180 : decode cX8_nextToken 180 = .ok (.aload_n 0, 1) := by decide +kernel
theorem dX8_nextToken_181 : decode cX8_nextToken 181 = .ok (.getfield 142, 3) := by decide +kernel
theorem dX8_nextToken_184 : decode cX8_nextToken 184 = .ok (.istore_n 1, 1) := by decide +kernel
theorem dX8_nextToken_185 : decode cX8_nextToken 185 = .ok (.iload_n 1, 1) := by decide +kernel
theorem dX8_nextToken_186 : decode cX8_nextToken 186 = .ok (.aload_n 0, 1) := by decide +kernel
theorem dX8_nextToken_187 : decode cX8_nextToken 187 = .ok (.getfield 145, 3) := by decide +kernel
theorem dX8_nextToken_190 : decode cX8_nextToken 190 = .ok (.if_icmp .ge 56, 3) := by decide +kernel
theorem dX8_nextToken_193 : decode cX8_nextToken 193 = .ok (.aload_n 0, 1) := by decide +kernel
theorem dX8_nextToken_194 : decode cX8_nextToken 194 = .ok (.getfield 154, 3) := by decide +kernel
theorem dX8_nextToken_197 : decode cX8_nextToken 197 = .ok (.iconst 2, 1) := by decide +kernel
theorem dX8_nextToken_198 : decode cX8_nextToken 198 = .ok (.if_icmp .ne 48, 3) := by decide +kernel
theorem dX8_nextToken_201 : decode cX8_nextToken 201 = .ok (.aload_n 0, 1) := by decide +kernel
theorem dX8_nextToken_202 : decode cX8_nextToken 202 = .ok (.aload_n 0, 1) := by decide +kernel
theorem dX8_nextToken_203 : decode cX8_nextToken 203 = .ok (.getfield 145, 3) := by decide +kernel
theorem dX8_nextToken_206 : decode cX8_nextToken 206 = .ok (.aload_n 0, 1) := by decide +kernel
theorem dX8_nextToken_207 : decode cX8_nextToken 207 = .ok (.getfield 142, 3) := by decide +kernel
theorem dX8_nextToken_210 : decode cX8_nextToken 210 = .ok (.isub, 1) := by decide +kernel
theorem dX8_nextToken_211 : decode cX8_nextToken 211 = .ok (.iconst 2, 1) := by decide +kernel
theorem dX8_nextToken_212 : decode cX8_nextToken 212 = .ok (.if_icmp .le 8, 3) := by decide +kernel
theorem dX8_nextToken_215 : decode cX8_nextToken 215 = .ok (.ldc 160, 2) := by decide +kernel
theorem dX8_nextToken_217 : decode cX8_nextToken 217 = .ok (.goto 20, 3) := by decide +kernel
theorem dX8_nextToken_220 : decode cX8_nextToken 220 = .ok (.bipush 10, 2) := by decide +kernel
theorem dX8_nextToken_222 : decode cX8_nextToken 222 = .ok (.aload_n 0, 1) := by decide +kernel
theorem dX8_nextToken_223 : decode cX8_nextToken 223 = .ok (.getfield 157, 3) := by decide +kernel
theorem dX8_nextToken_226 : decode cX8_nextToken 226 = .ok (.imul, 1) := by decide +kernel
theorem dX8_nextToken_227 : decode cX8_nextToken 227 = .ok (.aload_n 0, 1) := by decide +kernel
theorem dX8_nextToken_228 : decode cX8_nextToken 228 = .ok (.getfield 23, 3) := by decide +kernel
theorem dX8_nextToken_231 : decode cX8_nextToken 231 = .ok (.iload_n 1, 1) := by decide +kernel
theorem dX8_nextToken_232 : decode cX8_nextToken 232 = .ok (.iaload, 1) := by decide +kernel
theorem dX8_nextToken_233 : decode cX8_nextToken 233 = .ok (.iadd, 1) := by decide +kernel
theorem dX8_nextToken_234 : decode cX8_nextToken 234 = .ok (.bipush 48, 2) := by decide +kernel
theorem dX8_nextToken_236 : decode cX8_nextToken 236 = .ok (.isub, 1) := by decide +kernel
theorem dX8_nextToken_237 : decode cX8_nextToken 237 = .ok (.putfield 157, 3) := by decide +kernel
theorem dX8_nextToken_240 : decode cX8_nextToken 240 = .ok (.iinc 1 1, 3) := by decide +kernel
theorem dX8_nextToken_243 : decode cX8_nextToken 243 = .ok (.goto (-58), 3) := by decide +kernel
theorem dX8_nextToken_246 : decode cX8_nextToken 246 = .ok (.aload_n 0, 1) := by decide +kernel
theorem dX8_nextToken_247 : decode cX8_nextToken 247 = .ok (.aload_n 0, 1) := by decide +kernel
theorem dX8_nextToken_248 : decode cX8_nextToken 248 = .ok (.getfield 154, 3) := by decide +kernel
theorem dX8_nextToken_251 : decode cX8_nextToken 251 = .ok (.ifCond .ne 10, 3) := by decide +kernel
theorem dX8_nextToken_254 : decode cX8_nextToken 254 = .ok (.aload_n 0, 1) := by decide +kernel
theorem dX8_nextToken_255 : decode cX8_nextToken 255 = .ok (.getfield 139, 3) := by decide +kernel
theorem dX8_nextToken_258 : decode cX8_nextToken 258 = .ok (.goto 7, 3) := by decide +kernel
theorem dX8_nextToken_261 : decode cX8_nextToken 261 = .ok (.aload_n 0, 1) := by decide +kernel
theorem dX8_nextToken_262 : decode cX8_nextToken 262 = .ok (.getfield 145, 3) := by decide +kernel
theorem dX8_nextToken_265 : decode cX8_nextToken 265 = .ok (.putfield 139, 3) := by decide +kernel
theorem dX8_nextToken_268 : decode cX8_nextToken 268 = .ok (.return_, 1) := by decide +kernel
theorem dX8_wordNow_0 : decode cX8_wordNow 0 = .ok (.lconst 0, 1) := by decide +kernel
theorem dX8_wordNow_1 : decode cX8_wordNow 1 = .ok (.lstore_n 1, 1) := by decide +kernel
theorem dX8_wordNow_2 : decode cX8_wordNow 2 = .ok (.aload_n 0, 1) := by decide +kernel
theorem dX8_wordNow_3 : decode cX8_wordNow 3 = .ok (.getfield 142, 3) := by decide +kernel
theorem dX8_wordNow_6 : decode cX8_wordNow 6 = .ok (.istore_n 3, 1) := by decide +kernel
theorem dX8_wordNow_7 : decode cX8_wordNow 7 = .ok (.iload_n 3, 1) := by decide +kernel
theorem dX8_wordNow_8 : decode cX8_wordNow 8 = .ok (.aload_n 0, 1) := by decide +kernel
theorem dX8_wordNow_9 : decode cX8_wordNow 9 = .ok (.getfield 145, 3) := by decide +kernel
theorem dX8_wordNow_12 : decode cX8_wordNow 12 = .ok (.if_icmp .ge 49, 3) := by decide +kernel
theorem dX8_wordNow_15 : decode cX8_wordNow 15 = .ok (.aload_n 0, 1) := by decide +kernel
theorem dX8_wordNow_16 : decode cX8_wordNow 16 = .ok (.getfield 154, 3) := by decide +kernel
theorem dX8_wordNow_19 : decode cX8_wordNow 19 = .ok (.iconst 1, 1) := by decide +kernel
theorem dX8_wordNow_20 : decode cX8_wordNow 20 = .ok (.if_icmp .ne 41, 3) := by decide +kernel
theorem dX8_wordNow_23 : decode cX8_wordNow 23 = .ok (.lload_n 1, 1) := by decide +kernel
theorem dX8_wordNow_24 : decode cX8_wordNow 24 = .ok (.ldc2_w 161, 3) := by decide +kernel
theorem dX8_wordNow_27 : decode cX8_wordNow 27 = .ok (.lcmp, 1) := by decide +kernel
theorem dX8_wordNow_28 : decode cX8_wordNow 28 = .ok (.ifCond .le 7, 3) := by decide +kernel
theorem dX8_wordNow_31 : decode cX8_wordNow 31 = .ok (.lload_n 1, 1) := by decide +kernel
theorem dX8_wordNow_32 : decode cX8_wordNow 32 = .ok (.goto 22, 3) := by decide +kernel
theorem dX8_wordNow_35 : decode cX8_wordNow 35 = .ok (.ldc2_w 163, 3) := by decide +kernel
theorem dX8_wordNow_38 : decode cX8_wordNow 38 = .ok (.lload_n 1, 1) := by decide +kernel
theorem dX8_wordNow_39 : decode cX8_wordNow 39 = .ok (.lmul, 1) := by decide +kernel
theorem dX8_wordNow_40 : decode cX8_wordNow 40 = .ok (.aload_n 0, 1) := by decide +kernel
theorem dX8_wordNow_41 : decode cX8_wordNow 41 = .ok (.getfield 23, 3) := by decide +kernel
theorem dX8_wordNow_44 : decode cX8_wordNow 44 = .ok (.iload_n 3, 1) := by decide +kernel
theorem dX8_wordNow_45 : decode cX8_wordNow 45 = .ok (.iaload, 1) := by decide +kernel
theorem dX8_wordNow_46 : decode cX8_wordNow 46 = .ok (.i2l, 1) := by decide +kernel
theorem dX8_wordNow_47 : decode cX8_wordNow 47 = .ok (.ladd, 1) := by decide +kernel
theorem dX8_wordNow_48 : decode cX8_wordNow 48 = .ok (.ldc2_w 131, 3) := by decide +kernel
theorem dX8_wordNow_51 : decode cX8_wordNow 51 = .ok (.lsub, 1) := by decide +kernel
theorem dX8_wordNow_52 : decode cX8_wordNow 52 = .ok (.lconst 1, 1) := by decide +kernel
theorem dX8_wordNow_53 : decode cX8_wordNow 53 = .ok (.ladd, 1) := by decide +kernel
theorem dX8_wordNow_54 : decode cX8_wordNow 54 = .ok (.lstore_n 1, 1) := by decide +kernel
theorem dX8_wordNow_55 : decode cX8_wordNow 55 = .ok (.iinc 3 1, 3) := by decide +kernel
theorem dX8_wordNow_58 : decode cX8_wordNow 58 = .ok (.goto (-51), 3) := by decide +kernel
theorem dX8_wordNow_61 : decode cX8_wordNow 61 = .ok (.lload_n 1, 1) := by decide +kernel
theorem dX8_wordNow_62 : decode cX8_wordNow 62 = .ok (.lreturn, 1) := by decide +kernel
theorem dX8_takes_0 : decode cX8_takes 0 = .ok (.aload_n 0, 1) := by decide +kernel
theorem dX8_takes_1 : decode cX8_takes 1 = .ok (.invokevirtual 165, 3) := by decide +kernel
theorem dX8_takes_4 : decode cX8_takes 4 = .ok (.aload_n 0, 1) := by decide +kernel
theorem dX8_takes_5 : decode cX8_takes 5 = .ok (.getfield 154, 3) := by decide +kernel
theorem dX8_takes_8 : decode cX8_takes 8 = .ok (.iconst 2, 1) := by decide +kernel
theorem dX8_takes_9 : decode cX8_takes 9 = .ok (.if_icmp .ne 22, 3) := by decide +kernel
theorem dX8_takes_12 : decode cX8_takes 12 = .ok (.aload_n 0, 1) := by decide +kernel
theorem dX8_takes_13 : decode cX8_takes 13 = .ok (.getfield 157, 3) := by decide +kernel
theorem dX8_takes_16 : decode cX8_takes 16 = .ok (.i2l, 1) := by decide +kernel
theorem dX8_takes_17 : decode cX8_takes 17 = .ok (.iload_n 2, 1) := by decide +kernel
theorem dX8_takes_18 : decode cX8_takes 18 = .ok (.i2l, 1) := by decide +kernel
theorem dX8_takes_19 : decode cX8_takes 19 = .ok (.iload_n 3, 1) := by decide +kernel
theorem dX8_takes_20 : decode cX8_takes 20 = .ok (.i2l, 1) := by decide +kernel
theorem dX8_takes_21 : decode cX8_takes 21 = .ok (.invokestatic 60, 3) := by decide +kernel
theorem dX8_takes_24 : decode cX8_takes 24 = .ok (.ifCond .eq 7, 3) := by decide +kernel
theorem dX8_takes_27 : decode cX8_takes 27 = .ok (.iconst 1, 1) := by decide +kernel
theorem dX8_takes_28 : decode cX8_takes 28 = .ok (.goto 4, 3) := by decide +kernel
theorem dX8_takes_31 : decode cX8_takes 31 = .ok (.iconst 0, 1) := by decide +kernel
theorem dX8_takes_32 : decode cX8_takes 32 = .ok (.istore 4, 2) := by decide +kernel
theorem dX8_takes_34 : decode cX8_takes 34 = .ok (.aload_n 0, 1) := by decide +kernel
theorem dX8_takes_35 : decode cX8_takes 35 = .ok (.getfield 26, 3) := by decide +kernel
theorem dX8_takes_38 : decode cX8_takes 38 = .ok (.iload_n 1, 1) := by decide +kernel
theorem dX8_takes_39 : decode cX8_takes 39 = .ok (.iload 4, 2) := by decide +kernel
theorem dX8_takes_41 : decode cX8_takes 41 = .ok (.ifCond .eq 10, 3) := by decide +kernel
theorem dX8_takes_44 : decode cX8_takes 44 = .ok (.aload_n 0, 1) := by decide +kernel
theorem dX8_takes_45 : decode cX8_takes 45 = .ok (.getfield 157, 3) := by decide +kernel
theorem dX8_takes_48 : decode cX8_takes 48 = .ok (.goto 9, 3) := by decide +kernel
theorem dX8_takes_51 : decode cX8_takes 51 = .ok (.aload_n 0, 1) := by decide +kernel
theorem dX8_takes_52 : decode cX8_takes 52 = .ok (.getfield 26, 3) := by decide +kernel
theorem dX8_takes_55 : decode cX8_takes 55 = .ok (.iload_n 1, 1) := by decide +kernel
theorem dX8_takes_56 : decode cX8_takes 56 = .ok (.iaload, 1) := by decide +kernel
theorem dX8_takes_57 : decode cX8_takes 57 = .ok (.iastore, 1) := by decide +kernel
theorem dX8_takes_58 : decode cX8_takes 58 = .ok (.iload 4, 2) := by decide +kernel
theorem dX8_takes_60 : decode cX8_takes 60 = .ok (.ireturn, 1) := by decide +kernel
theorem dX8_takesCellar_0 : decode cX8_takesCellar 0 = .ok (.aload_n 0, 1) := by decide +kernel
theorem dX8_takesCellar_1 : decode cX8_takesCellar 1 = .ok (.getfield 26, 3) := by decide +kernel
theorem dX8_takesCellar_4 : decode cX8_takesCellar 4 = .ok (.iconst 0, 1) := by decide +kernel
theorem dX8_takesCellar_5 : decode cX8_takesCellar 5 = .ok (.iaload, 1) := by decide +kernel
theorem dX8_takesCellar_6 : decode cX8_takesCellar 6 = .ok (.istore_n 1, 1) := by decide +kernel
theorem dX8_takesCellar_7 : decode cX8_takesCellar 7 = .ok (.iload_n 1, 1) := by decide +kernel
theorem dX8_takesCellar_8 : decode cX8_takesCellar 8 = .ok (.iconst 5, 1) := by decide +kernel
theorem dX8_takesCellar_9 : decode cX8_takesCellar 9 = .ok (.if_icmp .ne 5, 3) := by decide +kernel
theorem dX8_takesCellar_12 : decode cX8_takesCellar 12 = .ok (.iconst 0, 1) := by decide +kernel
theorem dX8_takesCellar_13 : decode cX8_takesCellar 13 = .ok (.ireturn, 1) := by decide +kernel
theorem dX8_takesCellar_14 : decode cX8_takesCellar 14 = .ok (.aload_n 0, 1) := by decide +kernel
theorem dX8_takesCellar_15 : decode cX8_takesCellar 15 = .ok (.getfield 26, 3) := by decide +kernel
theorem dX8_takesCellar_18 : decode cX8_takesCellar 18 = .ok (.iconst 0, 1) := by decide +kernel
theorem dX8_takesCellar_19 : decode cX8_takesCellar 19 = .ok (.dup2, 1) := by decide +kernel
theorem dX8_takesCellar_20 : decode cX8_takesCellar 20 = .ok (.iaload, 1) := by decide +kernel
theorem dX8_takesCellar_21 : decode cX8_takesCellar 21 = .ok (.iconst 1, 1) := by decide +kernel
theorem dX8_takesCellar_22 : decode cX8_takesCellar 22 = .ok (.iadd, 1) := by decide +kernel
theorem dX8_takesCellar_23 : decode cX8_takesCellar 23 = .ok (.iastore, 1) := by decide +kernel
theorem dX8_takesCellar_24 : decode cX8_takesCellar 24 = .ok (.aload_n 0, 1) := by decide +kernel
theorem dX8_takesCellar_25 : decode cX8_takesCellar 25 = .ok (.bipush 8, 2) := by decide +kernel
theorem dX8_takesCellar_27 : decode cX8_takesCellar 27 = .ok (.iload_n 1, 1) := by decide +kernel
theorem dX8_takesCellar_28 : decode cX8_takesCellar 28 = .ok (.iadd, 1) := by decide +kernel
theorem dX8_takesCellar_29 : decode cX8_takesCellar 29 = .ok (.iconst 0, 1) := by decide +kernel
theorem dX8_takesCellar_30 : decode cX8_takesCellar 30 = .ok (.iconst 5, 1) := by decide +kernel
theorem dX8_takesCellar_31 : decode cX8_takesCellar 31 = .ok (.invokevirtual 168, 3) := by decide +kernel
theorem dX8_takesCellar_34 : decode cX8_takesCellar 34 = .ok (.ifCond .eq 21, 3) := by decide +kernel
theorem dX8_takesCellar_37 : decode cX8_takesCellar 37 = .ok (.aload_n 0, 1) := by decide +kernel
theorem dX8_takesCellar_38 : decode cX8_takesCellar 38 = .ok (.bipush 13, 2) := by decide +kernel
theorem dX8_takesCellar_40 : decode cX8_takesCellar 40 = .ok (.iload_n 1, 1) := by decide +kernel
theorem dX8_takesCellar_41 : decode cX8_takesCellar 41 = .ok (.iadd, 1) := by decide +kernel
theorem dX8_takesCellar_42 : decode cX8_takesCellar 42 = .ok (.iconst 0, 1) := by decide +kernel
theorem dX8_takesCellar_43 : decode cX8_takesCellar 43 = .ok (.bipush 9, 2) := by decide +kernel
theorem dX8_takesCellar_45 : decode cX8_takesCellar 45 = .ok (.invokevirtual 168, 3) := by decide +kernel
theorem dX8_takesCellar_48 : decode cX8_takesCellar 48 = .ok (.ifCond .eq 7, 3) := by decide +kernel
theorem dX8_takesCellar_51 : decode cX8_takesCellar 51 = .ok (.iconst 1, 1) := by decide +kernel
theorem dX8_takesCellar_52 : decode cX8_takesCellar 52 = .ok (.goto 4, 3) := by decide +kernel
theorem dX8_takesCellar_55 : decode cX8_takesCellar 55 = .ok (.iconst 0, 1) := by decide +kernel
theorem dX8_takesCellar_56 : decode cX8_takesCellar 56 = .ok (.istore_n 2, 1) := by decide +kernel
theorem dX8_takesCellar_57 : decode cX8_takesCellar 57 = .ok (.iload_n 2, 1) := by decide +kernel
theorem dX8_takesCellar_58 : decode cX8_takesCellar 58 = .ok (.ifCond .eq 7, 3) := by decide +kernel
theorem dX8_takesCellar_61 : decode cX8_takesCellar 61 = .ok (.aload_n 0, 1) := by decide +kernel
theorem dX8_takesCellar_62 : decode cX8_takesCellar 62 = .ok (.invokevirtual 165, 3) := by decide +kernel
theorem dX8_takesCellar_65 : decode cX8_takesCellar 65 = .ok (.iconst 1, 1) := by decide +kernel
theorem dX8_takesCellar_66 : decode cX8_takesCellar 66 = .ok (.istore_n 3, 1) := by decide +kernel
theorem dX8_takesCellar_67 : decode cX8_takesCellar 67 = .ok (.iload_n 3, 1) := by decide +kernel
theorem dX8_takesCellar_68 : decode cX8_takesCellar 68 = .ok (.bipush 10, 2) := by decide +kernel
theorem dX8_takesCellar_70 : decode cX8_takesCellar 70 = .ok (.if_icmp .ge 68, 3) := by decide +kernel
theorem dX8_takesCellar_73 : decode cX8_takesCellar 73 = .ok (.iload_n 2, 1) := by decide +kernel
theorem dX8_takesCellar_74 : decode cX8_takesCellar 74 = .ok (.ifCond .eq 64, 3) := by decide +kernel
theorem dX8_takesCellar_77 : decode cX8_takesCellar 77 = .ok (.aload_n 0, 1) := by decide +kernel
theorem dX8_takesCellar_78 : decode cX8_takesCellar 78 = .ok (.getfield 154, 3) := by decide +kernel
theorem dX8_takesCellar_81 : decode cX8_takesCellar 81 = .ok (.iconst 2, 1) := by decide +kernel
theorem dX8_takesCellar_82 : decode cX8_takesCellar 82 = .ok (.if_icmp .ne 56, 3) := by decide +kernel
theorem dX8_takesCellar_85 : decode cX8_takesCellar 85 = .ok (.aload_n 0, 1) := by decide +kernel
theorem dX8_takesCellar_86 : decode cX8_takesCellar 86 = .ok (.getfield 157, 3) := by decide +kernel
theorem dX8_takesCellar_89 : decode cX8_takesCellar 89 = .ok (.i2l, 1) := by decide +kernel
theorem dX8_takesCellar_90 : decode cX8_takesCellar 90 = .ok (.lconst 0, 1) := by decide +kernel
theorem dX8_takesCellar_91 : decode cX8_takesCellar 91 = .ok (.ldc2_w 120, 3) := by decide +kernel
theorem dX8_takesCellar_94 : decode cX8_takesCellar 94 = .ok (.invokestatic 60, 3) := by decide +kernel
theorem dX8_takesCellar_97 : decode cX8_takesCellar 97 = .ok (.istore_n 2, 1) := by decide +kernel
theorem dX8_takesCellar_98 : decode cX8_takesCellar 98 = .ok (.aload_n 0, 1) := by decide +kernel
theorem dX8_takesCellar_99 : decode cX8_takesCellar 99 = .ok (.getfield 26, 3) := by decide +kernel
theorem dX8_takesCellar_102 : decode cX8_takesCellar 102 = .ok (.bipush 18, 2) := by decide +kernel
theorem dX8_takesCellar_104 : decode cX8_takesCellar 104 = .ok (.bipush 10, 2) := by decide +kernel
theorem dX8_takesCellar_106 : decode cX8_takesCellar 106 = .ok (.iload_n 1, 1) := by decide +kernel
theorem dX8_takesCellar_107 : decode cX8_takesCellar 107 = .ok (.imul, 1) := by decide +kernel
theorem dX8_takesCellar_108 : decode cX8_takesCellar 108 = .ok (.iadd, 1) := by decide +kernel
theorem dX8_takesCellar_109 : decode cX8_takesCellar 109 = .ok (.iload_n 3, 1) := by decide +kernel
theorem dX8_takesCellar_110 : decode cX8_takesCellar 110 = .ok (.iadd, 1) := by decide +kernel
theorem dX8_takesCellar_111 : decode cX8_takesCellar 111 = .ok (.iload_n 2, 1) := by decide +kernel
theorem dX8_takesCellar_112 : decode cX8_takesCellar 112 = .ok (.ifCond .eq 10, 3) := by decide +kernel
theorem dX8_takesCellar_115 : decode cX8_takesCellar 115 = .ok (.aload_n 0, 1) := by decide +kernel
theorem dX8_takesCellar_116 : decode cX8_takesCellar 116 = .ok (.getfield 157, 3) := by decide +kernel
theorem dX8_takesCellar_119 : decode cX8_takesCellar 119 = .ok (.goto 4, 3) := by decide +kernel
theorem dX8_takesCellar_122 : decode cX8_takesCellar 122 = .ok (.iconst 0, 1) := by decide +kernel
theorem dX8_takesCellar_123 : decode cX8_takesCellar 123 = .ok (.iastore, 1) := by decide +kernel
theorem dX8_takesCellar_124 : decode cX8_takesCellar 124 = .ok (.iload_n 2, 1) := by decide +kernel
theorem dX8_takesCellar_125 : decode cX8_takesCellar 125 = .ok (.ifCond .eq 7, 3) := by decide +kernel
theorem dX8_takesCellar_128 : decode cX8_takesCellar 128 = .ok (.aload_n 0, 1) := by decide +kernel
theorem dX8_takesCellar_129 : decode cX8_takesCellar 129 = .ok (.invokevirtual 165, 3) := by decide +kernel
theorem dX8_takesCellar_132 : decode cX8_takesCellar 132 = .ok (.iinc 3 1, 3) := by decide +kernel
theorem dX8_takesCellar_135 : decode cX8_takesCellar 135 = .ok (.goto (-68), 3) := by decide +kernel
theorem dX8_takesCellar_138 : decode cX8_takesCellar 138 = .ok (.iload_n 2, 1) := by decide +kernel
theorem dX8_takesCellar_139 : decode cX8_takesCellar 139 = .ok (.ireturn, 1) := by decide +kernel
theorem dX8_takesSlinger_0 : decode cX8_takesSlinger 0 = .ok (.aload_n 0, 1) := by decide +kernel
theorem dX8_takesSlinger_1 : decode cX8_takesSlinger 1 = .ok (.getfield 26, 3) := by decide +kernel
theorem dX8_takesSlinger_4 : decode cX8_takesSlinger 4 = .ok (.iconst 1, 1) := by decide +kernel
theorem dX8_takesSlinger_5 : decode cX8_takesSlinger 5 = .ok (.iaload, 1) := by decide +kernel
theorem dX8_takesSlinger_6 : decode cX8_takesSlinger 6 = .ok (.istore_n 1, 1) := by decide +kernel
theorem dX8_takesSlinger_7 : decode cX8_takesSlinger 7 = .ok (.iload_n 1, 1) := by decide +kernel
theorem dX8_takesSlinger_8 : decode cX8_takesSlinger 8 = .ok (.bipush 6, 2) := by decide +kernel
theorem dX8_takesSlinger_10 : decode cX8_takesSlinger 10 = .ok (.if_icmp .ne 5, 3) := by decide +kernel
theorem dX8_takesSlinger_13 : decode cX8_takesSlinger 13 = .ok (.iconst 0, 1) := by decide +kernel
theorem dX8_takesSlinger_14 : decode cX8_takesSlinger 14 = .ok (.ireturn, 1) := by decide +kernel
theorem dX8_takesSlinger_15 : decode cX8_takesSlinger 15 = .ok (.aload_n 0, 1) := by decide +kernel
theorem dX8_takesSlinger_16 : decode cX8_takesSlinger 16 = .ok (.getfield 26, 3) := by decide +kernel
theorem dX8_takesSlinger_19 : decode cX8_takesSlinger 19 = .ok (.iconst 1, 1) := by decide +kernel
theorem dX8_takesSlinger_20 : decode cX8_takesSlinger 20 = .ok (.dup2, 1) := by decide +kernel
theorem dX8_takesSlinger_21 : decode cX8_takesSlinger 21 = .ok (.iaload, 1) := by decide +kernel
theorem dX8_takesSlinger_22 : decode cX8_takesSlinger 22 = .ok (.iconst 1, 1) := by decide +kernel
theorem dX8_takesSlinger_23 : decode cX8_takesSlinger 23 = .ok (.iadd, 1) := by decide +kernel
theorem dX8_takesSlinger_24 : decode cX8_takesSlinger 24 = .ok (.iastore, 1) := by decide +kernel
theorem dX8_takesSlinger_25 : decode cX8_takesSlinger 25 = .ok (.aload_n 0, 1) := by decide +kernel
theorem dX8_takesSlinger_26 : decode cX8_takesSlinger 26 = .ok (.bipush 68, 2) := by decide +kernel
theorem dX8_takesSlinger_28 : decode cX8_takesSlinger 28 = .ok (.iload_n 1, 1) := by decide +kernel
theorem dX8_takesSlinger_29 : decode cX8_takesSlinger 29 = .ok (.iadd, 1) := by decide +kernel
theorem dX8_takesSlinger_30 : decode cX8_takesSlinger 30 = .ok (.iconst 0, 1) := by decide +kernel
theorem dX8_takesSlinger_31 : decode cX8_takesSlinger 31 = .ok (.iconst 5, 1) := by decide +kernel
theorem dX8_takesSlinger_32 : decode cX8_takesSlinger 32 = .ok (.invokevirtual 168, 3) := by decide +kernel
theorem dX8_takesSlinger_35 : decode cX8_takesSlinger 35 = .ok (.ifCond .eq 21, 3) := by decide +kernel
theorem dX8_takesSlinger_38 : decode cX8_takesSlinger 38 = .ok (.aload_n 0, 1) := by decide +kernel
theorem dX8_takesSlinger_39 : decode cX8_takesSlinger 39 = .ok (.bipush 74, 2) := by decide +kernel
theorem dX8_takesSlinger_41 : decode cX8_takesSlinger 41 = .ok (.iload_n 1, 1) := by decide +kernel
theorem dX8_takesSlinger_42 : decode cX8_takesSlinger 42 = .ok (.iadd, 1) := by decide +kernel
theorem dX8_takesSlinger_43 : decode cX8_takesSlinger 43 = .ok (.iconst 0, 1) := by decide +kernel
theorem dX8_takesSlinger_44 : decode cX8_takesSlinger 44 = .ok (.bipush 9, 2) := by decide +kernel
theorem dX8_takesSlinger_46 : decode cX8_takesSlinger 46 = .ok (.invokevirtual 168, 3) := by decide +kernel
theorem dX8_takesSlinger_49 : decode cX8_takesSlinger 49 = .ok (.ifCond .eq 7, 3) := by decide +kernel
theorem dX8_takesSlinger_52 : decode cX8_takesSlinger 52 = .ok (.iconst 1, 1) := by decide +kernel
theorem dX8_takesSlinger_53 : decode cX8_takesSlinger 53 = .ok (.goto 4, 3) := by decide +kernel
theorem dX8_takesSlinger_56 : decode cX8_takesSlinger 56 = .ok (.iconst 0, 1) := by decide +kernel
theorem dX8_takesSlinger_57 : decode cX8_takesSlinger 57 = .ok (.ireturn, 1) := by decide +kernel
theorem dX8_takesCloud_0 : decode cX8_takesCloud 0 = .ok (.aload_n 0, 1) := by decide +kernel
theorem dX8_takesCloud_1 : decode cX8_takesCloud 1 = .ok (.getfield 26, 3) := by decide +kernel
theorem dX8_takesCloud_4 : decode cX8_takesCloud 4 = .ok (.iconst 2, 1) := by decide +kernel
theorem dX8_takesCloud_5 : decode cX8_takesCloud 5 = .ok (.iaload, 1) := by decide +kernel
theorem dX8_takesCloud_6 : decode cX8_takesCloud 6 = .ok (.istore_n 1, 1) := by decide +kernel
theorem dX8_takesCloud_7 : decode cX8_takesCloud 7 = .ok (.iload_n 1, 1) := by decide +kernel
theorem dX8_takesCloud_8 : decode cX8_takesCloud 8 = .ok (.iconst 4, 1) := by decide +kernel
theorem dX8_takesCloud_9 : decode cX8_takesCloud 9 = .ok (.if_icmp .ne 5, 3) := by decide +kernel
theorem dX8_takesCloud_12 : decode cX8_takesCloud 12 = .ok (.iconst 0, 1) := by decide +kernel
theorem dX8_takesCloud_13 : decode cX8_takesCloud 13 = .ok (.ireturn, 1) := by decide +kernel
theorem dX8_takesCloud_14 : decode cX8_takesCloud 14 = .ok (.aload_n 0, 1) := by decide +kernel
theorem dX8_takesCloud_15 : decode cX8_takesCloud 15 = .ok (.getfield 26, 3) := by decide +kernel
theorem dX8_takesCloud_18 : decode cX8_takesCloud 18 = .ok (.iconst 2, 1) := by decide +kernel
theorem dX8_takesCloud_19 : decode cX8_takesCloud 19 = .ok (.dup2, 1) := by decide +kernel
theorem dX8_takesCloud_20 : decode cX8_takesCloud 20 = .ok (.iaload, 1) := by decide +kernel
theorem dX8_takesCloud_21 : decode cX8_takesCloud 21 = .ok (.iconst 1, 1) := by decide +kernel
theorem dX8_takesCloud_22 : decode cX8_takesCloud 22 = .ok (.iadd, 1) := by decide +kernel
theorem dX8_takesCloud_23 : decode cX8_takesCloud 23 = .ok (.iastore, 1) := by decide +kernel
theorem dX8_takesCloud_24 : decode cX8_takesCloud 24 = .ok (.aload_n 0, 1) := by decide +kernel
theorem dX8_takesCloud_25 : decode cX8_takesCloud 25 = .ok (.bipush 80, 2) := by decide +kernel
theorem dX8_takesCloud_27 : decode cX8_takesCloud 27 = .ok (.iload_n 1, 1) := by decide +kernel
theorem dX8_takesCloud_28 : decode cX8_takesCloud 28 = .ok (.iadd, 1) := by decide +kernel
theorem dX8_takesCloud_29 : decode cX8_takesCloud 29 = .ok (.iconst 1, 1) := by decide +kernel
theorem dX8_takesCloud_30 : decode cX8_takesCloud 30 = .ok (.bipush 30, 2) := by decide +kernel
theorem dX8_takesCloud_32 : decode cX8_takesCloud 32 = .ok (.invokevirtual 168, 3) := by decide +kernel
theorem dX8_takesCloud_35 : decode cX8_takesCloud 35 = .ok (.ifCond .eq 21, 3) := by decide +kernel
theorem dX8_takesCloud_38 : decode cX8_takesCloud 38 = .ok (.aload_n 0, 1) := by decide +kernel
theorem dX8_takesCloud_39 : decode cX8_takesCloud 39 = .ok (.bipush 84, 2) := by decide +kernel
theorem dX8_takesCloud_41 : decode cX8_takesCloud 41 = .ok (.iload_n 1, 1) := by decide +kernel
theorem dX8_takesCloud_42 : decode cX8_takesCloud 42 = .ok (.iadd, 1) := by decide +kernel
theorem dX8_takesCloud_43 : decode cX8_takesCloud 43 = .ok (.iconst 1, 1) := by decide +kernel
theorem dX8_takesCloud_44 : decode cX8_takesCloud 44 = .ok (.bipush 40, 2) := by decide +kernel
theorem dX8_takesCloud_46 : decode cX8_takesCloud 46 = .ok (.invokevirtual 168, 3) := by decide +kernel
theorem dX8_takesCloud_49 : decode cX8_takesCloud 49 = .ok (.ifCond .eq 7, 3) := by decide +kernel
theorem dX8_takesCloud_52 : decode cX8_takesCloud 52 = .ok (.iconst 1, 1) := by decide +kernel
theorem dX8_takesCloud_53 : decode cX8_takesCloud 53 = .ok (.goto 4, 3) := by decide +kernel
theorem dX8_takesCloud_56 : decode cX8_takesCloud 56 = .ok (.iconst 0, 1) := by decide +kernel
theorem dX8_takesCloud_57 : decode cX8_takesCloud 57 = .ok (.ireturn, 1) := by decide +kernel
theorem dX8_takesWeeks_0 : decode cX8_takesWeeks 0 = .ok (.aload_n 0, 1) := by decide +kernel
theorem dX8_takesWeeks_1 : decode cX8_takesWeeks 1 = .ok (.invokevirtual 165, 3) := by decide +kernel
theorem dX8_takesWeeks_4 : decode cX8_takesWeeks 4 = .ok (.aload_n 0, 1) := by decide +kernel
theorem dX8_takesWeeks_5 : decode cX8_takesWeeks 5 = .ok (.getfield 154, 3) := by decide +kernel
theorem dX8_takesWeeks_8 : decode cX8_takesWeeks 8 = .ok (.iconst 2, 1) := by decide +kernel
theorem dX8_takesWeeks_9 : decode cX8_takesWeeks 9 = .ok (.if_icmp .ne 22, 3) := by decide +kernel
theorem dX8_takesWeeks_12 : decode cX8_takesWeeks 12 = .ok (.aload_n 0, 1) := by decide +kernel
theorem dX8_takesWeeks_13 : decode cX8_takesWeeks 13 = .ok (.getfield 157, 3) := by decide +kernel
theorem dX8_takesWeeks_16 : decode cX8_takesWeeks 16 = .ok (.i2l, 1) := by decide +kernel
theorem dX8_takesWeeks_17 : decode cX8_takesWeeks 17 = .ok (.lconst 1, 1) := by decide +kernel
theorem dX8_takesWeeks_18 : decode cX8_takesWeeks 18 = .ok (.ldc2_w 120, 3) := by decide +kernel
theorem dX8_takesWeeks_21 : decode cX8_takesWeeks 21 = .ok (.invokestatic 60, 3) := by decide +kernel
theorem dX8_takesWeeks_24 : decode cX8_takesWeeks 24 = .ok (.ifCond .eq 7, 3) := by decide +kernel
theorem dX8_takesWeeks_27 : decode cX8_takesWeeks 27 = .ok (.iconst 1, 1) := by decide +kernel
theorem dX8_takesWeeks_28 : decode cX8_takesWeeks 28 = .ok (.goto 4, 3) := by decide +kernel
theorem dX8_takesWeeks_31 : decode cX8_takesWeeks 31 = .ok (.iconst 0, 1) := by decide +kernel
theorem dX8_takesWeeks_32 : decode cX8_takesWeeks 32 = .ok (.istore_n 1, 1) := by decide +kernel
theorem dX8_takesWeeks_33 : decode cX8_takesWeeks 33 = .ok (.iconst 0, 1) := by decide +kernel
theorem dX8_takesWeeks_34 : decode cX8_takesWeeks 34 = .ok (.istore_n 2, 1) := by decide +kernel
theorem dX8_takesWeeks_35 : decode cX8_takesWeeks 35 = .ok (.iload_n 1, 1) := by decide +kernel
theorem dX8_takesWeeks_36 : decode cX8_takesWeeks 36 = .ok (.ifCond .eq 36, 3) := by decide +kernel
theorem dX8_takesWeeks_39 : decode cX8_takesWeeks 39 = .ok (.iload_n 2, 1) := by decide +kernel
theorem dX8_takesWeeks_40 : decode cX8_takesWeeks 40 = .ok (.aload_n 0, 1) := by decide +kernel
theorem dX8_takesWeeks_41 : decode cX8_takesWeeks 41 = .ok (.getfield 157, 3) := by decide +kernel
theorem dX8_takesWeeks_44 : decode cX8_takesWeeks 44 = .ok (.if_icmp .ge 28, 3) := by decide +kernel
theorem dX8_takesWeeks_47 : decode cX8_takesWeeks 47 = .ok (.aload_n 0, 1) := by decide +kernel
theorem dX8_takesWeeks_48 : decode cX8_takesWeeks 48 = .ok (.getfield 26, 3) := by decide +kernel
theorem dX8_takesWeeks_51 : decode cX8_takesWeeks 51 = .ok (.iconst 3, 1) := by decide +kernel
theorem dX8_takesWeeks_52 : decode cX8_takesWeeks 52 = .ok (.iaload, 1) := by decide +kernel
theorem dX8_takesWeeks_53 : decode cX8_takesWeeks 53 = .ok (.sipush 999, 3) := by decide +kernel
theorem dX8_takesWeeks_56 : decode cX8_takesWeeks 56 = .ok (.if_icmp .ge 16, 3) := by decide +kernel
theorem dX8_takesWeeks_59 : decode cX8_takesWeeks 59 = .ok (.aload_n 0, 1) := by decide +kernel
theorem dX8_takesWeeks_60 : decode cX8_takesWeeks 60 = .ok (.getfield 26, 3) := by decide +kernel
theorem dX8_takesWeeks_63 : decode cX8_takesWeeks 63 = .ok (.invokestatic 172, 3) := by decide +kernel
theorem dX8_takesWeeks_66 : decode cX8_takesWeeks 66 = .ok (.iinc 2 1, 3) := by decide +kernel
theorem dX8_takesWeeks_69 : decode cX8_takesWeeks 69 = .ok (.goto (-34), 3) := by decide +kernel
theorem dX8_takesWeeks_72 : decode cX8_takesWeeks 72 = .ok (.iload_n 1, 1) := by decide +kernel
theorem dX8_takesWeeks_73 : decode cX8_takesWeeks 73 = .ok (.ireturn, 1) := by decide +kernel
theorem dX8_takesItem_0 : decode cX8_takesItem 0 = .ok (.aload_n 0, 1) := by decide +kernel
theorem dX8_takesItem_1 : decode cX8_takesItem 1 = .ok (.invokevirtual 176, 3) := by decide +kernel
theorem dX8_takesItem_4 : decode cX8_takesItem 4 = .ok (.lstore_n 1, 1) := by decide +kernel
theorem dX8_takesItem_5 : decode cX8_takesItem 5 = .ok (.aload_n 0, 1) := by decide +kernel
theorem dX8_takesItem_6 : decode cX8_takesItem 6 = .ok (.getfield 180, 3) := by decide +kernel
theorem dX8_takesItem_9 : decode cX8_takesItem 9 = .ok (.ifCond .ne 7, 3) := by decide +kernel
theorem dX8_takesItem_12 : decode cX8_takesItem 12 = .ok (.iconst 1, 1) := by decide +kernel
theorem dX8_takesItem_13 : decode cX8_takesItem 13 = .ok (.goto 4, 3) := by decide +kernel
theorem dX8_takesItem_16 : decode cX8_takesItem 16 = .ok (.iconst 0, 1) := by decide +kernel
theorem dX8_takesItem_17 : decode cX8_takesItem 17 = .ok (.istore_n 3, 1) := by decide +kernel
theorem dX8_takesItem_18 : decode cX8_takesItem 18 = .ok (.aload_n 0, 1) := by decide +kernel
theorem dX8_takesItem_19 : decode cX8_takesItem 19 = .ok (.getfield 154, 3) := by decide +kernel
theorem dX8_takesItem_22 : decode cX8_takesItem 22 = .ok (.iconst 1, 1) := by decide +kernel
theorem dX8_takesItem_23 : decode cX8_takesItem 23 = .ok (.if_icmp .ne 20, 3) := by decide +kernel
theorem dX8_takesItem_26 : decode cX8_takesItem 26 = .ok (.iload_n 3, 1) := by decide +kernel
theorem dX8_takesItem_27 : decode cX8_takesItem 27 = .ok (.lload_n 1, 1) := by decide +kernel
theorem dX8_takesItem_28 : decode cX8_takesItem 28 = .ok (.ldc2_w 183, 3) := by decide +kernel
theorem dX8_takesItem_31 : decode cX8_takesItem 31 = .ok (.lcmp, 1) := by decide +kernel
theorem dX8_takesItem_32 : decode cX8_takesItem 32 = .ok (.ifCond .ne 7, 3) := by decide +kernel
theorem dX8_takesItem_35 : decode cX8_takesItem 35 = .ok (.iconst 1, 1) := by decide +kernel
theorem dX8_takesItem_36 : decode cX8_takesItem 36 = .ok (.goto 4, 3) := by decide +kernel
theorem dX8_takesItem_39 : decode cX8_takesItem 39 = .ok (.iconst 0, 1) := by decide +kernel
theorem dX8_takesItem_40 : decode cX8_takesItem 40 = .ok (.if_icmp .eq 5, 3) := by decide +kernel
theorem dX8_takesItem_43 : decode cX8_takesItem 43 = .ok (.iconst 0, 1) := by decide +kernel
theorem dX8_takesItem_44 : decode cX8_takesItem 44 = .ok (.ireturn, 1) := by decide +kernel
theorem dX8_takesItem_45 : decode cX8_takesItem 45 = .ok (.iload_n 3, 1) := by decide +kernel
theorem dX8_takesItem_46 : decode cX8_takesItem 46 = .ok (.ifCond .eq 41, 3) := by decide +kernel
theorem dX8_takesItem_49 : decode cX8_takesItem 49 = .ok (.aload_n 0, 1) := by decide +kernel
theorem dX8_takesItem_50 : decode cX8_takesItem 50 = .ok (.iconst 4, 1) := by decide +kernel
theorem dX8_takesItem_51 : decode cX8_takesItem 51 = .ok (.iconst 0, 1) := by decide +kernel
theorem dX8_takesItem_52 : decode cX8_takesItem 52 = .ok (.bipush 9, 2) := by decide +kernel
theorem dX8_takesItem_54 : decode cX8_takesItem 54 = .ok (.invokevirtual 168, 3) := by decide +kernel
theorem dX8_takesItem_57 : decode cX8_takesItem 57 = .ok (.istore 4, 2) := by decide +kernel
theorem dX8_takesItem_59 : decode cX8_takesItem 59 = .ok (.iload 4, 2) := by decide +kernel
theorem dX8_takesItem_61 : decode cX8_takesItem 61 = .ok (.ifCond .eq 7, 3) := by decide +kernel
theorem dX8_takesItem_64 : decode cX8_takesItem 64 = .ok (.aload_n 0, 1) := by decide +kernel
theorem dX8_takesItem_65 : decode cX8_takesItem 65 = .ok (.invokevirtual 165, 3) := by decide +kernel
theorem dX8_takesItem_68 : decode cX8_takesItem 68 = .ok (.iload 4, 2) := by decide +kernel
theorem dX8_takesItem_70 : decode cX8_takesItem 70 = .ok (.ifCond .eq 15, 3) := by decide +kernel
theorem dX8_takesItem_73 : decode cX8_takesItem 73 = .ok (.aload_n 0, 1) := by decide +kernel
theorem dX8_takesItem_74 : decode cX8_takesItem 74 = .ok (.getfield 154, 3) := by decide +kernel
theorem dX8_takesItem_77 : decode cX8_takesItem 77 = .ok (.iconst 3, 1) := by decide +kernel
theorem dX8_takesItem_78 : decode cX8_takesItem 78 = .ok (.if_icmp .ne 7, 3) := by decide +kernel
theorem dX8_takesItem_81 : decode cX8_takesItem 81 = .ok (.iconst 1, 1) := by decide +kernel
theorem dX8_takesItem_82 : decode cX8_takesItem 82 = .ok (.goto 4, 3) := by decide +kernel
theorem dX8_takesItem_85 : decode cX8_takesItem 85 = .ok (.iconst 0, 1) := by decide +kernel
theorem dX8_takesItem_86 : decode cX8_takesItem 86 = .ok (.ireturn, 1) := by decide +kernel
theorem dX8_takesItem_87 : decode cX8_takesItem 87 = .ok (.lload_n 1, 1) := by decide +kernel
theorem dX8_takesItem_88 : decode cX8_takesItem 88 = .ok (.ldc2_w 185, 3) := by decide +kernel
theorem dX8_takesItem_91 : decode cX8_takesItem 91 = .ok (.lcmp, 1) := by decide +kernel
theorem dX8_takesItem_92 : decode cX8_takesItem 92 = .ok (.ifCond .ne 24, 3) := by decide +kernel
theorem dX8_takesItem_95 : decode cX8_takesItem 95 = .ok (.aload_n 0, 1) := by decide +kernel
theorem dX8_takesItem_96 : decode cX8_takesItem 96 = .ok (.invokevirtual 187, 3) := by decide +kernel
theorem dX8_takesItem_99 : decode cX8_takesItem 99 = .ok (.ifCond .eq 15, 3) := by decide +kernel
theorem dX8_takesItem_102 : decode cX8_takesItem 102 = .ok (.aload_n 0, 1) := by decide +kernel
theorem dX8_takesItem_103 : decode cX8_takesItem 103 = .ok (.getfield 154, 3) := by decide +kernel
theorem dX8_takesItem_106 : decode cX8_takesItem 106 = .ok (.iconst 3, 1) := by decide +kernel
theorem dX8_takesItem_107 : decode cX8_takesItem 107 = .ok (.if_icmp .ne 7, 3) := by decide +kernel
theorem dX8_takesItem_110 : decode cX8_takesItem 110 = .ok (.iconst 1, 1) := by decide +kernel
theorem dX8_takesItem_111 : decode cX8_takesItem 111 = .ok (.goto 4, 3) := by decide +kernel
theorem dX8_takesItem_114 : decode cX8_takesItem 114 = .ok (.iconst 0, 1) := by decide +kernel
theorem dX8_takesItem_115 : decode cX8_takesItem 115 = .ok (.ireturn, 1) := by decide +kernel
theorem dX8_takesItem_116 : decode cX8_takesItem 116 = .ok (.lload_n 1, 1) := by decide +kernel
theorem dX8_takesItem_117 : decode cX8_takesItem 117 = .ok (.ldc2_w 191, 3) := by decide +kernel
theorem dX8_takesItem_120 : decode cX8_takesItem 120 = .ok (.lcmp, 1) := by decide +kernel
theorem dX8_takesItem_121 : decode cX8_takesItem 121 = .ok (.ifCond .ne 10, 3) := by decide +kernel
theorem dX8_takesItem_124 : decode cX8_takesItem 124 = .ok (.aload_n 0, 1) := by decide +kernel
theorem dX8_takesItem_125 : decode cX8_takesItem 125 = .ok (.invokevirtual 193, 3) := by decide +kernel
theorem dX8_takesItem_128 : decode cX8_takesItem 128 = .ok (.goto 38, 3) := by decide +kernel
theorem dX8_takesItem_131 : decode cX8_takesItem 131 = .ok (.lload_n 1, 1) := by decide +kernel
theorem dX8_takesItem_132 : decode cX8_takesItem 132 = .ok (.ldc2_w 196, 3) := by decide +kernel
theorem dX8_takesItem_135 : decode cX8_takesItem 135 = .ok (.lcmp, 1) := by decide +kernel
theorem dX8_takesItem_136 : decode cX8_takesItem 136 = .ok (.ifCond .ne 10, 3) := by decide +kernel
theorem dX8_takesItem_139 : decode cX8_takesItem 139 = .ok (.aload_n 0, 1) := by decide +kernel
theorem dX8_takesItem_140 : decode cX8_takesItem 140 = .ok (.invokevirtual 198, 3) := by decide +kernel
theorem dX8_takesItem_143 : decode cX8_takesItem 143 = .ok (.goto 23, 3) := by decide +kernel
theorem dX8_takesItem_146 : decode cX8_takesItem 146 = .ok (.lload_n 1, 1) := by decide +kernel
theorem dX8_takesItem_147 : decode cX8_takesItem 147 = .ok (.ldc2_w 201, 3) := by decide +kernel
theorem dX8_takesItem_150 : decode cX8_takesItem 150 = .ok (.lcmp, 1) := by decide +kernel
theorem dX8_takesItem_151 : decode cX8_takesItem 151 = .ok (.ifCond .ne 14, 3) := by decide +kernel
theorem dX8_takesItem_154 : decode cX8_takesItem 154 = .ok (.aload_n 0, 1) := by decide +kernel
theorem dX8_takesItem_155 : decode cX8_takesItem 155 = .ok (.invokevirtual 203, 3) := by decide +kernel
theorem dX8_takesItem_158 : decode cX8_takesItem 158 = .ok (.ifCond .eq 7, 3) := by decide +kernel
theorem dX8_takesItem_161 : decode cX8_takesItem 161 = .ok (.iconst 1, 1) := by decide +kernel
theorem dX8_takesItem_162 : decode cX8_takesItem 162 = .ok (.goto 4, 3) := by decide +kernel
theorem dX8_takesItem_165 : decode cX8_takesItem 165 = .ok (.iconst 0, 1) := by decide +kernel
theorem dX8_takesItem_166 : decode cX8_takesItem 166 = .ok (.istore 4, 2) := by decide +kernel
theorem dX8_takesItem_168 : decode cX8_takesItem 168 = .ok (.iload 4, 2) := by decide +kernel
theorem dX8_takesItem_170 : decode cX8_takesItem 170 = .ok (.ifCond .eq 7, 3) := by decide +kernel
theorem dX8_takesItem_173 : decode cX8_takesItem 173 = .ok (.aload_n 0, 1) := by decide +kernel
theorem dX8_takesItem_174 : decode cX8_takesItem 174 = .ok (.invokevirtual 165, 3) := by decide +kernel
theorem dX8_takesItem_177 : decode cX8_takesItem 177 = .ok (.iload 4, 2) := by decide +kernel
theorem dX8_takesItem_179 : decode cX8_takesItem 179 = .ok (.ifCond .eq 15, 3) := by decide +kernel
theorem dX8_takesItem_182 : decode cX8_takesItem 182 = .ok (.aload_n 0, 1) := by decide +kernel
theorem dX8_takesItem_183 : decode cX8_takesItem 183 = .ok (.getfield 154, 3) := by decide +kernel
theorem dX8_takesItem_186 : decode cX8_takesItem 186 = .ok (.iconst 3, 1) := by decide +kernel
theorem dX8_takesItem_187 : decode cX8_takesItem 187 = .ok (.if_icmp .ne 7, 3) := by decide +kernel
theorem dX8_takesItem_190 : decode cX8_takesItem 190 = .ok (.iconst 1, 1) := by decide +kernel
theorem dX8_takesItem_191 : decode cX8_takesItem 191 = .ok (.goto 4, 3) := by decide +kernel
theorem dX8_takesItem_194 : decode cX8_takesItem 194 = .ok (.iconst 0, 1) := by decide +kernel
theorem dX8_takesItem_195 : decode cX8_takesItem 195 = .ok (.ireturn, 1) := by decide +kernel
theorem dX8_read_0 : decode cX8_read 0 = .ok (.iconst 0, 1) := by decide +kernel
theorem dX8_read_1 : decode cX8_read 1 = .ok (.istore_n 1, 1) := by decide +kernel
theorem dX8_read_2 : decode cX8_read 2 = .ok (.iload_n 1, 1) := by decide +kernel
theorem dX8_read_3 : decode cX8_read 3 = .ok (.sipush 168, 3) := by decide +kernel
theorem dX8_read_6 : decode cX8_read 6 = .ok (.if_icmp .ge 16, 3) := by decide +kernel
theorem dX8_read_9 : decode cX8_read 9 = .ok (.aload_n 0, 1) := by decide +kernel
theorem dX8_read_10 : decode cX8_read 10 = .ok (.getfield 26, 3) := by decide +kernel
theorem dX8_read_13 : decode cX8_read 13 = .ok (.iload_n 1, 1) := by decide +kernel
theorem dX8_read_14 : decode cX8_read 14 = .ok (.iconst 0, 1) := by decide +kernel
theorem dX8_read_15 : decode cX8_read 15 = .ok (.iastore, 1) := by decide +kernel
theorem dX8_read_16 : decode cX8_read 16 = .ok (.iinc 1 1, 3) := by decide +kernel
theorem dX8_read_19 : decode cX8_read 19 = .ok (.goto (-17), 3) := by decide +kernel
theorem dX8_read_22 : decode cX8_read 22 = .ok (.aload_n 0, 1) := by decide +kernel
theorem dX8_read_23 : decode cX8_read 23 = .ok (.iconst 0, 1) := by decide +kernel
theorem dX8_read_24 : decode cX8_read 24 = .ok (.putfield 180, 3) := by decide +kernel
theorem dX8_read_27 : decode cX8_read 27 = .ok (.aload_n 0, 1) := by decide +kernel
theorem dX8_read_28 : decode cX8_read 28 = .ok (.iconst 0, 1) := by decide +kernel
theorem dX8_read_29 : decode cX8_read 29 = .ok (.putfield 139, 3) := by decide +kernel
theorem dX8_read_32 : decode cX8_read 32 = .ok (.aload_n 0, 1) := by decide +kernel
theorem dX8_read_33 : decode cX8_read 33 = .ok (.invokevirtual 165, 3) := by decide +kernel
theorem dX8_read_36 : decode cX8_read 36 = .ok (.aload_n 0, 1) := by decide +kernel
theorem dX8_read_37 : decode cX8_read 37 = .ok (.getfield 154, 3) := by decide +kernel
theorem dX8_read_40 : decode cX8_read 40 = .ok (.ifCond .eq 7, 3) := by decide +kernel
theorem dX8_read_43 : decode cX8_read 43 = .ok (.iconst 1, 1) := by decide +kernel
theorem dX8_read_44 : decode cX8_read 44 = .ok (.goto 4, 3) := by decide +kernel
theorem dX8_read_47 : decode cX8_read 47 = .ok (.iconst 0, 1) := by decide +kernel
theorem dX8_read_48 : decode cX8_read 48 = .ok (.istore_n 1, 1) := by decide +kernel
theorem dX8_read_49 : decode cX8_read 49 = .ok (.iload_n 1, 1) := by decide +kernel
theorem dX8_read_50 : decode cX8_read 50 = .ok (.ifCond .eq 36, 3) := by decide +kernel
theorem dX8_read_53 : decode cX8_read 53 = .ok (.aload_n 0, 1) := by decide +kernel
theorem dX8_read_54 : decode cX8_read 54 = .ok (.getfield 154, 3) := by decide +kernel
theorem dX8_read_57 : decode cX8_read 57 = .ok (.ifCond .eq 29, 3) := by decide +kernel
theorem dX8_read_60 : decode cX8_read 60 = .ok (.aload_n 0, 1) := by decide +kernel
theorem dX8_read_61 : decode cX8_read 61 = .ok (.invokevirtual 206, 3) := by decide +kernel
theorem dX8_read_64 : decode cX8_read 64 = .ok (.istore_n 1, 1) := by decide +kernel
theorem dX8_read_65 : decode cX8_read 65 = .ok (.iload_n 1, 1) := by decide +kernel
theorem dX8_read_66 : decode cX8_read 66 = .ok (.ifCond .eq (-17), 3) := by decide +kernel
theorem dX8_read_69 : decode cX8_read 69 = .ok (.aload_n 0, 1) := by decide +kernel
theorem dX8_read_70 : decode cX8_read 70 = .ok (.dup, 1) := by decide +kernel
theorem dX8_read_71 : decode cX8_read 71 = .ok (.getfield 180, 3) := by decide +kernel
theorem dX8_read_74 : decode cX8_read 74 = .ok (.iconst 1, 1) := by decide +kernel
theorem dX8_read_75 : decode cX8_read 75 = .ok (.iadd, 1) := by decide +kernel
theorem dX8_read_76 : decode cX8_read 76 = .ok (.putfield 180, 3) := by decide +kernel
theorem dX8_read_79 : decode cX8_read 79 = .ok (.aload_n 0, 1) := by decide +kernel
theorem dX8_read_80 : decode cX8_read 80 = .ok (.invokevirtual 165, 3) := by decide +kernel
theorem dX8_read_83 : decode cX8_read 83 = .ok (.goto (-34), 3) := by decide +kernel
theorem dX8_read_86 : decode cX8_read 86 = .ok (.iload_n 1, 1) := by decide +kernel
theorem dX8_read_87 : decode cX8_read 87 = .ok (.ifCond .ne 11, 3) := by decide +kernel
theorem dX8_read_90 : decode cX8_read 90 = .ok (.bipush (-10), 2) := by decide +kernel
theorem dX8_read_92 : decode cX8_read 92 = .ok (.aload_n 0, 1) := by decide +kernel
theorem dX8_read_93 : decode cX8_read 93 = .ok (.getfield 142, 3) := by decide +kernel
theorem dX8_read_96 : decode cX8_read 96 = .ok (.isub, 1) := by decide +kernel
theorem dX8_read_97 : decode cX8_read 97 = .ok (.ireturn, 1) := by decide +kernel
theorem dX8_read_98 : decode cX8_read 98 = .ok (.iconst 0, 1) := by decide +kernel
theorem dX8_read_99 : decode cX8_read 99 = .ok (.istore_n 2, 1) := by decide +kernel
theorem dX8_read_100 : decode cX8_read 100 = .ok (.iload_n 2, 1) := by decide +kernel
theorem dX8_read_101 : decode cX8_read 101 = .ok (.sipush 168, 3) := by decide +kernel
theorem dX8_read_104 : decode cX8_read 104 = .ok (.if_icmp .ge 21, 3) := by decide +kernel
theorem dX8_read_107 : decode cX8_read 107 = .ok (.aload_n 0, 1) := by decide +kernel
theorem dX8_read_108 : decode cX8_read 108 = .ok (.getfield 7, 3) := by decide +kernel
theorem dX8_read_111 : decode cX8_read 111 = .ok (.iload_n 2, 1) := by decide +kernel
theorem dX8_read_112 : decode cX8_read 112 = .ok (.aload_n 0, 1) := by decide +kernel
theorem dX8_read_113 : decode cX8_read 113 = .ok (.getfield 26, 3) := by decide +kernel
theorem dX8_read_116 : decode cX8_read 116 = .ok (.iload_n 2, 1) := by decide +kernel
theorem dX8_read_117 : decode cX8_read 117 = .ok (.iaload, 1) := by decide +kernel
theorem dX8_read_118 : decode cX8_read 118 = .ok (.iastore, 1) := by decide +kernel
theorem dX8_read_119 : decode cX8_read 119 = .ok (.iinc 2 1, 3) := by decide +kernel
theorem dX8_read_122 : decode cX8_read 122 = .ok (.goto (-22), 3) := by decide +kernel
theorem dX8_read_125 : decode cX8_read 125 = .ok (.aload_n 0, 1) := by decide +kernel
theorem dX8_read_126 : decode cX8_read 126 = .ok (.iconst 0, 1) := by decide +kernel
theorem dX8_read_127 : decode cX8_read 127 = .ok (.putfield 94, 3) := by decide +kernel
theorem dX8_read_130 : decode cX8_read 130 = .ok (.aload_n 0, 1) := by decide +kernel
theorem dX8_read_131 : decode cX8_read 131 = .ok (.getfield 180, 3) := by decide +kernel
theorem dX8_read_134 : decode cX8_read 134 = .ok (.ireturn, 1) := by decide +kernel
theorem dX8_week_0 : decode cX8_week 0 = .ok (.iload_n 1, 1) := by decide +kernel
theorem dX8_week_1 : decode cX8_week 1 = .ok (.i2l, 1) := by decide +kernel
theorem dX8_week_2 : decode cX8_week 2 = .ok (.lconst 1, 1) := by decide +kernel
theorem dX8_week_3 : decode cX8_week 3 = .ok (.ldc2_w 209, 3) := by decide +kernel
theorem dX8_week_6 : decode cX8_week 6 = .ok (.invokestatic 60, 3) := by decide +kernel
theorem dX8_week_9 : decode cX8_week 9 = .ok (.ifCond .ne 8, 3) := by decide +kernel
theorem dX8_week_12 : decode cX8_week 12 = .ok (.aload_n 0, 1) := by decide +kernel
theorem dX8_week_13 : decode cX8_week 13 = .ok (.invokevirtual 103, 3) := by decide +kernel
theorem dX8_week_16 : decode cX8_week 16 = .ok (.ireturn, 1) := by decide +kernel
theorem dX8_week_17 : decode cX8_week 17 = .ok (.aload_n 0, 1) := by decide +kernel
theorem dX8_week_18 : decode cX8_week 18 = .ok (.invokevirtual 211, 3) := by decide +kernel
theorem dX8_week_21 : decode cX8_week 21 = .ok (.iconst 0, 1) := by decide +kernel
theorem dX8_week_22 : decode cX8_week 22 = .ok (.istore_n 2, 1) := by decide +kernel
theorem dX8_week_23 : decode cX8_week 23 = .ok (.iload_n 2, 1) := by decide +kernel
theorem dX8_week_24 : decode cX8_week 24 = .ok (.iload_n 1, 1) := by decide +kernel
theorem dX8_week_25 : decode cX8_week 25 = .ok (.if_icmp .ge 28, 3) := by decide +kernel
theorem dX8_week_28 : decode cX8_week 28 = .ok (.aload_n 0, 1) := by decide +kernel
theorem dX8_week_29 : decode cX8_week 29 = .ok (.getfield 7, 3) := by decide +kernel
theorem dX8_week_32 : decode cX8_week 32 = .ok (.iconst 3, 1) := by decide +kernel
theorem dX8_week_33 : decode cX8_week 33 = .ok (.iaload, 1) := by decide +kernel
theorem dX8_week_34 : decode cX8_week 34 = .ok (.sipush 999, 3) := by decide +kernel
theorem dX8_week_37 : decode cX8_week 37 = .ok (.if_icmp .ge 16, 3) := by decide +kernel
theorem dX8_week_40 : decode cX8_week 40 = .ok (.aload_n 0, 1) := by decide +kernel
theorem dX8_week_41 : decode cX8_week 41 = .ok (.getfield 7, 3) := by decide +kernel
theorem dX8_week_44 : decode cX8_week 44 = .ok (.invokestatic 172, 3) := by decide +kernel
theorem dX8_week_47 : decode cX8_week 47 = .ok (.iinc 2 1, 3) := by decide +kernel
theorem dX8_week_50 : decode cX8_week 50 = .ok (.goto (-27), 3) := by decide +kernel
theorem dX8_week_53 : decode cX8_week 53 = .ok (.aload_n 0, 1) := by decide +kernel
theorem dX8_week_54 : decode cX8_week 54 = .ok (.invokevirtual 214, 3) := by decide +kernel
theorem dX8_week_57 : decode cX8_week 57 = .ok (.ireturn, 1) := by decide +kernel
theorem dX8_openDoor_0 : decode cX8_openDoor 0 = .ok (.aload_n 0, 1) := by decide +kernel
theorem dX8_openDoor_1 : decode cX8_openDoor 1 = .ok (.getfield 7, 3) := by decide +kernel
theorem dX8_openDoor_4 : decode cX8_openDoor 4 = .ok (.bipush 18, 2) := by decide +kernel
theorem dX8_openDoor_6 : decode cX8_openDoor 6 = .ok (.bipush 10, 2) := by decide +kernel
theorem dX8_openDoor_8 : decode cX8_openDoor 8 = .ok (.iload_n 1, 1) := by decide +kernel
theorem dX8_openDoor_9 : decode cX8_openDoor 9 = .ok (.imul, 1) := by decide +kernel
theorem dX8_openDoor_10 : decode cX8_openDoor 10 = .ok (.iadd, 1) := by decide +kernel
theorem dX8_openDoor_11 : decode cX8_openDoor 11 = .ok (.aload_n 0, 1) := by decide +kernel
theorem dX8_openDoor_12 : decode cX8_openDoor 12 = .ok (.getfield 7, 3) := by decide +kernel
theorem dX8_openDoor_15 : decode cX8_openDoor 15 = .ok (.bipush 8, 2) := by decide +kernel
theorem dX8_openDoor_17 : decode cX8_openDoor 17 = .ok (.iload_n 1, 1) := by decide +kernel
theorem dX8_openDoor_18 : decode cX8_openDoor 18 = .ok (.iadd, 1) := by decide +kernel
theorem dX8_openDoor_19 : decode cX8_openDoor 19 = .ok (.iaload, 1) := by decide +kernel
theorem dX8_openDoor_20 : decode cX8_openDoor 20 = .ok (.invokestatic 217, 3) := by decide +kernel
theorem dX8_openDoor_23 : decode cX8_openDoor 23 = .ok (.invokestatic 90, 3) := by decide +kernel
theorem dX8_openDoor_26 : decode cX8_openDoor 26 = .ok (.return_, 1) := by decide +kernel
theorem dX8_door_0 : decode cX8_door 0 = .ok (.aload_n 0, 1) := by decide +kernel
theorem dX8_door_1 : decode cX8_door 1 = .ok (.iload_n 1, 1) := by decide +kernel
theorem dX8_door_2 : decode cX8_door 2 = .ok (.invokevirtual 116, 3) := by decide +kernel
theorem dX8_door_5 : decode cX8_door 5 = .ok (.ifCond .ne 8, 3) := by decide +kernel
theorem dX8_door_8 : decode cX8_door 8 = .ok (.aload_n 0, 1) := by decide +kernel
theorem dX8_door_9 : decode cX8_door 9 = .ok (.invokevirtual 103, 3) := by decide +kernel
theorem dX8_door_12 : decode cX8_door 12 = .ok (.ireturn, 1) := by decide +kernel
theorem dX8_door_13 : decode cX8_door 13 = .ok (.aload_n 0, 1) := by decide +kernel
theorem dX8_door_14 : decode cX8_door 14 = .ok (.invokevirtual 211, 3) := by decide +kernel
theorem dX8_door_17 : decode cX8_door 17 = .ok (.aload_n 0, 1) := by decide +kernel
theorem dX8_door_18 : decode cX8_door 18 = .ok (.iload_n 1, 1) := by decide +kernel
theorem dX8_door_19 : decode cX8_door 19 = .ok (.invokevirtual 220, 3) := by decide +kernel
theorem dX8_door_22 : decode cX8_door 22 = .ok (.aload_n 0, 1) := by decide +kernel
theorem dX8_door_23 : decode cX8_door 23 = .ok (.getfield 7, 3) := by decide +kernel
theorem dX8_door_26 : decode cX8_door 26 = .ok (.bipush 18, 2) := by decide +kernel
theorem dX8_door_28 : decode cX8_door 28 = .ok (.bipush 10, 2) := by decide +kernel
theorem dX8_door_30 : decode cX8_door 30 = .ok (.iload_n 1, 1) := by decide +kernel
theorem dX8_door_31 : decode cX8_door 31 = .ok (.imul, 1) := by decide +kernel
theorem dX8_door_32 : decode cX8_door 32 = .ok (.iadd, 1) := by decide +kernel
theorem dX8_door_33 : decode cX8_door 33 = .ok (.invokestatic 83, 3) := by decide +kernel
theorem dX8_door_36 : decode cX8_door 36 = .ok (.ireturn, 1) := by decide +kernel
theorem dX8_throwing_0 : decode cX8_throwing 0 = .ok (.aload_n 0, 1) := by decide +kernel
theorem dX8_throwing_1 : decode cX8_throwing 1 = .ok (.iload_n 1, 1) := by decide +kernel
theorem dX8_throwing_2 : decode cX8_throwing 2 = .ok (.invokevirtual 223, 3) := by decide +kernel
theorem dX8_throwing_5 : decode cX8_throwing 5 = .ok (.ifCond .eq 32, 3) := by decide +kernel
theorem dX8_throwing_8 : decode cX8_throwing 8 = .ok (.aload_n 0, 1) := by decide +kernel
theorem dX8_throwing_9 : decode cX8_throwing 9 = .ok (.iload_n 2, 1) := by decide +kernel
theorem dX8_throwing_10 : decode cX8_throwing 10 = .ok (.invokevirtual 116, 3) := by decide +kernel
theorem dX8_throwing_13 : decode cX8_throwing 13 = .ok (.ifCond .eq 24, 3) := by decide +kernel
theorem dX8_throwing_16 : decode cX8_throwing 16 = .ok (.iload_n 3, 1) := by decide +kernel
theorem dX8_throwing_17 : decode cX8_throwing 17 = .ok (.i2l, 1) := by decide +kernel
theorem dX8_throwing_18 : decode cX8_throwing 18 = .ok (.lconst 1, 1) := by decide +kernel
theorem dX8_throwing_19 : decode cX8_throwing 19 = .ok (.ldc2_w 101, 3) := by decide +kernel
theorem dX8_throwing_22 : decode cX8_throwing 22 = .ok (.invokestatic 60, 3) := by decide +kernel
theorem dX8_throwing_25 : decode cX8_throwing 25 = .ok (.ifCond .eq 12, 3) := by decide +kernel
theorem dX8_throwing_28 : decode cX8_throwing 28 = .ok (.aload_n 0, 1) := by decide +kernel
theorem dX8_throwing_29 : decode cX8_throwing 29 = .ok (.iload 4, 2) := by decide +kernel
theorem dX8_throwing_31 : decode cX8_throwing 31 = .ok (.invokevirtual 226, 3) := by decide +kernel
theorem dX8_throwing_34 : decode cX8_throwing 34 = .ok (.ifCond .ne 8, 3) := by decide +kernel
theorem dX8_throwing_37 : decode cX8_throwing 37 = .ok (.aload_n 0, 1) := by decide +kernel
theorem dX8_throwing_38 : decode cX8_throwing 38 = .ok (.invokevirtual 103, 3) := by decide +kernel
theorem dX8_throwing_41 : decode cX8_throwing 41 = .ok (.ireturn, 1) := by decide +kernel
theorem dX8_throwing_42 : decode cX8_throwing 42 = .ok (.aload_n 0, 1) := by decide +kernel
theorem dX8_throwing_43 : decode cX8_throwing 43 = .ok (.getfield 7, 3) := by decide +kernel
theorem dX8_throwing_46 : decode cX8_throwing 46 = .ok (.bipush 18, 2) := by decide +kernel
theorem dX8_throwing_48 : decode cX8_throwing 48 = .ok (.bipush 10, 2) := by decide +kernel
theorem dX8_throwing_50 : decode cX8_throwing 50 = .ok (.iload_n 2, 1) := by decide +kernel
theorem dX8_throwing_51 : decode cX8_throwing 51 = .ok (.imul, 1) := by decide +kernel
theorem dX8_throwing_52 : decode cX8_throwing 52 = .ok (.iadd, 1) := by decide +kernel
theorem dX8_throwing_53 : decode cX8_throwing 53 = .ok (.iload_n 3, 1) := by decide +kernel
theorem dX8_throwing_54 : decode cX8_throwing 54 = .ok (.iadd, 1) := by decide +kernel
theorem dX8_throwing_55 : decode cX8_throwing 55 = .ok (.iaload, 1) := by decide +kernel
theorem dX8_throwing_56 : decode cX8_throwing 56 = .ok (.ifCond .eq 16, 3) := by decide +kernel
theorem dX8_throwing_59 : decode cX8_throwing 59 = .ok (.aload_n 0, 1) := by decide +kernel
theorem dX8_throwing_60 : decode cX8_throwing 60 = .ok (.getfield 7, 3) := by decide +kernel
theorem dX8_throwing_63 : decode cX8_throwing 63 = .ok (.bipush 80, 2) := by decide +kernel
theorem dX8_throwing_65 : decode cX8_throwing 65 = .ok (.iload 4, 2) := by decide +kernel
theorem dX8_throwing_67 : decode cX8_throwing 67 = .ok (.iadd, 1) := by decide +kernel
theorem dX8_throwing_68 : decode cX8_throwing 68 = .ok (.iaload, 1) := by decide +kernel
theorem dX8_throwing_69 : decode cX8_throwing 69 = .ok (.ifCond .ne 8, 3) := by decide +kernel
theorem dX8_throwing_72 : decode cX8_throwing 72 = .ok (.aload_n 0, 1) := by decide +kernel
