theorem dX5_init_0 : decode cX5_init 0 = .ok (.aload_n 0, 1) := by decide +kernel
theorem dX5_init_1 : decode cX5_init 1 = .ok (.invokespecial 1, 3) := by decide +kernel
theorem dX5_init_4 : decode cX5_init 4 = .ok (.aload_n 0, 1) := by decide +kernel
theorem dX5_init_5 : decode cX5_init 5 = .ok (.new 7, 3) := by decide +kernel
theorem dX5_init_8 : decode cX5_init 8 = .ok (.dup, 1) := by decide +kernel
theorem dX5_init_9 : decode cX5_init 9 = .ok (.invokespecial 9, 3) := by decide +kernel
theorem dX5_init_12 : decode cX5_init 12 = .ok (.putfield 10, 3) := by decide +kernel
theorem dX5_init_15 : decode cX5_init 15 = .ok (.aload_n 0, 1) := by decide +kernel
theorem dX5_init_16 : decode cX5_init 16 = .ok (.new 7, 3) := by decide +kernel
theorem dX5_init_19 : decode cX5_init 19 = .ok (.dup, 1) := by decide +kernel
theorem dX5_init_20 : decode cX5_init 20 = .ok (.invokespecial 9, 3) := by decide +kernel
theorem dX5_init_23 : decode cX5_init 23 = .ok (.putfield 16, 3) := by decide +kernel
theorem dX5_init_26 : decode cX5_init 26 = .ok (.aload_n 0, 1) := by decide +kernel
theorem dX5_init_27 : decode cX5_init 27 = .ok (.new 7, 3) := by decide +kernel
theorem dX5_init_30 : decode cX5_init 30 = .ok (.dup, 1) := by decide +kernel
theorem dX5_init_31 : decode cX5_init 31 = .ok (.invokespecial 9, 3) := by decide +kernel
theorem dX5_init_34 : decode cX5_init 34 = .ok (.putfield 19, 3) := by decide +kernel
theorem dX5_init_37 : decode cX5_init 37 = .ok (.aload_n 0, 1) := by decide +kernel
theorem dX5_init_38 : decode cX5_init 38 = .ok (.new 22, 3) := by decide +kernel
theorem dX5_init_41 : decode cX5_init 41 = .ok (.dup, 1) := by decide +kernel
theorem dX5_init_42 : decode cX5_init 42 = .ok (.invokespecial 24, 3) := by decide +kernel
theorem dX5_init_45 : decode cX5_init 45 = .ok (.putfield 25, 3) := by decide +kernel
theorem dX5_init_48 : decode cX5_init 48 = .ok (.aload_n 0, 1) := by decide +kernel
theorem dX5_init_49 : decode cX5_init 49 = .ok (.bipush 10, 2) := by decide +kernel
theorem dX5_init_51 : decode cX5_init 51 = .ok (.iconst 3, 1) := by decide +kernel
theorem dX5_init_52 : decode cX5_init 52 = .ok (.multianewarray 29 2, 4) := by decide +kernel
theorem dX5_init_56 : decode cX5_init 56 = .ok (.putfield 31, 3) := by decide +kernel
theorem dX5_init_59 : decode cX5_init 59 = .ok (.aload_n 0, 1) := by decide +kernel
theorem dX5_init_60 : decode cX5_init 60 = .ok (.iconst 4, 1) := by decide +kernel
theorem dX5_init_61 : decode cX5_init 61 = .ok (.anewarray 34, 3) := by decide +kernel
theorem dX5_init_64 : decode cX5_init 64 = .ok (.putfield 36, 3) := by decide +kernel
theorem dX5_init_67 : decode cX5_init 67 = .ok (.iconst 0, 1) := by decide +kernel
theorem dX5_init_68 : decode cX5_init 68 = .ok (.istore_n 1, 1) := by decide +kernel
theorem dX5_init_69 : decode cX5_init 69 = .ok (.iload_n 1, 1) := by decide +kernel
theorem dX5_init_70 : decode cX5_init 70 = .ok (.iconst 4, 1) := by decide +kernel
theorem dX5_init_71 : decode cX5_init 71 = .ok (.if_icmp .ge 22, 3) := by decide +kernel
theorem dX5_init_74 : decode cX5_init 74 = .ok (.aload_n 0, 1) := by decide +kernel
theorem dX5_init_75 : decode cX5_init 75 = .ok (.getfield 36, 3) := by decide +kernel
theorem dX5_init_78 : decode cX5_init 78 = .ok (.iload_n 1, 1) := by decide +kernel
theorem dX5_init_79 : decode cX5_init 79 = .ok (.new 34, 3) := by decide +kernel
theorem dX5_init_82 : decode cX5_init 82 = .ok (.dup, 1) := by decide +kernel
theorem dX5_init_83 : decode cX5_init 83 = .ok (.invokespecial 40, 3) := by decide +kernel
theorem dX5_init_86 : decode cX5_init 86 = .ok (.aastore, 1) := by decide +kernel
theorem dX5_init_87 : decode cX5_init 87 = .ok (.iinc 1 1, 3) := by decide +kernel
theorem dX5_init_90 : decode cX5_init 90 = .ok (.goto (-21), 3) := by decide +kernel
theorem dX5_init_93 : decode cX5_init 93 = .ok (.aload_n 0, 1) := by decide +kernel
theorem dX5_init_94 : decode cX5_init 94 = .ok (.iconst 4, 1) := by decide +kernel
theorem dX5_init_95 : decode cX5_init 95 = .ok (.anewarray 41, 3) := by decide +kernel
theorem dX5_init_98 : decode cX5_init 98 = .ok (.putfield 43, 3) := by decide +kernel
theorem dX5_init_101 : decode cX5_init 101 = .ok (.iconst 0, 1) := by decide +kernel
theorem dX5_init_102 : decode cX5_init 102 = .ok (.istore_n 1, 1) := by decide +kernel
theorem dX5_init_103 : decode cX5_init 103 = .ok (.iload_n 1, 1) := by decide +kernel
theorem dX5_init_104 : decode cX5_init 104 = .ok (.iconst 4, 1) := by decide +kernel
theorem dX5_init_105 : decode cX5_init 105 = .ok (.if_icmp .ge 22, 3) := by decide +kernel
theorem dX5_init_108 : decode cX5_init 108 = .ok (.aload_n 0, 1) := by decide +kernel
theorem dX5_init_109 : decode cX5_init 109 = .ok (.getfield 43, 3) := by decide +kernel
theorem dX5_init_112 : decode cX5_init 112 = .ok (.iload_n 1, 1) := by decide +kernel
theorem dX5_init_113 : decode cX5_init 113 = .ok (.new 41, 3) := by decide +kernel
theorem dX5_init_116 : decode cX5_init 116 = .ok (.dup, 1) := by decide +kernel
theorem dX5_init_117 : decode cX5_init 117 = .ok (.invokespecial 47, 3) := by decide +kernel
theorem dX5_init_120 : decode cX5_init 120 = .ok (.aastore, 1) := by decide +kernel
theorem dX5_init_121 : decode cX5_init 121 = .ok (.iinc 1 1, 3) := by decide +kernel
theorem dX5_init_124 : decode cX5_init 124 = .ok (.goto (-21), 3) := by decide +kernel
theorem dX5_init_127 : decode cX5_init 127 = .ok (.aload_n 0, 1) := by decide +kernel
theorem dX5_init_128 : decode cX5_init 128 = .ok (.new 48, 3) := by decide +kernel
theorem dX5_init_131 : decode cX5_init 131 = .ok (.dup, 1) := by decide +kernel
theorem dX5_init_132 : decode cX5_init 132 = .ok (.invokespecial 50, 3) := by decide +kernel
theorem dX5_init_135 : decode cX5_init 135 = .ok (.putfield 51, 3) := by decide +kernel
theorem dX5_init_138 : decode cX5_init 138 = .ok (.return_, 1) := by decide +kernel
theorem dX5_feed_0 : decode cX5_feed 0 = .ok (.iload_n 3, 1) := by decide +kernel
theorem dX5_feed_1 : decode cX5_feed 1 = .ok (.iconst 1, 1) := by decide +kernel
theorem dX5_feed_2 : decode cX5_feed 2 = .ok (.bipush 8, 2) := by decide +kernel
theorem dX5_feed_4 : decode cX5_feed 4 = .ok (.invokestatic 55, 3) := by decide +kernel
theorem dX5_feed_7 : decode cX5_feed 7 = .ok (.ifCond .ne 5, 3) := by decide +kernel
theorem dX5_feed_10 : decode cX5_feed 10 = .ok (.iconst (-1), 1) := by decide +kernel
theorem dX5_feed_11 : decode cX5_feed 11 = .ok (.ireturn, 1) := by decide +kernel
theorem dX5_feed_12 : decode cX5_feed 12 = .ok (.aload_n 0, 1) := by decide +kernel
theorem dX5_feed_13 : decode cX5_feed 13 = .ok (.getfield 25, 3) := by decide +kernel
theorem dX5_feed_16 : decode cX5_feed 16 = .ok (.getfield 59, 3) := by decide +kernel
theorem dX5_feed_19 : decode cX5_feed 19 = .ok (.iload_n 3, 1) := by decide +kernel
theorem dX5_feed_20 : decode cX5_feed 20 = .ok (.iadd, 1) := by decide +kernel
theorem dX5_feed_21 : decode cX5_feed 21 = .ok (.sipush 200, 3) := by decide +kernel
theorem dX5_feed_24 : decode cX5_feed 24 = .ok (.if_icmp .le 6, 3) := by decide +kernel
theorem dX5_feed_27 : decode cX5_feed 27 = .ok (.bipush (-2), 2) := by decide +kernel
theorem dX5_feed_29 : decode cX5_feed 29 = .ok (.ireturn, 1) := by decide +kernel
theorem dX5_feed_30 : decode cX5_feed 30 = .ok (.iconst 0, 1) := by decide +kernel
theorem dX5_feed_31 : decode cX5_feed 31 = .ok (.istore 4, 2) := by decide +kernel
theorem dX5_feed_33 : decode cX5_feed 33 = .ok (.iload 4, 2) := by decide +kernel
theorem dX5_feed_35 : decode cX5_feed 35 = .ok (.iload_n 3, 1) := by decide +kernel
theorem dX5_feed_36 : decode cX5_feed 36 = .ok (.if_icmp .ge 25, 3) := by decide +kernel
theorem dX5_feed_39 : decode cX5_feed 39 = .ok (.aload_n 0, 1) := by decide +kernel
theorem dX5_feed_40 : decode cX5_feed 40 = .ok (.getfield 25, 3) := by decide +kernel
theorem dX5_feed_43 : decode cX5_feed 43 = .ok (.lload_n 1, 1) := by decide +kernel
theorem dX5_feed_44 : decode cX5_feed 44 = .ok (.bipush 8, 2) := by decide +kernel
theorem dX5_feed_46 : decode cX5_feed 46 = .ok (.iload 4, 2) := by decide +kernel
theorem dX5_feed_48 : decode cX5_feed 48 = .ok (.imul, 1) := by decide +kernel
theorem dX5_feed_49 : decode cX5_feed 49 = .ok (.lushr, 1) := by decide +kernel
theorem dX5_feed_50 : decode cX5_feed 50 = .ok (.l2i, 1) := by decide +kernel
theorem dX5_feed_51 : decode cX5_feed 51 = .ok (.i2b, 1) := by decide +kernel
theorem dX5_feed_52 : decode cX5_feed 52 = .ok (.invokevirtual 63, 3) := by decide +kernel
theorem dX5_feed_55 : decode cX5_feed 55 = .ok (.iinc 4 1, 3) := by decide +kernel
theorem dX5_feed_58 : decode cX5_feed 58 = .ok (.goto (-25), 3) := by decide +kernel
theorem dX5_feed_61 : decode cX5_feed 61 = .ok (.aload_n 0, 1) := by decide +kernel
theorem dX5_feed_62 : decode cX5_feed 62 = .ok (.getfield 25, 3) := by decide +kernel
theorem dX5_feed_65 : decode cX5_feed 65 = .ok (.getfield 59, 3) := by decide +kernel
theorem dX5_feed_68 : decode cX5_feed 68 = .ok (.ireturn, 1) := by decide +kernel
theorem dX5_parish_0 : decode cX5_parish 0 = .ok (.aload_n 0, 1) := by decide +kernel
theorem dX5_parish_1 : decode cX5_parish 1 = .ok (.getfield 19, 3) := by decide +kernel
theorem dX5_parish_4 : decode cX5_parish 4 = .ok (.invokevirtual 67, 3) := by decide +kernel
theorem dX5_parish_7 : decode cX5_parish 7 = .ok (.aload_n 0, 1) := by decide +kernel
theorem dX5_parish_8 : decode cX5_parish 8 = .ok (.getfield 19, 3) := by decide +kernel
theorem dX5_parish_11 : decode cX5_parish 11 = .ok (.aload_n 0, 1) := by decide +kernel
theorem dX5_parish_12 : decode cX5_parish 12 = .ok (.getfield 10, 3) := by decide +kernel
theorem dX5_parish_15 : decode cX5_parish 15 = .ok (.getfield 70, 3) := by decide +kernel
theorem dX5_parish_18 : decode cX5_parish 18 = .ok (.putfield 70, 3) := by decide +kernel
theorem dX5_parish_21 : decode cX5_parish 21 = .ok (.aload_n 0, 1) := by decide +kernel
theorem dX5_parish_22 : decode cX5_parish 22 = .ok (.getfield 25, 3) := by decide +kernel
theorem dX5_parish_25 : decode cX5_parish 25 = .ok (.aload_n 0, 1) := by decide +kernel
theorem dX5_parish_26 : decode cX5_parish 26 = .ok (.getfield 19, 3) := by decide +kernel
theorem dX5_parish_29 : decode cX5_parish 29 = .ok (.invokevirtual 73, 3) := by decide +kernel
theorem dX5_parish_32 : decode cX5_parish 32 = .ok (.istore_n 1, 1) := by decide +kernel
theorem dX5_parish_33 : decode cX5_parish 33 = .ok (.aload_n 0, 1) := by decide +kernel
theorem dX5_parish_34 : decode cX5_parish 34 = .ok (.getfield 25, 3) := by decide +kernel
theorem dX5_parish_37 : decode cX5_parish 37 = .ok (.iconst 0, 1) := by decide +kernel
theorem dX5_parish_38 : decode cX5_parish 38 = .ok (.putfield 59, 3) := by decide +kernel
theorem dX5_parish_41 : decode cX5_parish 41 = .ok (.iload_n 1, 1) := by decide +kernel
theorem dX5_parish_42 : decode cX5_parish 42 = .ok (.ifCond .lt 8, 3) := by decide +kernel
theorem dX5_parish_45 : decode cX5_parish 45 = .ok (.bipush (-100), 2) := by decide +kernel
theorem dX5_parish_47 : decode cX5_parish 47 = .ok (.iload_n 1, 1) := by decide +kernel
theorem dX5_parish_48 : decode cX5_parish 48 = .ok (.isub, 1) := by decide +kernel
theorem dX5_parish_49 : decode cX5_parish 49 = .ok (.ireturn, 1) := by decide +kernel
theorem dX5_parish_50 : decode cX5_parish 50 = .ok (.aload_n 0, 1) := by decide +kernel
theorem dX5_parish_51 : decode cX5_parish 51 = .ok (.getfield 10, 3) := by decide +kernel
theorem dX5_parish_54 : decode cX5_parish 54 = .ok (.aload_n 0, 1) := by decide +kernel
theorem dX5_parish_55 : decode cX5_parish 55 = .ok (.getfield 19, 3) := by decide +kernel
theorem dX5_parish_58 : decode cX5_parish 58 = .ok (.invokevirtual 77, 3) := by decide +kernel
theorem dX5_parish_61 : decode cX5_parish 61 = .ok (.aload_n 0, 1) := by decide +kernel
theorem dX5_parish_62 : decode cX5_parish 62 = .ok (.iconst 0, 1) := by decide +kernel
theorem dX5_parish_63 : decode cX5_parish 63 = .ok (.putfield 81, 3) := by decide +kernel
theorem dX5_parish_66 : decode cX5_parish 66 = .ok (.aload_n 0, 1) := by decide +kernel
theorem dX5_parish_67 : decode cX5_parish 67 = .ok (.getfield 10, 3) := by decide +kernel
theorem dX5_parish_70 : decode cX5_parish 70 = .ok (.getfield 84, 3) := by decide +kernel
theorem dX5_parish_73 : decode cX5_parish 73 = .ok (.ireturn, 1) := by decide +kernel
theorem dX5_set_0 : decode cX5_set 0 = .ok (.iload_n 1, 1) := by decide +kernel
theorem dX5_set_1 : decode cX5_set 1 = .ok (.iconst 0, 1) := by decide +kernel
theorem dX5_set_2 : decode cX5_set 2 = .ok (.iconst 3, 1) := by decide +kernel
theorem dX5_set_3 : decode cX5_set 3 = .ok (.invokestatic 55, 3) := by decide +kernel
theorem dX5_set_6 : decode cX5_set 6 = .ok (.ifCond .eq 16, 3) := by decide +kernel
theorem dX5_set_9 : decode cX5_set 9 = .ok (.iload_n 2, 1) := by decide +kernel
theorem dX5_set_10 : decode cX5_set 10 = .ok (.iconst 0, 1) := by decide +kernel
theorem dX5_set_11 : decode cX5_set 11 = .ok (.getstatic 87, 3) := by decide +kernel
theorem dX5_set_14 : decode cX5_set 14 = .ok (.iload_n 1, 1) := by decide +kernel
theorem dX5_set_15 : decode cX5_set 15 = .ok (.iaload, 1) := by decide +kernel
theorem dX5_set_16 : decode cX5_set 16 = .ok (.invokestatic 55, 3) := by decide +kernel
theorem dX5_set_19 : decode cX5_set 19 = .ok (.ifCond .ne 5, 3) := by decide +kernel
theorem dX5_set_22 : decode cX5_set 22 = .ok (.iconst (-1), 1) := by decide +kernel
theorem dX5_set_23 : decode cX5_set 23 = .ok (.ireturn, 1) := by decide +kernel
theorem dX5_set_24 : decode cX5_set 24 = .ok (.aload_n 0, 1) := by decide +kernel
theorem dX5_set_25 : decode cX5_set 25 = .ok (.getfield 10, 3) := by decide +kernel
theorem dX5_set_28 : decode cX5_set 28 = .ok (.getfield 91, 3) := by decide +kernel
theorem dX5_set_31 : decode cX5_set 31 = .ok (.iload_n 1, 1) := by decide +kernel
theorem dX5_set_32 : decode cX5_set 32 = .ok (.iaload, 1) := by decide +kernel
theorem dX5_set_33 : decode cX5_set 33 = .ok (.istore_n 3, 1) := by decide +kernel
theorem dX5_set_34 : decode cX5_set 34 = .ok (.aload_n 0, 1) := by decide +kernel
theorem dX5_set_35 : decode cX5_set 35 = .ok (.getfield 10, 3) := by decide +kernel
theorem dX5_set_38 : decode cX5_set 38 = .ok (.getfield 91, 3) := by decide +kernel
theorem dX5_set_41 : decode cX5_set 41 = .ok (.iload_n 1, 1) := by decide +kernel
theorem dX5_set_42 : decode cX5_set 42 = .ok (.iload_n 2, 1) := by decide +kernel
theorem dX5_set_43 : decode cX5_set 43 = .ok (.iastore, 1) := by decide +kernel
theorem dX5_set_44 : decode cX5_set 44 = .ok (.iload_n 3, 1) := by decide +kernel
theorem dX5_set_45 : decode cX5_set 45 = .ok (.ireturn, 1) := by decide +kernel
theorem dX5_lawOf_0 : decode cX5_lawOf 0 = .ok (.iload_n 1, 1) := by decide +kernel
theorem dX5_lawOf_1 : decode cX5_lawOf 1 = .ok (.iconst 0, 1) := by decide +kernel
theorem dX5_lawOf_2 : decode cX5_lawOf 2 = .ok (.iconst 3, 1) := by decide +kernel
theorem dX5_lawOf_3 : decode cX5_lawOf 3 = .ok (.invokestatic 55, 3) := by decide +kernel
theorem dX5_lawOf_6 : decode cX5_lawOf 6 = .ok (.ifCond .eq 15, 3) := by decide +kernel
theorem dX5_lawOf_9 : decode cX5_lawOf 9 = .ok (.aload_n 0, 1) := by decide +kernel
theorem dX5_lawOf_10 : decode cX5_lawOf 10 = .ok (.getfield 10, 3) := by decide +kernel
theorem dX5_lawOf_13 : decode cX5_lawOf 13 = .ok (.getfield 91, 3) := by decide +kernel
theorem dX5_lawOf_16 : decode cX5_lawOf 16 = .ok (.iload_n 1, 1) := by decide +kernel
theorem dX5_lawOf_17 : decode cX5_lawOf 17 = .ok (.iaload, 1) := by decide +kernel
theorem dX5_lawOf_18 : decode cX5_lawOf 18 = .ok (.goto 4, 3) := by decide +kernel
theorem dX5_lawOf_21 : decode cX5_lawOf 21 = .ok (.iconst (-1), 1) := by decide +kernel
theorem dX5_lawOf_22 : decode cX5_lawOf 22 = .ok (.ireturn, 1) := by decide +kernel
theorem dX5_tale_0 : decode cX5_tale 0 = .ok (.iload_n 1, 1) := by decide +kernel
theorem dX5_tale_1 : decode cX5_tale 1 = .ok (.invokestatic 94, 3) := by decide +kernel
theorem dX5_tale_4 : decode cX5_tale 4 = .ok (.ifCond .eq 17, 3) := by decide +kernel
theorem dX5_tale_7 : decode cX5_tale 7 = .ok (.iload_n 2, 1) := by decide +kernel
theorem dX5_tale_8 : decode cX5_tale 8 = .ok (.invokestatic 98, 3) := by decide +kernel
theorem dX5_tale_11 : decode cX5_tale 11 = .ok (.ifCond .eq 10, 3) := by decide +kernel
theorem dX5_tale_14 : decode cX5_tale 14 = .ok (.iload_n 3, 1) := by decide +kernel
theorem dX5_tale_15 : decode cX5_tale 15 = .ok (.invokestatic 101, 3) := by decide +kernel
theorem dX5_tale_18 : decode cX5_tale 18 = .ok (.ifCond .ne 5, 3) := by decide +kernel
theorem dX5_tale_21 : decode cX5_tale 21 = .ok (.iconst (-1), 1) := by decide +kernel
theorem dX5_tale_22 : decode cX5_tale 22 = .ok (.ireturn, 1) := by decide +kernel
theorem dX5_tale_23 : decode cX5_tale 23 = .ok (.aload_n 0, 1) := by decide +kernel
theorem dX5_tale_24 : decode cX5_tale 24 = .ok (.getfield 10, 3) := by decide +kernel
theorem dX5_tale_27 : decode cX5_tale 27 = .ok (.getfield 84, 3) := by decide +kernel
theorem dX5_tale_30 : decode cX5_tale 30 = .ok (.bipush 8, 2) := by decide +kernel
theorem dX5_tale_32 : decode cX5_tale 32 = .ok (.if_icmp .lt 6, 3) := by decide +kernel
theorem dX5_tale_35 : decode cX5_tale 35 = .ok (.bipush (-2), 2) := by decide +kernel
theorem dX5_tale_37 : decode cX5_tale 37 = .ok (.ireturn, 1) := by decide +kernel
theorem dX5_tale_38 : decode cX5_tale 38 = .ok (.aload_n 0, 1) := by decide +kernel
theorem dX5_tale_39 : decode cX5_tale 39 = .ok (.getfield 10, 3) := by decide +kernel
theorem dX5_tale_42 : decode cX5_tale 42 = .ok (.iload_n 1, 1) := by decide +kernel
theorem dX5_tale_43 : decode cX5_tale 43 = .ok (.iload_n 2, 1) := by decide +kernel
theorem dX5_tale_44 : decode cX5_tale 44 = .ok (.iload_n 3, 1) := by decide +kernel
theorem dX5_tale_45 : decode cX5_tale 45 = .ok (.invokevirtual 104, 3) := by decide +kernel
theorem dX5_tale_48 : decode cX5_tale 48 = .ok (.ireturn, 1) := by decide +kernel
theorem dX5_of_0 : decode cX5_of 0 = .ok (.aload_n 0, 1) := by decide +kernel
theorem dX5_of_1 : decode cX5_of 1 = .ok (.iload_n 1, 1) := by decide +kernel
theorem dX5_of_2 : decode cX5_of 2 = .ok (.invokevirtual 108, 3) := by decide +kernel
theorem dX5_of_5 : decode cX5_of 5 = .ok (.ifCond .ne 5, 3) := by decide +kernel
theorem dX5_of_8 : decode cX5_of 8 = .ok (.iconst (-1), 1) := by decide +kernel
theorem dX5_of_9 : decode cX5_of 9 = .ok (.ireturn, 1) := by decide +kernel
theorem dX5_of_10 : decode cX5_of 10 = .ok (.iload_n 2, 1) := by decide +kernel
theorem dX5_of_11 : decode cX5_of 11 = .ok (.tableswitch 69 0 3 #[29, 39, 49, 59], 29) := by decide +kernel
theorem dX5_of_40 : decode cX5_of 40 = .ok (.aload_n 0, 1) := by decide +kernel
theorem dX5_of_41 : decode cX5_of 41 = .ok (.getfield 10, 3) := by decide +kernel
theorem dX5_of_44 : decode cX5_of 44 = .ok (.getfield 111, 3) := by decide +kernel
theorem dX5_of_47 : decode cX5_of 47 = .ok (.iload_n 1, 1) := by decide +kernel
theorem dX5_of_48 : decode cX5_of 48 = .ok (.iaload, 1) := by decide +kernel
theorem dX5_of_49 : decode cX5_of 49 = .ok (.ireturn, 1) := by decide +kernel
theorem dX5_of_50 : decode cX5_of 50 = .ok (.aload_n 0, 1) := by decide +kernel
theorem dX5_of_51 : decode cX5_of 51 = .ok (.getfield 10, 3) := by decide +kernel
theorem dX5_of_54 : decode cX5_of 54 = .ok (.getfield 114, 3) := by decide +kernel
theorem dX5_of_57 : decode cX5_of 57 = .ok (.iload_n 1, 1) := by decide +kernel
theorem dX5_of_58 : decode cX5_of 58 = .ok (.iaload, 1) := by decide +kernel
theorem dX5_of_59 : decode cX5_of 59 = .ok (.ireturn, 1) := by decide +kernel
theorem dX5_of_60 : decode cX5_of 60 = .ok (.aload_n 0, 1) := by decide +kernel
theorem dX5_of_61 : decode cX5_of 61 = .ok (.getfield 10, 3) := by decide +kernel
theorem dX5_of_64 : decode cX5_of 64 = .ok (.getfield 117, 3) := by decide +kernel
theorem dX5_of_67 : decode cX5_of 67 = .ok (.iload_n 1, 1) := by decide +kernel
theorem dX5_of_68 : decode cX5_of 68 = .ok (.iaload, 1) := by decide +kernel
theorem dX5_of_69 : decode cX5_of 69 = .ok (.ireturn, 1) := by decide +kernel
theorem dX5_of_70 : decode cX5_of 70 = .ok (.aload_n 0, 1) := by decide +kernel
theorem dX5_of_71 : decode cX5_of 71 = .ok (.getfield 10, 3) := by decide +kernel
theorem dX5_of_74 : decode cX5_of 74 = .ok (.getfield 120, 3) := by decide +kernel
theorem dX5_of_77 : decode cX5_of 77 = .ok (.iload_n 1, 1) := by decide +kernel
theorem dX5_of_78 : decode cX5_of 78 = .ok (.iaload, 1) := by decide +kernel
theorem dX5_of_79 : decode cX5_of 79 = .ok (.ireturn, 1) := by decide +kernel
theorem dX5_of_80 : decode cX5_of 80 = .ok (.iconst (-1), 1) := by decide +kernel
theorem dX5_of_81 : decode cX5_of 81 = .ok (.ireturn, 1) := by decide +kernel
theorem dX5_does_0 : decode cX5_does 0 = .ok (.aload_n 0, 1) := by decide +kernel
theorem dX5_does_1 : decode cX5_does 1 = .ok (.iload_n 1, 1) := by decide +kernel
theorem dX5_does_2 : decode cX5_does 2 = .ok (.invokevirtual 108, 3) := by decide +kernel
theorem dX5_does_5 : decode cX5_does 5 = .ok (.ifCond .eq 12, 3) := by decide +kernel
theorem dX5_does_8 : decode cX5_does 8 = .ok (.iload_n 2, 1) := by decide +kernel
theorem dX5_does_9 : decode cX5_does 9 = .ok (.iconst 0, 1) := by decide +kernel
theorem dX5_does_10 : decode cX5_does 10 = .ok (.iconst 1, 1) := by decide +kernel
theorem dX5_does_11 : decode cX5_does 11 = .ok (.invokestatic 55, 3) := by decide +kernel
theorem dX5_does_14 : decode cX5_does 14 = .ok (.ifCond .ne 5, 3) := by decide +kernel
theorem dX5_does_17 : decode cX5_does 17 = .ok (.iconst (-1), 1) := by decide +kernel
theorem dX5_does_18 : decode cX5_does 18 = .ok (.ireturn, 1) := by decide +kernel
theorem dX5_does_19 : decode cX5_does 19 = .ok (.sipush 1000, 3) := by decide +kernel
theorem dX5_does_22 : decode cX5_does 22 = .ok (.iload_n 2, 1) := by decide +kernel
theorem dX5_does_23 : decode cX5_does 23 = .ok (.ifCond .ne 14, 3) := by decide +kernel
theorem dX5_does_26 : decode cX5_does 26 = .ok (.aload_n 0, 1) := by decide +kernel
theorem dX5_does_27 : decode cX5_does 27 = .ok (.getfield 10, 3) := by decide +kernel
theorem dX5_does_30 : decode cX5_does 30 = .ok (.iload_n 1, 1) := by decide +kernel
theorem dX5_does_31 : decode cX5_does 31 = .ok (.invokevirtual 123, 3) := by decide +kernel
theorem dX5_does_34 : decode cX5_does 34 = .ok (.goto 11, 3) := by decide +kernel
theorem dX5_does_37 : decode cX5_does 37 = .ok (.aload_n 0, 1) := by decide +kernel
theorem dX5_does_38 : decode cX5_does 38 = .ok (.getfield 10, 3) := by decide +kernel
theorem dX5_does_41 : decode cX5_does 41 = .ok (.iload_n 1, 1) := by decide +kernel
theorem dX5_does_42 : decode cX5_does 42 = .ok (.invokevirtual 127, 3) := by decide +kernel
theorem dX5_does_45 : decode cX5_does 45 = .ok (.iadd, 1) := by decide +kernel
theorem dX5_does_46 : decode cX5_does 46 = .ok (.ireturn, 1) := by decide +kernel
theorem dX5_mind_0 : decode cX5_mind 0 = .ok (.aload_n 0, 1) := by decide +kernel
theorem dX5_mind_1 : decode cX5_mind 1 = .ok (.iload_n 1, 1) := by decide +kernel
theorem dX5_mind_2 : decode cX5_mind 2 = .ok (.invokevirtual 108, 3) := by decide +kernel
theorem dX5_mind_5 : decode cX5_mind 5 = .ok (.ifCond .eq 10, 3) := by decide +kernel
theorem dX5_mind_8 : decode cX5_mind 8 = .ok (.iload_n 2, 1) := by decide +kernel
theorem dX5_mind_9 : decode cX5_mind 9 = .ok (.invokestatic 94, 3) := by decide +kernel
theorem dX5_mind_12 : decode cX5_mind 12 = .ok (.ifCond .ne 5, 3) := by decide +kernel
theorem dX5_mind_15 : decode cX5_mind 15 = .ok (.iconst (-1), 1) := by decide +kernel
theorem dX5_mind_16 : decode cX5_mind 16 = .ok (.ireturn, 1) := by decide +kernel
theorem dX5_mind_17 : decode cX5_mind 17 = .ok (.aload_n 0, 1) := by decide +kernel
theorem dX5_mind_18 : decode cX5_mind 18 = .ok (.getfield 10, 3) := by decide +kernel
theorem dX5_mind_21 : decode cX5_mind 21 = .ok (.getfield 111, 3) := by decide +kernel
theorem dX5_mind_24 : decode cX5_mind 24 = .ok (.iload_n 1, 1) := by decide +kernel
theorem dX5_mind_25 : decode cX5_mind 25 = .ok (.iaload, 1) := by decide +kernel
theorem dX5_mind_26 : decode cX5_mind 26 = .ok (.istore_n 3, 1) := by decide +kernel
theorem dX5_mind_27 : decode cX5_mind 27 = .ok (.aload_n 0, 1) := by decide +kernel
theorem dX5_mind_28 : decode cX5_mind 28 = .ok (.getfield 10, 3) := by decide +kernel
theorem dX5_mind_31 : decode cX5_mind 31 = .ok (.getfield 111, 3) := by decide +kernel
theorem dX5_mind_34 : decode cX5_mind 34 = .ok (.iload_n 1, 1) := by decide +kernel
theorem dX5_mind_35 : decode cX5_mind 35 = .ok (.iload_n 2, 1) := by decide +kernel
theorem dX5_mind_36 : decode cX5_mind 36 = .ok (.iastore, 1) := by decide +kernel
theorem dX5_mind_37 : decode cX5_mind 37 = .ok (.iload_n 3, 1) := by decide +kernel
theorem dX5_mind_38 : decode cX5_mind 38 = .ok (.ireturn, 1) := by decide +kernel
theorem dX5_warm_0 : decode cX5_warm 0 = .ok (.aload_n 0, 1) := by decide +kernel
theorem dX5_warm_1 : decode cX5_warm 1 = .ok (.iload_n 1, 1) := by decide +kernel
theorem dX5_warm_2 : decode cX5_warm 2 = .ok (.invokevirtual 108, 3) := by decide +kernel
theorem dX5_warm_5 : decode cX5_warm 5 = .ok (.ifCond .eq 10, 3) := by decide +kernel
theorem dX5_warm_8 : decode cX5_warm 8 = .ok (.iload_n 2, 1) := by decide +kernel
theorem dX5_warm_9 : decode cX5_warm 9 = .ok (.invokestatic 98, 3) := by decide +kernel
theorem dX5_warm_12 : decode cX5_warm 12 = .ok (.ifCond .ne 5, 3) := by decide +kernel
theorem dX5_warm_15 : decode cX5_warm 15 = .ok (.iconst (-1), 1) := by decide +kernel
theorem dX5_warm_16 : decode cX5_warm 16 = .ok (.ireturn, 1) := by decide +kernel
theorem dX5_warm_17 : decode cX5_warm 17 = .ok (.aload_n 0, 1) := by decide +kernel
theorem dX5_warm_18 : decode cX5_warm 18 = .ok (.getfield 10, 3) := by decide +kernel
theorem dX5_warm_21 : decode cX5_warm 21 = .ok (.getfield 114, 3) := by decide +kernel
theorem dX5_warm_24 : decode cX5_warm 24 = .ok (.iload_n 1, 1) := by decide +kernel
theorem dX5_warm_25 : decode cX5_warm 25 = .ok (.iaload, 1) := by decide +kernel
theorem dX5_warm_26 : decode cX5_warm 26 = .ok (.istore_n 3, 1) := by decide +kernel
theorem dX5_warm_27 : decode cX5_warm 27 = .ok (.aload_n 0, 1) := by decide +kernel
theorem dX5_warm_28 : decode cX5_warm 28 = .ok (.getfield 10, 3) := by decide +kernel
theorem dX5_warm_31 : decode cX5_warm 31 = .ok (.getfield 114, 3) := by decide +kernel
theorem dX5_warm_34 : decode cX5_warm 34 = .ok (.iload_n 1, 1) := by decide +kernel
theorem dX5_warm_35 : decode cX5_warm 35 = .ok (.iload_n 2, 1) := by decide +kernel
theorem dX5_warm_36 : decode cX5_warm 36 = .ok (.iastore, 1) := by decide +kernel
theorem dX5_warm_37 : decode cX5_warm 37 = .ok (.iload_n 3, 1) := by decide +kernel
theorem dX5_warm_38 : decode cX5_warm 38 = .ok (.ireturn, 1) := by decide +kernel
theorem dX5_carry_0 : decode cX5_carry 0 = .ok (.aload_n 0, 1) := by decide +kernel
theorem dX5_carry_1 : decode cX5_carry 1 = .ok (.iload_n 1, 1) := by decide +kernel
theorem dX5_carry_2 : decode cX5_carry 2 = .ok (.invokevirtual 108, 3) := by decide +kernel
theorem dX5_carry_5 : decode cX5_carry 5 = .ok (.ifCond .eq 10, 3) := by decide +kernel
theorem dX5_carry_8 : decode cX5_carry 8 = .ok (.iload_n 2, 1) := by decide +kernel
theorem dX5_carry_9 : decode cX5_carry 9 = .ok (.invokestatic 101, 3) := by decide +kernel
theorem dX5_carry_12 : decode cX5_carry 12 = .ok (.ifCond .ne 5, 3) := by decide +kernel
theorem dX5_carry_15 : decode cX5_carry 15 = .ok (.iconst (-1), 1) := by decide +kernel
theorem dX5_carry_16 : decode cX5_carry 16 = .ok (.ireturn, 1) := by decide +kernel
theorem dX5_carry_17 : decode cX5_carry 17 = .ok (.aload_n 0, 1) := by decide +kernel
theorem dX5_carry_18 : decode cX5_carry 18 = .ok (.getfield 10, 3) := by decide +kernel
theorem dX5_carry_21 : decode cX5_carry 21 = .ok (.getfield 117, 3) := by decide +kernel
theorem dX5_carry_24 : decode cX5_carry 24 = .ok (.iload_n 1, 1) := by decide +kernel
theorem dX5_carry_25 : decode cX5_carry 25 = .ok (.iaload, 1) := by decide +kernel
theorem dX5_carry_26 : decode cX5_carry 26 = .ok (.istore_n 3, 1) := by decide +kernel
theorem dX5_carry_27 : decode cX5_carry 27 = .ok (.aload_n 0, 1) := by decide +kernel
theorem dX5_carry_28 : decode cX5_carry 28 = .ok (.getfield 10, 3) := by decide +kernel
theorem dX5_carry_31 : decode cX5_carry 31 = .ok (.iload_n 1, 1) := by decide +kernel
theorem dX5_carry_32 : decode cX5_carry 32 = .ok (.iload_n 2, 1) := by decide +kernel
theorem dX5_carry_33 : decode cX5_carry 33 = .ok (.invokevirtual 130, 3) := by decide +kernel
theorem dX5_carry_36 : decode cX5_carry 36 = .ok (.iload_n 3, 1) := by decide +kernel
theorem dX5_carry_37 : decode cX5_carry 37 = .ok (.ireturn, 1) := by decide +kernel
theorem dX5_house_0 : decode cX5_house 0 = .ok (.iload_n 1, 1) := by decide +kernel
theorem dX5_house_1 : decode cX5_house 1 = .ok (.invokestatic 101, 3) := by decide +kernel
theorem dX5_house_4 : decode cX5_house 4 = .ok (.ifCond .ne 5, 3) := by decide +kernel
theorem dX5_house_7 : decode cX5_house 7 = .ok (.iconst (-1), 1) := by decide +kernel
theorem dX5_house_8 : decode cX5_house 8 = .ok (.ireturn, 1) := by decide +kernel
theorem dX5_house_9 : decode cX5_house 9 = .ok (.aload_n 0, 1) := by decide +kernel
theorem dX5_house_10 : decode cX5_house 10 = .ok (.iload_n 1, 1) := by decide +kernel
theorem dX5_house_11 : decode cX5_house 11 = .ok (.iload_n 2, 1) := by decide +kernel
theorem dX5_house_12 : decode cX5_house 12 = .ok (.invokevirtual 134, 3) := by decide +kernel
theorem dX5_house_15 : decode cX5_house 15 = .ok (.istore 4, 2) := by decide +kernel
theorem dX5_house_17 : decode cX5_house 17 = .ok (.iload_n 2, 1) := by decide +kernel
theorem dX5_house_18 : decode cX5_house 18 = .ok (.ifCond .ne 23, 3) := by decide +kernel
theorem dX5_house_21 : decode cX5_house 21 = .ok (.iload_n 3, 1) := by decide +kernel
theorem dX5_house_22 : decode cX5_house 22 = .ok (.invokestatic 101, 3) := by decide +kernel
theorem dX5_house_25 : decode cX5_house 25 = .ok (.ifCond .eq 16, 3) := by decide +kernel
theorem dX5_house_28 : decode cX5_house 28 = .ok (.aload_n 0, 1) := by decide +kernel
theorem dX5_house_29 : decode cX5_house 29 = .ok (.getfield 10, 3) := by decide +kernel
theorem dX5_house_32 : decode cX5_house 32 = .ok (.getfield 138, 3) := by decide +kernel
theorem dX5_house_35 : decode cX5_house 35 = .ok (.iload_n 1, 1) := by decide +kernel
theorem dX5_house_36 : decode cX5_house 36 = .ok (.iload_n 3, 1) := by decide +kernel
theorem dX5_house_37 : decode cX5_house 37 = .ok (.iastore, 1) := by decide +kernel
theorem dX5_house_38 : decode cX5_house 38 = .ok (.iload 4, 2) := by decide +kernel
theorem dX5_house_40 : decode cX5_house 40 = .ok (.ireturn, 1) := by decide +kernel
theorem dX5_house_41 : decode cX5_house 41 = .ok (.iload_n 2, 1) := by decide +kernel
theorem dX5_house_42 : decode cX5_house 42 = .ok (.iconst 1, 1) := by decide +kernel
theorem dX5_house_43 : decode cX5_house 43 = .ok (.if_icmp .ne 26, 3) := by decide +kernel
theorem dX5_house_46 : decode cX5_house 46 = .ok (.iload_n 3, 1) := by decide +kernel
theorem dX5_house_47 : decode cX5_house 47 = .ok (.iconst 0, 1) := by decide +kernel
theorem dX5_house_48 : decode cX5_house 48 = .ok (.bipush 99, 2) := by decide +kernel
theorem dX5_house_50 : decode cX5_house 50 = .ok (.invokestatic 55, 3) := by decide +kernel
theorem dX5_house_53 : decode cX5_house 53 = .ok (.ifCond .eq 16, 3) := by decide +kernel
theorem dX5_house_56 : decode cX5_house 56 = .ok (.aload_n 0, 1) := by decide +kernel
theorem dX5_house_57 : decode cX5_house 57 = .ok (.getfield 10, 3) := by decide +kernel
theorem dX5_house_60 : decode cX5_house 60 = .ok (.getfield 141, 3) := by decide +kernel
theorem dX5_house_63 : decode cX5_house 63 = .ok (.iload_n 1, 1) := by decide +kernel
theorem dX5_house_64 : decode cX5_house 64 = .ok (.iload_n 3, 1) := by decide +kernel
theorem dX5_house_65 : decode cX5_house 65 = .ok (.iastore, 1) := by decide +kernel
theorem dX5_house_66 : decode cX5_house 66 = .ok (.iload 4, 2) := by decide +kernel
theorem dX5_house_68 : decode cX5_house 68 = .ok (.ireturn, 1) := by decide +kernel
theorem dX5_house_69 : decode cX5_house 69 = .ok (.iload_n 2, 1) := by decide +kernel
theorem dX5_house_70 : decode cX5_house 70 = .ok (.iconst 2, 1) := by decide +kernel
theorem dX5_house_71 : decode cX5_house 71 = .ok (.if_icmp .ne 54, 3) := by decide +kernel
theorem dX5_house_74 : decode cX5_house 74 = .ok (.iload_n 3, 1) := by decide +kernel
theorem dX5_house_75 : decode cX5_house 75 = .ok (.iconst 0, 1) := by decide +kernel
theorem dX5_house_76 : decode cX5_house 76 = .ok (.iconst 1, 1) := by decide +kernel
theorem dX5_house_77 : decode cX5_house 77 = .ok (.invokestatic 55, 3) := by decide +kernel
theorem dX5_house_80 : decode cX5_house 80 = .ok (.ifCond .eq 45, 3) := by decide +kernel
theorem dX5_house_83 : decode cX5_house 83 = .ok (.aload_n 0, 1) := by decide +kernel
theorem dX5_house_84 : decode cX5_house 84 = .ok (.getfield 10, 3) := by decide +kernel
theorem dX5_house_87 : decode cX5_house 87 = .ok (.iload_n 3, 1) := by decide +kernel
theorem dX5_house_88 : decode cX5_house 88 = .ok (.iconst 1, 1) := by decide +kernel
theorem dX5_house_89 : decode cX5_house 89 = .ok (.if_icmp .ne 17, 3) := by decide +kernel
theorem dX5_house_92 : decode cX5_house 92 = .ok (.aload_n 0, 1) := by decide +kernel
theorem dX5_house_93 : decode cX5_house 93 = .ok (.getfield 10, 3) := by decide +kernel
theorem dX5_house_96 : decode cX5_house 96 = .ok (.getfield 144, 3) := by decide +kernel
theorem dX5_house_99 : decode cX5_house 99 = .ok (.iconst 1, 1) := by decide +kernel
theorem dX5_house_100 : decode cX5_house 100 = .ok (.iload_n 1, 1) := by decide +kernel
theorem dX5_house_101 : decode cX5_house 101 = .ok (.ishl, 1) := by decide +kernel
theorem dX5_house_102 : decode cX5_house 102 = .ok (.ior, 1) := by decide +kernel
theorem dX5_house_103 : decode cX5_house 103 = .ok (.goto 16, 3) := by decide +kernel
theorem dX5_house_106 : decode cX5_house 106 = .ok (.aload_n 0, 1) := by decide +kernel
theorem dX5_house_107 : decode cX5_house 107 = .ok (.getfield 10, 3) := by decide +kernel
theorem dX5_house_110 : decode cX5_house 110 = .ok (.getfield 144, 3) := by decide +kernel
theorem dX5_house_113 : decode cX5_house 113 = .ok (.iconst 1, 1) := by decide +kernel
theorem dX5_house_114 : decode cX5_house 114 = .ok (.iload_n 1, 1) := by decide +kernel
theorem dX5_house_115 : decode cX5_house 115 = .ok (.ishl, 1) := by decide +kernel
theorem dX5_house_116 : decode cX5_house 116 = .ok (.iconst (-1), 1) := by decide +kernel
theorem dX5_house_117 : decode cX5_house 117 = .ok (.ixor, 1) := by decide +kernel
theorem dX5_house_118 : decode cX5_house 118 = .ok (.iand, 1) := by decide +kernel
theorem dX5_house_119 : decode cX5_house 119 = .ok (.putfield 144, 3) := by decide +kernel
theorem dX5_house_122 : decode cX5_house 122 = .ok (.iload 4, 2) := by decide +kernel
theorem dX5_house_124 : decode cX5_house 124 = .ok (.ireturn, 1) := by decide +kernel
theorem dX5_house_125 : decode cX5_house 125 = .ok (.iconst (-1), 1) := by decide +kernel
theorem dX5_house_126 : decode cX5_house 126 = .ok (.ireturn, 1) := by decide +kernel
theorem dX5_houseOf_0 : decode cX5_houseOf 0 = .ok (.iload_n 1, 1) := by decide +kernel
theorem dX5_houseOf_1 : decode cX5_houseOf 1 = .ok (.invokestatic 101, 3) := by decide +kernel
theorem dX5_houseOf_4 : decode cX5_houseOf 4 = .ok (.ifCond .ne 5, 3) := by decide +kernel
theorem dX5_houseOf_7 : decode cX5_houseOf 7 = .ok (.iconst (-1), 1) := by decide +kernel
theorem dX5_houseOf_8 : decode cX5_houseOf 8 = .ok (.ireturn, 1) := by decide +kernel
theorem dX5_houseOf_9 : decode cX5_houseOf 9 = .ok (.iload_n 2, 1) := by decide +kernel
theorem dX5_houseOf_10 : decode cX5_houseOf 10 = .ok (.tableswitch 102 0 5 #[38, 48, 58, 75, 84, 93], 38) := by decide +kernel
theorem dX5_houseOf_48 : decode cX5_houseOf 48 = .ok (.aload_n 0, 1) := by decide +kernel
theorem dX5_houseOf_49 : decode cX5_houseOf 49 = .ok (.getfield 10, 3) := by decide +kernel
theorem dX5_houseOf_52 : decode cX5_houseOf 52 = .ok (.getfield 138, 3) := by decide +kernel
theorem dX5_houseOf_55 : decode cX5_houseOf 55 = .ok (.iload_n 1, 1) := by decide +kernel
theorem dX5_houseOf_56 : decode cX5_houseOf 56 = .ok (.iaload, 1) := by decide +kernel
theorem dX5_houseOf_57 : decode cX5_houseOf 57 = .ok (.ireturn, 1) := by decide +kernel
theorem dX5_houseOf_58 : decode cX5_houseOf 58 = .ok (.aload_n 0, 1) := by decide +kernel
theorem dX5_houseOf_59 : decode cX5_houseOf 59 = .ok (.getfield 10, 3) := by decide +kernel
theorem dX5_houseOf_62 : decode cX5_houseOf 62 = .ok (.getfield 141, 3) := by decide +kernel
theorem dX5_houseOf_65 : decode cX5_houseOf 65 = .ok (.iload_n 1, 1) := by decide +kernel
theorem dX5_houseOf_66 : decode cX5_houseOf 66 = .ok (.iaload, 1) := by decide +kernel
theorem dX5_houseOf_67 : decode cX5_houseOf 67 = .ok (.ireturn, 1) := by decide +kernel
theorem dX5_houseOf_68 : decode cX5_houseOf 68 = .ok (.aload_n 0, 1) := by decide +kernel
theorem dX5_houseOf_69 : decode cX5_houseOf 69 = .ok (.getfield 10, 3) := by decide +kernel
theorem dX5_houseOf_72 : decode cX5_houseOf 72 = .ok (.iload_n 1, 1) := by decide +kernel
theorem dX5_houseOf_73 : decode cX5_houseOf 73 = .ok (.invokevirtual 147, 3) := by decide +kernel
theorem dX5_houseOf_76 : decode cX5_houseOf 76 = .ok (.ifCond .eq 7, 3) := by decide +kernel
theorem dX5_houseOf_79 : decode cX5_houseOf 79 = .ok (.iconst 1, 1) := by decide +kernel
theorem dX5_houseOf_80 : decode cX5_houseOf 80 = .ok (.goto 4, 3) := by decide +kernel
theorem dX5_houseOf_83 : decode cX5_houseOf 83 = .ok (.iconst 0, 1) := by decide +kernel
theorem dX5_houseOf_84 : decode cX5_houseOf 84 = .ok (.ireturn, 1) := by decide +kernel
theorem dX5_houseOf_85 : decode cX5_houseOf 85 = .ok (.aload_n 0, 1) := by decide +kernel
theorem dX5_houseOf_86 : decode cX5_houseOf 86 = .ok (.getfield 10, 3) := by decide +kernel
theorem dX5_houseOf_89 : decode cX5_houseOf 89 = .ok (.iload_n 1, 1) := by decide +kernel
theorem dX5_houseOf_90 : decode cX5_houseOf 90 = .ok (.invokevirtual 150, 3) := by decide +kernel
theorem dX5_houseOf_93 : decode cX5_houseOf 93 = .ok (.ireturn, 1) := by decide +kernel
theorem dX5_houseOf_94 : decode cX5_houseOf 94 = .ok (.aload_n 0, 1) := by decide +kernel
theorem dX5_houseOf_95 : decode cX5_houseOf 95 = .ok (.getfield 10, 3) := by decide +kernel
theorem dX5_houseOf_98 : decode cX5_houseOf 98 = .ok (.iload_n 1, 1) := by decide +kernel
theorem dX5_houseOf_99 : decode cX5_houseOf 99 = .ok (.invokevirtual 153, 3) := by decide +kernel
theorem dX5_houseOf_102 : decode cX5_houseOf 102 = .ok (.ireturn, 1) := by decide +kernel
theorem dX5_houseOf_103 : decode cX5_houseOf 103 = .ok (.aload_n 0, 1) := by decide +kernel
theorem dX5_houseOf_104 : decode cX5_houseOf 104 = .ok (.getfield 10, 3) := by decide +kernel
theorem dX5_houseOf_107 : decode cX5_houseOf 107 = .ok (.iload_n 1, 1) := by decide +kernel
theorem dX5_houseOf_108 : decode cX5_houseOf 108 = .ok (.invokevirtual 156, 3) := by decide +kernel
theorem dX5_houseOf_111 : decode cX5_houseOf 111 = .ok (.ireturn, 1) := by decide +kernel
theorem dX5_houseOf_112 : decode cX5_houseOf 112 = .ok (.iconst (-1), 1) := by decide +kernel
theorem dX5_houseOf_113 : decode cX5_houseOf 113 = .ok (.ireturn, 1) := by decide +kernel
theorem dX5_minutes_0 : decode cX5_minutes 0 = .ok (.iload_n 1, 1) := by decide +kernel
theorem dX5_minutes_1 : decode cX5_minutes 1 = .ok (.iconst 1, 1) := by decide +kernel
theorem dX5_minutes_2 : decode cX5_minutes 2 = .ok (.bipush 60, 2) := by decide +kernel
theorem dX5_minutes_4 : decode cX5_minutes 4 = .ok (.invokestatic 55, 3) := by decide +kernel
theorem dX5_minutes_7 : decode cX5_minutes 7 = .ok (.ifCond .ne 5, 3) := by decide +kernel
theorem dX5_minutes_10 : decode cX5_minutes 10 = .ok (.iconst (-1), 1) := by decide +kernel
theorem dX5_minutes_11 : decode cX5_minutes 11 = .ok (.ireturn, 1) := by decide +kernel
theorem dX5_minutes_12 : decode cX5_minutes 12 = .ok (.iconst 0, 1) := by decide +kernel
theorem dX5_minutes_13 : decode cX5_minutes 13 = .ok (.istore_n 2, 1) := by decide +kernel
theorem dX5_minutes_14 : decode cX5_minutes 14 = .ok (.iload_n 2, 1) := by decide +kernel
theorem dX5_minutes_15 : decode cX5_minutes 15 = .ok (.iload_n 1, 1) := by decide +kernel
theorem dX5_minutes_16 : decode cX5_minutes 16 = .ok (.if_icmp .ge 16, 3) := by decide +kernel
theorem dX5_minutes_19 : decode cX5_minutes 19 = .ok (.aload_n 0, 1) := by decide +kernel
theorem dX5_minutes_20 : decode cX5_minutes 20 = .ok (.getfield 10, 3) := by decide +kernel
theorem dX5_minutes_23 : decode cX5_minutes 23 = .ok (.invokevirtual 159, 3) := by decide +kernel
theorem dX5_minutes_26 : decode cX5_minutes 26 = .ok (.iinc 2 1, 3) := by decide +kernel
theorem dX5_minutes_29 : decode cX5_minutes 29 = .ok (.goto (-15), 3) := by decide +kernel
theorem dX5_minutes_32 : decode cX5_minutes 32 = .ok (.aload_n 0, 1) := by decide +kernel
theorem dX5_minutes_33 : decode cX5_minutes 33 = .ok (.getfield 10, 3) := by decide +kernel
theorem dX5_minutes_36 : decode cX5_minutes 36 = .ok (.invokevirtual 162, 3) := by decide +kernel
theorem dX5_minutes_39 : decode cX5_minutes 39 = .ok (.ireturn, 1) := by decide +kernel
theorem dX5_seed_0 : decode cX5_seed 0 = .ok (.aload_n 0, 1) := by decide +kernel
theorem dX5_seed_1 : decode cX5_seed 1 = .ok (.getfield 10, 3) := by decide +kernel
theorem dX5_seed_4 : decode cX5_seed 4 = .ok (.getfield 70, 3) := by decide +kernel
theorem dX5_seed_7 : decode cX5_seed 7 = .ok (.istore_n 2, 1) := by decide +kernel
theorem dX5_seed_8 : decode cX5_seed 8 = .ok (.aload_n 0, 1) := by decide +kernel
theorem dX5_seed_9 : decode cX5_seed 9 = .ok (.getfield 10, 3) := by decide +kernel
theorem dX5_seed_12 : decode cX5_seed 12 = .ok (.iload_n 1, 1) := by decide +kernel
theorem dX5_seed_13 : decode cX5_seed 13 = .ok (.putfield 70, 3) := by decide +kernel
theorem dX5_seed_16 : decode cX5_seed 16 = .ok (.iload_n 2, 1) := by decide +kernel
theorem dX5_seed_17 : decode cX5_seed 17 = .ok (.ireturn, 1) := by decide +kernel
theorem dX5_minute_0 : decode cX5_minute 0 = .ok (.aload_n 0, 1) := by decide +kernel
theorem dX5_minute_1 : decode cX5_minute 1 = .ok (.getfield 10, 3) := by decide +kernel
theorem dX5_minute_4 : decode cX5_minute 4 = .ok (.invokevirtual 166, 3) := by decide +kernel
theorem dX5_minute_7 : decode cX5_minute 7 = .ok (.aload_n 0, 1) := by decide +kernel
theorem dX5_minute_8 : decode cX5_minute 8 = .ok (.getfield 10, 3) := by decide +kernel
theorem dX5_minute_11 : decode cX5_minute 11 = .ok (.invokevirtual 162, 3) := by decide +kernel
theorem dX5_minute_14 : decode cX5_minute 14 = .ok (.ireturn, 1) := by decide +kernel
theorem dX5_state_0 : decode cX5_state 0 = .ok (.iload_n 1, 1) := by decide +kernel
theorem dX5_state_1 : decode cX5_state 1 = .ok (.tableswitch 87 0 5 #[39, 47, 55, 63, 71, 79], 39) := by decide +kernel
theorem dX5_state_40 : decode cX5_state 40 = .ok (.aload_n 0, 1) := by decide +kernel
theorem dX5_state_41 : decode cX5_state 41 = .ok (.getfield 10, 3) := by decide +kernel
theorem dX5_state_44 : decode cX5_state 44 = .ok (.getfield 169, 3) := by decide +kernel
theorem dX5_state_47 : decode cX5_state 47 = .ok (.ireturn, 1) := by decide +kernel
theorem dX5_state_48 : decode cX5_state 48 = .ok (.aload_n 0, 1) := by decide +kernel
theorem dX5_state_49 : decode cX5_state 49 = .ok (.getfield 10, 3) := by decide +kernel
theorem dX5_state_52 : decode cX5_state 52 = .ok (.invokevirtual 162, 3) := by decide +kernel
theorem dX5_state_55 : decode cX5_state 55 = .ok (.ireturn, 1) := by decide +kernel
theorem dX5_state_56 : decode cX5_state 56 = .ok (.aload_n 0, 1) := by decide +kernel
theorem dX5_state_57 : decode cX5_state 57 = .ok (.getfield 10, 3) := by decide +kernel
theorem dX5_state_60 : decode cX5_state 60 = .ok (.invokevirtual 172, 3) := by decide +kernel
theorem dX5_state_63 : decode cX5_state 63 = .ok (.ireturn, 1) := by decide +kernel
theorem dX5_state_64 : decode cX5_state 64 = .ok (.aload_n 0, 1) := by decide +kernel
theorem dX5_state_65 : decode cX5_state 65 = .ok (.getfield 10, 3) := by decide +kernel
theorem dX5_state_68 : decode cX5_state 68 = .ok (.invokevirtual 175, 3) := by decide +kernel
theorem dX5_state_71 : decode cX5_state 71 = .ok (.ireturn, 1) := by decide +kernel
theorem dX5_state_72 : decode cX5_state 72 = .ok (.aload_n 0, 1) := by decide +kernel
theorem dX5_state_73 : decode cX5_state 73 = .ok (.getfield 10, 3) := by decide +kernel
theorem dX5_state_76 : decode cX5_state 76 = .ok (.getfield 144, 3) := by decide +kernel
theorem dX5_state_79 : decode cX5_state 79 = .ok (.ireturn, 1) := by decide +kernel
theorem dX5_state_80 : decode cX5_state 80 = .ok (.aload_n 0, 1) := by decide +kernel
theorem dX5_state_81 : decode cX5_state 81 = .ok (.getfield 10, 3) := by decide +kernel
theorem dX5_state_84 : decode cX5_state 84 = .ok (.invokevirtual 178, 3) := by decide +kernel
theorem dX5_state_87 : decode cX5_state 87 = .ok (.ireturn, 1) := by decide +kernel
theorem dX5_state_88 : decode cX5_state 88 = .ok (.iconst (-1), 1) := by decide +kernel
theorem dX5_state_89 : decode cX5_state 89 = .ok (.ireturn, 1) := by decide +kernel
theorem dX5_spread_0 : decode cX5_spread 0 = .ok (.iload_n 1, 1) := by decide +kernel
theorem dX5_spread_1 : decode cX5_spread 1 = .ok (.iconst 1, 1) := by decide +kernel
theorem dX5_spread_2 : decode cX5_spread 2 = .ok (.bipush 30, 2) := by decide +kernel
theorem dX5_spread_4 : decode cX5_spread 4 = .ok (.invokestatic 55, 3) := by decide +kernel
theorem dX5_spread_7 : decode cX5_spread 7 = .ok (.ifCond .ne 5, 3) := by decide +kernel
theorem dX5_spread_10 : decode cX5_spread 10 = .ok (.iconst (-1), 1) := by decide +kernel
theorem dX5_spread_11 : decode cX5_spread 11 = .ok (.ireturn, 1) := by decide +kernel
theorem dX5_spread_12 : decode cX5_spread 12 = .ok (.aload_n 0, 1) := by decide +kernel
theorem dX5_spread_13 : decode cX5_spread 13 = .ok (.invokevirtual 181, 3) := by decide +kernel
theorem dX5_spread_16 : decode cX5_spread 16 = .ok (.aload_n 0, 1) := by decide +kernel
theorem dX5_spread_17 : decode cX5_spread 17 = .ok (.getfield 19, 3) := by decide +kernel
theorem dX5_spread_20 : decode cX5_spread 20 = .ok (.invokevirtual 159, 3) := by decide +kernel
theorem dX5_spread_23 : decode cX5_spread 23 = .ok (.aload_n 0, 1) := by decide +kernel
theorem dX5_spread_24 : decode cX5_spread 24 = .ok (.getfield 19, 3) := by decide +kernel
theorem dX5_spread_27 : decode cX5_spread 27 = .ok (.invokevirtual 172, 3) := by decide +kernel
theorem dX5_spread_30 : decode cX5_spread 30 = .ok (.istore_n 2, 1) := by decide +kernel
theorem dX5_spread_31 : decode cX5_spread 31 = .ok (.aload_n 0, 1) := by decide +kernel
theorem dX5_spread_32 : decode cX5_spread 32 = .ok (.getfield 10, 3) := by decide +kernel
theorem dX5_spread_35 : decode cX5_spread 35 = .ok (.getfield 70, 3) := by decide +kernel
theorem dX5_spread_38 : decode cX5_spread 38 = .ok (.istore_n 3, 1) := by decide +kernel
theorem dX5_spread_39 : decode cX5_spread 39 = .ok (.iconst 0, 1) := by decide +kernel
theorem dX5_spread_40 : decode cX5_spread 40 = .ok (.istore 4, 2) := by decide +kernel
theorem dX5_spread_42 : decode cX5_spread 42 = .ok (.iconst 0, 1) := by decide +kernel
theorem dX5_spread_43 : decode cX5_spread 43 = .ok (.istore 5, 2) := by decide +kernel
theorem dX5_spread_45 : decode cX5_spread 45 = .ok (.iload 5, 2) := by decide +kernel
theorem dX5_spread_47 : decode cX5_spread 47 = .ok (.iload_n 1, 1) := by decide +kernel
theorem dX5_spread_48 : decode cX5_spread 48 = .ok (.if_icmp .ge 50, 3) := by decide +kernel
theorem dX5_spread_51 : decode cX5_spread 51 = .ok (.aload_n 0, 1) := by decide +kernel
theorem dX5_spread_52 : decode cX5_spread 52 = .ok (.invokevirtual 181, 3) := by decide +kernel
theorem dX5_spread_55 : decode cX5_spread 55 = .ok (.aload_n 0, 1) := by decide +kernel
theorem dX5_spread_56 : decode cX5_spread 56 = .ok (.getfield 19, 3) := by decide +kernel
theorem dX5_spread_59 : decode cX5_spread 59 = .ok (.iload_n 3, 1) := by decide +kernel
theorem dX5_spread_60 : decode cX5_spread 60 = .ok (.putfield 70, 3) := by decide +kernel
theorem dX5_spread_63 : decode cX5_spread 63 = .ok (.aload_n 0, 1) := by decide +kernel
theorem dX5_spread_64 : decode cX5_spread 64 = .ok (.getfield 19, 3) := by decide +kernel
theorem dX5_spread_67 : decode cX5_spread 67 = .ok (.invokevirtual 166, 3) := by decide +kernel
theorem dX5_spread_70 : decode cX5_spread 70 = .ok (.aload_n 0, 1) := by decide +kernel
theorem dX5_spread_71 : decode cX5_spread 71 = .ok (.getfield 19, 3) := by decide +kernel
theorem dX5_spread_74 : decode cX5_spread 74 = .ok (.getfield 70, 3) := by decide +kernel
theorem dX5_spread_77 : decode cX5_spread 77 = .ok (.istore_n 3, 1) := by decide +kernel
theorem dX5_spread_78 : decode cX5_spread 78 = .ok (.aload_n 0, 1) := by decide +kernel
theorem dX5_spread_79 : decode cX5_spread 79 = .ok (.getfield 19, 3) := by decide +kernel
theorem dX5_spread_82 : decode cX5_spread 82 = .ok (.invokevirtual 172, 3) := by decide +kernel
theorem dX5_spread_85 : decode cX5_spread 85 = .ok (.iload_n 2, 1) := by decide +kernel
theorem dX5_spread_86 : decode cX5_spread 86 = .ok (.if_icmp .le 6, 3) := by decide +kernel
theorem dX5_spread_89 : decode cX5_spread 89 = .ok (.iinc 4 1, 3) := by decide +kernel
theorem dX5_spread_92 : decode cX5_spread 92 = .ok (.iinc 5 1, 3) := by decide +kernel
theorem dX5_spread_95 : decode cX5_spread 95 = .ok (.goto (-50), 3) := by decide +kernel
theorem dX5_spread_98 : decode cX5_spread 98 = .ok (.iload 4, 2) := by decide +kernel
theorem dX5_spread_100 : decode cX5_spread 100 = .ok (.ireturn, 1) := by decide +kernel
theorem dX5_where_0 : decode cX5_where 0 = .ok (.aload_n 0, 1) := by decide +kernel
theorem dX5_where_1 : decode cX5_where 1 = .ok (.iload_n 1, 1) := by decide +kernel
theorem dX5_where_2 : decode cX5_where 2 = .ok (.invokevirtual 108, 3) := by decide +kernel
theorem dX5_where_5 : decode cX5_where 5 = .ok (.ifCond .eq 13, 3) := by decide +kernel
theorem dX5_where_8 : decode cX5_where 8 = .ok (.iload_n 2, 1) := by decide +kernel
theorem dX5_where_9 : decode cX5_where 9 = .ok (.iconst 0, 1) := by decide +kernel
theorem dX5_where_10 : decode cX5_where 10 = .ok (.bipush 60, 2) := by decide +kernel
theorem dX5_where_12 : decode cX5_where 12 = .ok (.invokestatic 55, 3) := by decide +kernel
theorem dX5_where_15 : decode cX5_where 15 = .ok (.ifCond .ne 5, 3) := by decide +kernel
theorem dX5_where_18 : decode cX5_where 18 = .ok (.iconst (-1), 1) := by decide +kernel
theorem dX5_where_19 : decode cX5_where 19 = .ok (.ireturn, 1) := by decide +kernel
theorem dX5_where_20 : decode cX5_where 20 = .ok (.aload_n 0, 1) := by decide +kernel
theorem dX5_where_21 : decode cX5_where 21 = .ok (.invokevirtual 181, 3) := by decide +kernel
theorem dX5_where_24 : decode cX5_where 24 = .ok (.aload_n 0, 1) := by decide +kernel
theorem dX5_where_25 : decode cX5_where 25 = .ok (.getfield 19, 3) := by decide +kernel
theorem dX5_where_28 : decode cX5_where 28 = .ok (.iload_n 1, 1) := by decide +kernel
theorem dX5_where_29 : decode cX5_where 29 = .ok (.iload_n 2, 1) := by decide +kernel
theorem dX5_where_30 : decode cX5_where 30 = .ok (.invokevirtual 184, 3) := by decide +kernel
theorem dX5_where_33 : decode cX5_where 33 = .ok (.aload_n 0, 1) := by decide +kernel
theorem dX5_where_34 : decode cX5_where 34 = .ok (.getfield 19, 3) := by decide +kernel
theorem dX5_where_37 : decode cX5_where 37 = .ok (.getfield 117, 3) := by decide +kernel
theorem dX5_where_40 : decode cX5_where 40 = .ok (.iload_n 1, 1) := by decide +kernel
theorem dX5_where_41 : decode cX5_where 41 = .ok (.iaload, 1) := by decide +kernel
theorem dX5_where_42 : decode cX5_where 42 = .ok (.ireturn, 1) := by decide +kernel
theorem dX5_comes_0 : decode cX5_comes 0 = .ok (.aload_n 0, 1) := by decide +kernel
theorem dX5_comes_1 : decode cX5_comes 1 = .ok (.iload_n 1, 1) := by decide +kernel
theorem dX5_comes_2 : decode cX5_comes 2 = .ok (.invokevirtual 108, 3) := by decide +kernel
theorem dX5_comes_5 : decode cX5_comes 5 = .ok (.ifCond .eq 10, 3) := by decide +kernel
theorem dX5_comes_8 : decode cX5_comes 8 = .ok (.iload_n 2, 1) := by decide +kernel
theorem dX5_comes_9 : decode cX5_comes 9 = .ok (.invokestatic 101, 3) := by decide +kernel
theorem dX5_comes_12 : decode cX5_comes 12 = .ok (.ifCond .ne 5, 3) := by decide +kernel
theorem dX5_comes_15 : decode cX5_comes 15 = .ok (.iconst (-1), 1) := by decide +kernel
theorem dX5_comes_16 : decode cX5_comes 16 = .ok (.ireturn, 1) := by decide +kernel
theorem dX5_comes_17 : decode cX5_comes 17 = .ok (.aload_n 0, 1) := by decide +kernel
theorem dX5_comes_18 : decode cX5_comes 18 = .ok (.invokevirtual 181, 3) := by decide +kernel
theorem dX5_comes_21 : decode cX5_comes 21 = .ok (.aload_n 0, 1) := by decide +kernel
theorem dX5_comes_22 : decode cX5_comes 22 = .ok (.iload_n 1, 1) := by decide +kernel
theorem dX5_comes_23 : decode cX5_comes 23 = .ok (.iconst 1, 1) := by decide +kernel
theorem dX5_comes_24 : decode cX5_comes 24 = .ok (.iload_n 2, 1) := by decide +kernel
theorem dX5_comes_25 : decode cX5_comes 25 = .ok (.ishl, 1) := by decide +kernel
theorem dX5_comes_26 : decode cX5_comes 26 = .ok (.bipush 60, 2) := by decide +kernel
theorem dX5_comes_28 : decode cX5_comes 28 = .ok (.invokevirtual 187, 3) := by decide +kernel
theorem dX5_comes_31 : decode cX5_comes 31 = .ok (.ireturn, 1) := by decide +kernel
theorem dX5_cold_0 : decode cX5_cold 0 = .ok (.aload_n 0, 1) := by decide +kernel
theorem dX5_cold_1 : decode cX5_cold 1 = .ok (.iload_n 1, 1) := by decide +kernel
theorem dX5_cold_2 : decode cX5_cold 2 = .ok (.invokevirtual 108, 3) := by decide +kernel
theorem dX5_cold_5 : decode cX5_cold 5 = .ok (.ifCond .ne 5, 3) := by decide +kernel
theorem dX5_cold_8 : decode cX5_cold 8 = .ok (.iconst (-1), 1) := by decide +kernel
theorem dX5_cold_9 : decode cX5_cold 9 = .ok (.ireturn, 1) := by decide +kernel
theorem dX5_cold_10 : decode cX5_cold 10 = .ok (.aload_n 0, 1) := by decide +kernel
theorem dX5_cold_11 : decode cX5_cold 11 = .ok (.invokevirtual 181, 3) := by decide +kernel
theorem dX5_cold_14 : decode cX5_cold 14 = .ok (.iconst 0, 1) := by decide +kernel
theorem dX5_cold_15 : decode cX5_cold 15 = .ok (.istore_n 2, 1) := by decide +kernel
theorem dX5_cold_16 : decode cX5_cold 16 = .ok (.iload_n 2, 1) := by decide +kernel
theorem dX5_cold_17 : decode cX5_cold 17 = .ok (.bipush 60, 2) := by decide +kernel
theorem dX5_cold_19 : decode cX5_cold 19 = .ok (.if_icmp .gt 31, 3) := by decide +kernel
theorem dX5_cold_22 : decode cX5_cold 22 = .ok (.aload_n 0, 1) := by decide +kernel
theorem dX5_cold_23 : decode cX5_cold 23 = .ok (.getfield 19, 3) := by decide +kernel
theorem dX5_cold_26 : decode cX5_cold 26 = .ok (.getfield 114, 3) := by decide +kernel
theorem dX5_cold_29 : decode cX5_cold 29 = .ok (.iload_n 1, 1) := by decide +kernel
theorem dX5_cold_30 : decode cX5_cold 30 = .ok (.iaload, 1) := by decide +kernel
theorem dX5_cold_31 : decode cX5_cold 31 = .ok (.ifCond .ne 5, 3) := by decide +kernel
theorem dX5_cold_34 : decode cX5_cold 34 = .ok (.iload_n 2, 1) := by decide +kernel
theorem dX5_cold_35 : decode cX5_cold 35 = .ok (.ireturn, 1) := by decide +kernel
theorem dX5_cold_36 : decode cX5_cold 36 = .ok (.aload_n 0, 1) := by decide +kernel
theorem dX5_cold_37 : decode cX5_cold 37 = .ok (.getfield 19, 3) := by decide +kernel
theorem dX5_cold_40 : decode cX5_cold 40 = .ok (.iload_n 1, 1) := by decide +kernel
theorem dX5_cold_41 : decode cX5_cold 41 = .ok (.invokevirtual 190, 3) := by decide +kernel
theorem dX5_cold_44 : decode cX5_cold 44 = .ok (.iinc 2 1, 3) := by decide +kernel
theorem dX5_cold_47 : decode cX5_cold 47 = .ok (.goto (-31), 3) := by decide +kernel
theorem dX5_cold_50 : decode cX5_cold 50 = .ok (.bipush (-3), 2) := by decide +kernel
theorem dX5_cold_52 : decode cX5_cold 52 = .ok (.ireturn, 1) := by decide +kernel
theorem dX5_whole_0 : decode cX5_whole 0 = .ok (.aload_n 0, 1) := by decide +kernel
theorem dX5_whole_1 : decode cX5_whole 1 = .ok (.iload_n 1, 1) := by decide +kernel
theorem dX5_whole_2 : decode cX5_whole 2 = .ok (.invokevirtual 108, 3) := by decide +kernel
theorem dX5_whole_5 : decode cX5_whole 5 = .ok (.ifCond .ne 5, 3) := by decide +kernel
theorem dX5_whole_8 : decode cX5_whole 8 = .ok (.iconst (-1), 1) := by decide +kernel
theorem dX5_whole_9 : decode cX5_whole 9 = .ok (.ireturn, 1) := by decide +kernel
theorem dX5_whole_10 : decode cX5_whole 10 = .ok (.aload_n 0, 1) := by decide +kernel
theorem dX5_whole_11 : decode cX5_whole 11 = .ok (.invokevirtual 181, 3) := by decide +kernel
theorem dX5_whole_14 : decode cX5_whole 14 = .ok (.aload_n 0, 1) := by decide +kernel
theorem dX5_whole_15 : decode cX5_whole 15 = .ok (.iload_n 1, 1) := by decide +kernel
theorem dX5_whole_16 : decode cX5_whole 16 = .ok (.sipush 255, 3) := by decide +kernel
theorem dX5_whole_19 : decode cX5_whole 19 = .ok (.bipush 60, 2) := by decide +kernel
theorem dX5_whole_21 : decode cX5_whole 21 = .ok (.invokevirtual 187, 3) := by decide +kernel
theorem dX5_whole_24 : decode cX5_whole 24 = .ok (.ireturn, 1) := by decide +kernel
theorem dX5_home_0 : decode cX5_home 0 = .ok (.aload_n 0, 1) := by decide +kernel
theorem dX5_home_1 : decode cX5_home 1 = .ok (.iload_n 1, 1) := by decide +kernel
theorem dX5_home_2 : decode cX5_home 2 = .ok (.invokevirtual 108, 3) := by decide +kernel
theorem dX5_home_5 : decode cX5_home 5 = .ok (.ifCond .ne 5, 3) := by decide +kernel
theorem dX5_home_8 : decode cX5_home 8 = .ok (.iconst (-1), 1) := by decide +kernel
theorem dX5_home_9 : decode cX5_home 9 = .ok (.ireturn, 1) := by decide +kernel
theorem dX5_home_10 : decode cX5_home 10 = .ok (.aload_n 0, 1) := by decide +kernel
theorem dX5_home_11 : decode cX5_home 11 = .ok (.invokevirtual 181, 3) := by decide +kernel
theorem dX5_home_14 : decode cX5_home 14 = .ok (.iconst 1, 1) := by decide +kernel
theorem dX5_home_15 : decode cX5_home 15 = .ok (.istore_n 2, 1) := by decide +kernel
theorem dX5_home_16 : decode cX5_home 16 = .ok (.iload_n 2, 1) := by decide +kernel
theorem dX5_home_17 : decode cX5_home 17 = .ok (.bipush 60, 2) := by decide +kernel
theorem dX5_home_19 : decode cX5_home 19 = .ok (.if_icmp .gt 52, 3) := by decide +kernel
theorem dX5_home_22 : decode cX5_home 22 = .ok (.aload_n 0, 1) := by decide +kernel
theorem dX5_home_23 : decode cX5_home 23 = .ok (.getfield 19, 3) := by decide +kernel
theorem dX5_home_26 : decode cX5_home 26 = .ok (.iload_n 1, 1) := by decide +kernel
theorem dX5_home_27 : decode cX5_home 27 = .ok (.invokevirtual 190, 3) := by decide +kernel
theorem dX5_home_30 : decode cX5_home 30 = .ok (.aload_n 0, 1) := by decide +kernel
theorem dX5_home_31 : decode cX5_home 31 = .ok (.getfield 19, 3) := by decide +kernel
theorem dX5_home_34 : decode cX5_home 34 = .ok (.getfield 117, 3) := by decide +kernel
theorem dX5_home_37 : decode cX5_home 37 = .ok (.iload_n 1, 1) := by decide +kernel
theorem dX5_home_38 : decode cX5_home 38 = .ok (.iaload, 1) := by decide +kernel
theorem dX5_home_39 : decode cX5_home 39 = .ok (.aload_n 0, 1) := by decide +kernel
theorem dX5_home_40 : decode cX5_home 40 = .ok (.getfield 10, 3) := by decide +kernel
theorem dX5_home_43 : decode cX5_home 43 = .ok (.getfield 117, 3) := by decide +kernel
theorem dX5_home_46 : decode cX5_home 46 = .ok (.iload_n 1, 1) := by decide +kernel
theorem dX5_home_47 : decode cX5_home 47 = .ok (.iaload, 1) := by decide +kernel
theorem dX5_home_48 : decode cX5_home 48 = .ok (.if_icmp .ne 17, 3) := by decide +kernel
theorem dX5_home_51 : decode cX5_home 51 = .ok (.aload_n 0, 1) := by decide +kernel
theorem dX5_home_52 : decode cX5_home 52 = .ok (.getfield 19, 3) := by decide +kernel
theorem dX5_home_55 : decode cX5_home 55 = .ok (.getfield 114, 3) := by decide +kernel
theorem dX5_home_58 : decode cX5_home 58 = .ok (.iload_n 1, 1) := by decide +kernel
theorem dX5_home_59 : decode cX5_home 59 = .ok (.iaload, 1) := by decide +kernel
theorem dX5_home_60 : decode cX5_home 60 = .ok (.ifCond .le 5, 3) := by decide +kernel
theorem dX5_home_63 : decode cX5_home 63 = .ok (.iload_n 2, 1) := by decide +kernel
theorem dX5_home_64 : decode cX5_home 64 = .ok (.ireturn, 1) := by decide +kernel
theorem dX5_home_65 : decode cX5_home 65 = .ok (.iinc 2 1, 3) := by decide +kernel
theorem dX5_home_68 : decode cX5_home 68 = .ok (.goto (-52), 3) := by decide +kernel
theorem dX5_home_71 : decode cX5_home 71 = .ok (.bipush (-3), 2) := by decide +kernel
theorem dX5_home_73 : decode cX5_home 73 = .ok (.ireturn, 1) := by decide +kernel
theorem dX5_reach_0 : decode cX5_reach 0 = .ok (.aload_n 0, 1) := by decide +kernel
theorem dX5_reach_1 : decode cX5_reach 1 = .ok (.iload_n 1, 1) := by decide +kernel
theorem dX5_reach_2 : decode cX5_reach 2 = .ok (.invokevirtual 108, 3) := by decide +kernel
theorem dX5_reach_5 : decode cX5_reach 5 = .ok (.ifCond .eq 13, 3) := by decide +kernel
theorem dX5_reach_8 : decode cX5_reach 8 = .ok (.iload_n 2, 1) := by decide +kernel
theorem dX5_reach_9 : decode cX5_reach 9 = .ok (.iconst 0, 1) := by decide +kernel
theorem dX5_reach_10 : decode cX5_reach 10 = .ok (.bipush 60, 2) := by decide +kernel
theorem dX5_reach_12 : decode cX5_reach 12 = .ok (.invokestatic 55, 3) := by decide +kernel
theorem dX5_reach_15 : decode cX5_reach 15 = .ok (.ifCond .ne 5, 3) := by decide +kernel
theorem dX5_reach_18 : decode cX5_reach 18 = .ok (.iconst (-1), 1) := by decide +kernel
theorem dX5_reach_19 : decode cX5_reach 19 = .ok (.ireturn, 1) := by decide +kernel
theorem dX5_reach_20 : decode cX5_reach 20 = .ok (.aload_n 0, 1) := by decide +kernel
theorem dX5_reach_21 : decode cX5_reach 21 = .ok (.invokevirtual 181, 3) := by decide +kernel
theorem dX5_reach_24 : decode cX5_reach 24 = .ok (.aload_n 0, 1) := by decide +kernel
theorem dX5_reach_25 : decode cX5_reach 25 = .ok (.iload_n 1, 1) := by decide +kernel
theorem dX5_reach_26 : decode cX5_reach 26 = .ok (.iload_n 2, 1) := by decide +kernel
theorem dX5_reach_27 : decode cX5_reach 27 = .ok (.invokevirtual 194, 3) := by decide +kernel
theorem dX5_reach_30 : decode cX5_reach 30 = .ok (.ireturn, 1) := by decide +kernel
theorem dX5_friendFor_0 : decode cX5_friendFor 0 = .ok (.iload_n 1, 1) := by decide +kernel
theorem dX5_friendFor_1 : decode cX5_friendFor 1 = .ok (.invokestatic 101, 3) := by decide +kernel
theorem dX5_friendFor_4 : decode cX5_friendFor 4 = .ok (.ifCond .eq 21, 3) := by decide +kernel
theorem dX5_friendFor_7 : decode cX5_friendFor 7 = .ok (.aload_n 0, 1) := by decide +kernel
theorem dX5_friendFor_8 : decode cX5_friendFor 8 = .ok (.iload_n 2, 1) := by decide +kernel
theorem dX5_friendFor_9 : decode cX5_friendFor 9 = .ok (.invokevirtual 108, 3) := by decide +kernel
theorem dX5_friendFor_12 : decode cX5_friendFor 12 = .ok (.ifCond .eq 13, 3) := by decide +kernel
theorem dX5_friendFor_15 : decode cX5_friendFor 15 = .ok (.iload_n 3, 1) := by decide +kernel
theorem dX5_friendFor_16 : decode cX5_friendFor 16 = .ok (.iconst 1, 1) := by decide +kernel
theorem dX5_friendFor_17 : decode cX5_friendFor 17 = .ok (.bipush 30, 2) := by decide +kernel
theorem dX5_friendFor_19 : decode cX5_friendFor 19 = .ok (.invokestatic 55, 3) := by decide +kernel
theorem dX5_friendFor_22 : decode cX5_friendFor 22 = .ok (.ifCond .ne 5, 3) := by decide +kernel
theorem dX5_friendFor_25 : decode cX5_friendFor 25 = .ok (.iconst (-1), 1) := by decide +kernel
theorem dX5_friendFor_26 : decode cX5_friendFor 26 = .ok (.ireturn, 1) := by decide +kernel
theorem dX5_friendFor_27 : decode cX5_friendFor 27 = .ok (.iconst 0, 1) := by decide +kernel
theorem dX5_friendFor_28 : decode cX5_friendFor 28 = .ok (.istore 4, 2) := by decide +kernel
theorem dX5_friendFor_30 : decode cX5_friendFor 30 = .ok (.iconst (-1), 1) := by decide +kernel
theorem dX5_friendFor_31 : decode cX5_friendFor 31 = .ok (.istore 5, 2) := by decide +kernel
theorem dX5_friendFor_33 : decode cX5_friendFor 33 = .ok (.iconst 0, 1) := by decide +kernel
theorem dX5_friendFor_34 : decode cX5_friendFor 34 = .ok (.istore 6, 2) := by decide +kernel
theorem dX5_friendFor_36 : decode cX5_friendFor 36 = .ok (.iload 6, 2) := by decide +kernel
theorem dX5_friendFor_38 : decode cX5_friendFor 38 = .ok (.bipush 8, 2) := by decide +kernel
theorem dX5_friendFor_40 : decode cX5_friendFor 40 = .ok (.if_icmp .ge 47, 3) := by decide +kernel
theorem dX5_friendFor_43 : decode cX5_friendFor 43 = .ok (.aload_n 0, 1) := by decide +kernel
theorem dX5_friendFor_44 : decode cX5_friendFor 44 = .ok (.invokevirtual 181, 3) := by decide +kernel
theorem dX5_friendFor_47 : decode cX5_friendFor 47 = .ok (.aload_n 0, 1) := by decide +kernel
theorem dX5_friendFor_48 : decode cX5_friendFor 48 = .ok (.getfield 19, 3) := by decide +kernel
theorem dX5_friendFor_51 : decode cX5_friendFor 51 = .ok (.getfield 138, 3) := by decide +kernel
theorem dX5_friendFor_54 : decode cX5_friendFor 54 = .ok (.iload_n 1, 1) := by decide +kernel
theorem dX5_friendFor_55 : decode cX5_friendFor 55 = .ok (.iload 6, 2) := by decide +kernel
theorem dX5_friendFor_57 : decode cX5_friendFor 57 = .ok (.iastore, 1) := by decide +kernel
theorem dX5_friendFor_58 : decode cX5_friendFor 58 = .ok (.aload_n 0, 1) := by decide +kernel
theorem dX5_friendFor_59 : decode cX5_friendFor 59 = .ok (.iload_n 2, 1) := by decide +kernel
theorem dX5_friendFor_60 : decode cX5_friendFor 60 = .ok (.iload_n 3, 1) := by decide +kernel
theorem dX5_friendFor_61 : decode cX5_friendFor 61 = .ok (.invokevirtual 194, 3) := by decide +kernel
theorem dX5_friendFor_64 : decode cX5_friendFor 64 = .ok (.istore 7, 2) := by decide +kernel
theorem dX5_friendFor_66 : decode cX5_friendFor 66 = .ok (.iload 7, 2) := by decide +kernel
theorem dX5_friendFor_68 : decode cX5_friendFor 68 = .ok (.iload 5, 2) := by decide +kernel
theorem dX5_friendFor_70 : decode cX5_friendFor 70 = .ok (.if_icmp .le 11, 3) := by decide +kernel
theorem dX5_friendFor_73 : decode cX5_friendFor 73 = .ok (.iload 7, 2) := by decide +kernel
theorem dX5_friendFor_75 : decode cX5_friendFor 75 = .ok (.istore 5, 2) := by decide +kernel
theorem dX5_friendFor_77 : decode cX5_friendFor 77 = .ok (.iload 6, 2) := by decide +kernel
theorem dX5_friendFor_79 : decode cX5_friendFor 79 = .ok (.istore 4, 2) := by decide +kernel
theorem dX5_friendFor_81 : decode cX5_friendFor 81 = .ok (.iinc 6 1, 3) := by decide +kernel
theorem dX5_friendFor_84 : decode cX5_friendFor 84 = .ok (.goto (-48), 3) := by decide +kernel
theorem dX5_friendFor_87 : decode cX5_friendFor 87 = .ok (.iload 4, 2) := by decide +kernel
theorem dX5_friendFor_89 : decode cX5_friendFor 89 = .ok (.ireturn, 1) := by decide +kernel
theorem dX5_boxFor_0 : decode cX5_boxFor 0 = .ok (.aload_n 0, 1) := by decide +kernel
theorem dX5_boxFor_1 : decode cX5_boxFor 1 = .ok (.iload_n 1, 1) := by decide +kernel
theorem dX5_boxFor_2 : decode cX5_boxFor 2 = .ok (.invokevirtual 108, 3) := by decide +kernel
theorem dX5_boxFor_5 : decode cX5_boxFor 5 = .ok (.ifCond .eq 13, 3) := by decide +kernel
theorem dX5_boxFor_8 : decode cX5_boxFor 8 = .ok (.iload_n 2, 1) := by decide +kernel
theorem dX5_boxFor_9 : decode cX5_boxFor 9 = .ok (.iconst 1, 1) := by decide +kernel
theorem dX5_boxFor_10 : decode cX5_boxFor 10 = .ok (.bipush 30, 2) := by decide +kernel
theorem dX5_boxFor_12 : decode cX5_boxFor 12 = .ok (.invokestatic 55, 3) := by decide +kernel
theorem dX5_boxFor_15 : decode cX5_boxFor 15 = .ok (.ifCond .ne 5, 3) := by decide +kernel
theorem dX5_boxFor_18 : decode cX5_boxFor 18 = .ok (.iconst (-1), 1) := by decide +kernel
theorem dX5_boxFor_19 : decode cX5_boxFor 19 = .ok (.ireturn, 1) := by decide +kernel
theorem dX5_boxFor_20 : decode cX5_boxFor 20 = .ok (.bipush (-3), 2) := by decide +kernel
theorem dX5_boxFor_22 : decode cX5_boxFor 22 = .ok (.istore_n 3, 1) := by decide +kernel
theorem dX5_boxFor_23 : decode cX5_boxFor 23 = .ok (.aload_n 0, 1) := by decide +kernel
theorem dX5_boxFor_24 : decode cX5_boxFor 24 = .ok (.iload_n 1, 1) := by decide +kernel
theorem dX5_boxFor_25 : decode cX5_boxFor 25 = .ok (.iload_n 2, 1) := by decide +kernel
theorem dX5_boxFor_26 : decode cX5_boxFor 26 = .ok (.aload_n 0, 1) := by decide +kernel
theorem dX5_boxFor_27 : decode cX5_boxFor 27 = .ok (.getfield 10, 3) := by decide +kernel
theorem dX5_boxFor_30 : decode cX5_boxFor 30 = .ok (.getfield 144, 3) := by decide +kernel
theorem dX5_boxFor_33 : decode cX5_boxFor 33 = .ok (.invokevirtual 197, 3) := by decide +kernel
theorem dX5_boxFor_36 : decode cX5_boxFor 36 = .ok (.istore 4, 2) := by decide +kernel
theorem dX5_boxFor_38 : decode cX5_boxFor 38 = .ok (.iconst 0, 1) := by decide +kernel
theorem dX5_boxFor_39 : decode cX5_boxFor 39 = .ok (.istore 5, 2) := by decide +kernel
theorem dX5_boxFor_41 : decode cX5_boxFor 41 = .ok (.iload 5, 2) := by decide +kernel
theorem dX5_boxFor_43 : decode cX5_boxFor 43 = .ok (.bipush 8, 2) := by decide +kernel
theorem dX5_boxFor_45 : decode cX5_boxFor 45 = .ok (.if_icmp .ge 58, 3) := by decide +kernel
theorem dX5_boxFor_48 : decode cX5_boxFor 48 = .ok (.aload_n 0, 1) := by decide +kernel
theorem dX5_boxFor_49 : decode cX5_boxFor 49 = .ok (.getfield 10, 3) := by decide +kernel
theorem dX5_boxFor_52 : decode cX5_boxFor 52 = .ok (.iload 5, 2) := by decide +kernel
theorem dX5_boxFor_54 : decode cX5_boxFor 54 = .ok (.invokevirtual 147, 3) := by decide +kernel
theorem dX5_boxFor_57 : decode cX5_boxFor 57 = .ok (.ifCond .eq 6, 3) := by decide +kernel
theorem dX5_boxFor_60 : decode cX5_boxFor 60 = .ok (.goto 37, 3) := by decide +kernel
theorem dX5_boxFor_63 : decode cX5_boxFor 63 = .ok (.aload_n 0, 1) := by decide +kernel
theorem dX5_boxFor_64 : decode cX5_boxFor 64 = .ok (.iload_n 1, 1) := by decide +kernel
theorem dX5_boxFor_65 : decode cX5_boxFor 65 = .ok (.iload_n 2, 1) := by decide +kernel
theorem dX5_boxFor_66 : decode cX5_boxFor 66 = .ok (.aload_n 0, 1) := by decide +kernel
theorem dX5_boxFor_67 : decode cX5_boxFor 67 = .ok (.getfield 10, 3) := by decide +kernel
theorem dX5_boxFor_70 : decode cX5_boxFor 70 = .ok (.getfield 144, 3) := by decide +kernel
theorem dX5_boxFor_73 : decode cX5_boxFor 73 = .ok (.iconst 1, 1) := by decide +kernel
theorem dX5_boxFor_74 : decode cX5_boxFor 74 = .ok (.iload 5, 2) := by decide +kernel
theorem dX5_boxFor_76 : decode cX5_boxFor 76 = .ok (.ishl, 1) := by decide +kernel
theorem dX5_boxFor_77 : decode cX5_boxFor 77 = .ok (.ior, 1) := by decide +kernel
theorem dX5_boxFor_78 : decode cX5_boxFor 78 = .ok (.invokevirtual 197, 3) := by decide +kernel
theorem dX5_boxFor_81 : decode cX5_boxFor 81 = .ok (.istore 6, 2) := by decide +kernel
theorem dX5_boxFor_83 : decode cX5_boxFor 83 = .ok (.iload 6, 2) := by decide +kernel
theorem dX5_boxFor_85 : decode cX5_boxFor 85 = .ok (.iload 4, 2) := by decide +kernel
theorem dX5_boxFor_87 : decode cX5_boxFor 87 = .ok (.if_icmp .le 10, 3) := by decide +kernel
theorem dX5_boxFor_90 : decode cX5_boxFor 90 = .ok (.iload 6, 2) := by decide +kernel
theorem dX5_boxFor_92 : decode cX5_boxFor 92 = .ok (.istore 4, 2) := by decide +kernel
theorem dX5_boxFor_94 : decode cX5_boxFor 94 = .ok (.iload 5, 2) := by decide +kernel
theorem dX5_boxFor_96 : decode cX5_boxFor 96 = .ok (.istore_n 3, 1) := by decide +kernel
theorem dX5_boxFor_97 : decode cX5_boxFor 97 = .ok (.iinc 5 1, 3) := by decide +kernel
theorem dX5_boxFor_100 : decode cX5_boxFor 100 = .ok (.goto (-59), 3) := by decide +kernel
theorem dX5_boxFor_103 : decode cX5_boxFor 103 = .ok (.iload_n 3, 1) := by decide +kernel
theorem dX5_boxFor_104 : decode cX5_boxFor 104 = .ok (.ireturn, 1) := by decide +kernel
theorem dX5_kindFor_0 : decode cX5_kindFor 0 = .ok (.aload_n 0, 1) := by decide +kernel
theorem dX5_kindFor_1 : decode cX5_kindFor 1 = .ok (.iload_n 1, 1) := by decide +kernel
theorem dX5_kindFor_2 : decode cX5_kindFor 2 = .ok (.invokevirtual 108, 3) := by decide +kernel
theorem dX5_kindFor_5 : decode cX5_kindFor 5 = .ok (.ifCond .eq 13, 3) := by decide +kernel
theorem dX5_kindFor_8 : decode cX5_kindFor 8 = .ok (.iload_n 2, 1) := by decide +kernel
theorem dX5_kindFor_9 : decode cX5_kindFor 9 = .ok (.iconst 1, 1) := by decide +kernel
theorem dX5_kindFor_10 : decode cX5_kindFor 10 = .ok (.bipush 30, 2) := by decide +kernel
theorem dX5_kindFor_12 : decode cX5_kindFor 12 = .ok (.invokestatic 55, 3) := by decide +kernel
theorem dX5_kindFor_15 : decode cX5_kindFor 15 = .ok (.ifCond .ne 5, 3) := by decide +kernel
theorem dX5_kindFor_18 : decode cX5_kindFor 18 = .ok (.iconst (-1), 1) := by decide +kernel
theorem dX5_kindFor_19 : decode cX5_kindFor 19 = .ok (.ireturn, 1) := by decide +kernel
theorem dX5_kindFor_20 : decode cX5_kindFor 20 = .ok (.iconst 0, 1) := by decide +kernel
theorem dX5_kindFor_21 : decode cX5_kindFor 21 = .ok (.istore_n 3, 1) := by decide +kernel
theorem dX5_kindFor_22 : decode cX5_kindFor 22 = .ok (.iconst (-1), 1) := by decide +kernel
theorem dX5_kindFor_23 : decode cX5_kindFor 23 = .ok (.istore 4, 2) := by decide +kernel
theorem dX5_kindFor_25 : decode cX5_kindFor 25 = .ok (.iconst 0, 1) := by decide +kernel
theorem dX5_kindFor_26 : decode cX5_kindFor 26 = .ok (.istore 5, 2) := by decide +kernel
theorem dX5_kindFor_28 : decode cX5_kindFor 28 = .ok (.iload 5, 2) := by decide +kernel
theorem dX5_kindFor_30 : decode cX5_kindFor 30 = .ok (.bipush 6, 2) := by decide +kernel
theorem dX5_kindFor_32 : decode cX5_kindFor 32 = .ok (.if_icmp .ge 46, 3) := by decide +kernel
theorem dX5_kindFor_35 : decode cX5_kindFor 35 = .ok (.aload_n 0, 1) := by decide +kernel
theorem dX5_kindFor_36 : decode cX5_kindFor 36 = .ok (.invokevirtual 181, 3) := by decide +kernel
theorem dX5_kindFor_39 : decode cX5_kindFor 39 = .ok (.aload_n 0, 1) := by decide +kernel
theorem dX5_kindFor_40 : decode cX5_kindFor 40 = .ok (.getfield 19, 3) := by decide +kernel
theorem dX5_kindFor_43 : decode cX5_kindFor 43 = .ok (.getfield 111, 3) := by decide +kernel
theorem dX5_kindFor_46 : decode cX5_kindFor 46 = .ok (.iload_n 1, 1) := by decide +kernel
theorem dX5_kindFor_47 : decode cX5_kindFor 47 = .ok (.iload 5, 2) := by decide +kernel
theorem dX5_kindFor_49 : decode cX5_kindFor 49 = .ok (.iastore, 1) := by decide +kernel
theorem dX5_kindFor_50 : decode cX5_kindFor 50 = .ok (.aload_n 0, 1) := by decide +kernel
theorem dX5_kindFor_51 : decode cX5_kindFor 51 = .ok (.iload_n 1, 1) := by decide +kernel
theorem dX5_kindFor_52 : decode cX5_kindFor 52 = .ok (.iload_n 2, 1) := by decide +kernel
theorem dX5_kindFor_53 : decode cX5_kindFor 53 = .ok (.invokevirtual 194, 3) := by decide +kernel
theorem dX5_kindFor_56 : decode cX5_kindFor 56 = .ok (.istore 6, 2) := by decide +kernel
theorem dX5_kindFor_58 : decode cX5_kindFor 58 = .ok (.iload 6, 2) := by decide +kernel
theorem dX5_kindFor_60 : decode cX5_kindFor 60 = .ok (.iload 4, 2) := by decide +kernel
theorem dX5_kindFor_62 : decode cX5_kindFor 62 = .ok (.if_icmp .le 10, 3) := by decide +kernel
theorem dX5_kindFor_65 : decode cX5_kindFor 65 = .ok (.iload 6, 2) := by decide +kernel
theorem dX5_kindFor_67 : decode cX5_kindFor 67 = .ok (.istore 4, 2) := by decide +kernel
theorem dX5_kindFor_69 : decode cX5_kindFor 69 = .ok (.iload 5, 2) := by decide +kernel
theorem dX5_kindFor_71 : decode cX5_kindFor 71 = .ok (.istore_n 3, 1) := by decide +kernel
theorem dX5_kindFor_72 : decode cX5_kindFor 72 = .ok (.iinc 5 1, 3) := by decide +kernel
theorem dX5_kindFor_75 : decode cX5_kindFor 75 = .ok (.goto (-47), 3) := by decide +kernel
theorem dX5_kindFor_78 : decode cX5_kindFor 78 = .ok (.iload_n 3, 1) := by decide +kernel
theorem dX5_kindFor_79 : decode cX5_kindFor 79 = .ok (.ireturn, 1) := by decide +kernel
theorem dX5_heatFor_0 : decode cX5_heatFor 0 = .ok (.aload_n 0, 1) := by decide +kernel
theorem dX5_heatFor_1 : decode cX5_heatFor 1 = .ok (.iload_n 1, 1) := by decide +kernel
theorem dX5_heatFor_2 : decode cX5_heatFor 2 = .ok (.invokevirtual 108, 3) := by decide +kernel
theorem dX5_heatFor_5 : decode cX5_heatFor 5 = .ok (.ifCond .eq 20, 3) := by decide +kernel
theorem dX5_heatFor_8 : decode cX5_heatFor 8 = .ok (.iload_n 2, 1) := by decide +kernel
theorem dX5_heatFor_9 : decode cX5_heatFor 9 = .ok (.invokestatic 101, 3) := by decide +kernel
theorem dX5_heatFor_12 : decode cX5_heatFor 12 = .ok (.ifCond .eq 13, 3) := by decide +kernel
theorem dX5_heatFor_15 : decode cX5_heatFor 15 = .ok (.iload_n 3, 1) := by decide +kernel
theorem dX5_heatFor_16 : decode cX5_heatFor 16 = .ok (.iconst 0, 1) := by decide +kernel
theorem dX5_heatFor_17 : decode cX5_heatFor 17 = .ok (.bipush 30, 2) := by decide +kernel
theorem dX5_heatFor_19 : decode cX5_heatFor 19 = .ok (.invokestatic 55, 3) := by decide +kernel
theorem dX5_heatFor_22 : decode cX5_heatFor 22 = .ok (.ifCond .ne 5, 3) := by decide +kernel
theorem dX5_heatFor_25 : decode cX5_heatFor 25 = .ok (.iconst (-1), 1) := by decide +kernel
theorem dX5_heatFor_26 : decode cX5_heatFor 26 = .ok (.ireturn, 1) := by decide +kernel
theorem dX5_heatFor_27 : decode cX5_heatFor 27 = .ok (.iconst 0, 1) := by decide +kernel
theorem dX5_heatFor_28 : decode cX5_heatFor 28 = .ok (.istore 4, 2) := by decide +kernel
theorem dX5_heatFor_30 : decode cX5_heatFor 30 = .ok (.iload 4, 2) := by decide +kernel
theorem dX5_heatFor_32 : decode cX5_heatFor 32 = .ok (.bipush 99, 2) := by decide +kernel
theorem dX5_heatFor_34 : decode cX5_heatFor 34 = .ok (.if_icmp .gt 41, 3) := by decide +kernel
theorem dX5_heatFor_37 : decode cX5_heatFor 37 = .ok (.aload_n 0, 1) := by decide +kernel
theorem dX5_heatFor_38 : decode cX5_heatFor 38 = .ok (.invokevirtual 181, 3) := by decide +kernel
theorem dX5_heatFor_41 : decode cX5_heatFor 41 = .ok (.aload_n 0, 1) := by decide +kernel
theorem dX5_heatFor_42 : decode cX5_heatFor 42 = .ok (.getfield 19, 3) := by decide +kernel
theorem dX5_heatFor_45 : decode cX5_heatFor 45 = .ok (.getfield 114, 3) := by decide +kernel
theorem dX5_heatFor_48 : decode cX5_heatFor 48 = .ok (.iload_n 1, 1) := by decide +kernel
theorem dX5_heatFor_49 : decode cX5_heatFor 49 = .ok (.iload 4, 2) := by decide +kernel
theorem dX5_heatFor_51 : decode cX5_heatFor 51 = .ok (.iastore, 1) := by decide +kernel
theorem dX5_heatFor_52 : decode cX5_heatFor 52 = .ok (.aload_n 0, 1) := by decide +kernel
theorem dX5_heatFor_53 : decode cX5_heatFor 53 = .ok (.iload_n 1, 1) := by decide +kernel
theorem dX5_heatFor_54 : decode cX5_heatFor 54 = .ok (.iconst 1, 1) := by decide +kernel
theorem dX5_heatFor_55 : decode cX5_heatFor 55 = .ok (.iload_n 2, 1) := by decide +kernel
theorem dX5_heatFor_56 : decode cX5_heatFor 56 = .ok (.ishl, 1) := by decide +kernel
theorem dX5_heatFor_57 : decode cX5_heatFor 57 = .ok (.iload_n 3, 1) := by decide +kernel
theorem dX5_heatFor_58 : decode cX5_heatFor 58 = .ok (.invokevirtual 187, 3) := by decide +kernel
theorem dX5_heatFor_61 : decode cX5_heatFor 61 = .ok (.bipush (-3), 2) := by decide +kernel
theorem dX5_heatFor_63 : decode cX5_heatFor 63 = .ok (.if_icmp .eq 6, 3) := by decide +kernel
theorem dX5_heatFor_66 : decode cX5_heatFor 66 = .ok (.iload 4, 2) := by decide +kernel
theorem dX5_heatFor_68 : decode cX5_heatFor 68 = .ok (.ireturn, 1) := by decide +kernel
theorem dX5_heatFor_69 : decode cX5_heatFor 69 = .ok (.iinc 4 1, 3) := by decide +kernel
theorem dX5_heatFor_72 : decode cX5_heatFor 72 = .ok (.goto (-42), 3) := by decide +kernel
theorem dX5_heatFor_75 : decode cX5_heatFor 75 = .ok (.bipush (-3), 2) := by decide +kernel
theorem dX5_heatFor_77 : decode cX5_heatFor 77 = .ok (.ireturn, 1) := by decide +kernel
theorem dX5_keptFor_0 : decode cX5_keptFor 0 = .ok (.aload_n 0, 1) := by decide +kernel
theorem dX5_keptFor_1 : decode cX5_keptFor 1 = .ok (.iload_n 1, 1) := by decide +kernel
theorem dX5_keptFor_2 : decode cX5_keptFor 2 = .ok (.invokevirtual 108, 3) := by decide +kernel
theorem dX5_keptFor_5 : decode cX5_keptFor 5 = .ok (.ifCond .eq 20, 3) := by decide +kernel
theorem dX5_keptFor_8 : decode cX5_keptFor 8 = .ok (.iload_n 2, 1) := by decide +kernel
theorem dX5_keptFor_9 : decode cX5_keptFor 9 = .ok (.iconst 1, 1) := by decide +kernel
theorem dX5_keptFor_10 : decode cX5_keptFor 10 = .ok (.bipush 20, 2) := by decide +kernel
theorem dX5_keptFor_12 : decode cX5_keptFor 12 = .ok (.invokestatic 55, 3) := by decide +kernel
theorem dX5_keptFor_15 : decode cX5_keptFor 15 = .ok (.ifCond .eq 10, 3) := by decide +kernel
theorem dX5_keptFor_18 : decode cX5_keptFor 18 = .ok (.iload_n 3, 1) := by decide +kernel
theorem dX5_keptFor_19 : decode cX5_keptFor 19 = .ok (.invokestatic 98, 3) := by decide +kernel
theorem dX5_keptFor_22 : decode cX5_keptFor 22 = .ok (.ifCond .ne 5, 3) := by decide +kernel
theorem dX5_keptFor_25 : decode cX5_keptFor 25 = .ok (.iconst (-1), 1) := by decide +kernel
theorem dX5_keptFor_26 : decode cX5_keptFor 26 = .ok (.ireturn, 1) := by decide +kernel
theorem dX5_keptFor_27 : decode cX5_keptFor 27 = .ok (.iconst 0, 1) := by decide +kernel
theorem dX5_keptFor_28 : decode cX5_keptFor 28 = .ok (.istore 4, 2) := by decide +kernel
theorem dX5_keptFor_30 : decode cX5_keptFor 30 = .ok (.iload 4, 2) := by decide +kernel
theorem dX5_keptFor_32 : decode cX5_keptFor 32 = .ok (.bipush 8, 2) := by decide +kernel
theorem dX5_keptFor_34 : decode cX5_keptFor 34 = .ok (.if_icmp .gt 51, 3) := by decide +kernel
theorem dX5_keptFor_37 : decode cX5_keptFor 37 = .ok (.iconst 0, 1) := by decide +kernel
theorem dX5_keptFor_38 : decode cX5_keptFor 38 = .ok (.istore 5, 2) := by decide +kernel
theorem dX5_keptFor_40 : decode cX5_keptFor 40 = .ok (.iload 5, 2) := by decide +kernel
theorem dX5_keptFor_42 : decode cX5_keptFor 42 = .ok (.sipush 255, 3) := by decide +kernel
theorem dX5_keptFor_45 : decode cX5_keptFor 45 = .ok (.if_icmp .gt 34, 3) := by decide +kernel
theorem dX5_keptFor_48 : decode cX5_keptFor 48 = .ok (.iload 5, 2) := by decide +kernel
theorem dX5_keptFor_50 : decode cX5_keptFor 50 = .ok (.invokestatic 200, 3) := by decide +kernel
theorem dX5_keptFor_53 : decode cX5_keptFor 53 = .ok (.iload 4, 2) := by decide +kernel
theorem dX5_keptFor_55 : decode cX5_keptFor 55 = .ok (.if_icmp .ne 18, 3) := by decide +kernel
theorem dX5_keptFor_58 : decode cX5_keptFor 58 = .ok (.aload_n 0, 1) := by decide +kernel
theorem dX5_keptFor_59 : decode cX5_keptFor 59 = .ok (.iload_n 1, 1) := by decide +kernel
theorem dX5_keptFor_60 : decode cX5_keptFor 60 = .ok (.iload_n 2, 1) := by decide +kernel
theorem dX5_keptFor_61 : decode cX5_keptFor 61 = .ok (.iload 5, 2) := by decide +kernel
theorem dX5_keptFor_63 : decode cX5_keptFor 63 = .ok (.invokevirtual 197, 3) := by decide +kernel
theorem dX5_keptFor_66 : decode cX5_keptFor 66 = .ok (.iload_n 3, 1) := by decide +kernel
theorem dX5_keptFor_67 : decode cX5_keptFor 67 = .ok (.if_icmp .lt 6, 3) := by decide +kernel
theorem dX5_keptFor_70 : decode cX5_keptFor 70 = .ok (.iload 5, 2) := by decide +kernel
theorem dX5_keptFor_72 : decode cX5_keptFor 72 = .ok (.ireturn, 1) := by decide +kernel
theorem dX5_keptFor_73 : decode cX5_keptFor 73 = .ok (.iinc 5 1, 3) := by decide +kernel
theorem dX5_keptFor_76 : decode cX5_keptFor 76 = .ok (.goto (-36), 3) := by decide +kernel
theorem dX5_keptFor_79 : decode cX5_keptFor 79 = .ok (.iinc 4 1, 3) := by decide +kernel
theorem dX5_keptFor_82 : decode cX5_keptFor 82 = .ok (.goto (-52), 3) := by decide +kernel
theorem dX5_keptFor_85 : decode cX5_keptFor 85 = .ok (.bipush (-3), 2) := by decide +kernel
theorem dX5_keptFor_87 : decode cX5_keptFor 87 = .ok (.ireturn, 1) := by decide +kernel
theorem dX5_fits_0 : decode cX5_fits 0 = .ok (.iload_n 1, 1) := by decide +kernel
theorem dX5_fits_1 : decode cX5_fits 1 = .ok (.invokestatic 205, 3) := by decide +kernel
theorem dX5_fits_4 : decode cX5_fits 4 = .ok (.ifCond .eq 20, 3) := by decide +kernel
theorem dX5_fits_7 : decode cX5_fits 7 = .ok (.aload_n 0, 1) := by decide +kernel
theorem dX5_fits_8 : decode cX5_fits 8 = .ok (.iload_n 2, 1) := by decide +kernel
theorem dX5_fits_9 : decode cX5_fits 9 = .ok (.invokevirtual 108, 3) := by decide +kernel
theorem dX5_fits_12 : decode cX5_fits 12 = .ok (.ifCond .eq 12, 3) := by decide +kernel
theorem dX5_fits_15 : decode cX5_fits 15 = .ok (.iload_n 3, 1) := by decide +kernel
theorem dX5_fits_16 : decode cX5_fits 16 = .ok (.iconst 0, 1) := by decide +kernel
theorem dX5_fits_17 : decode cX5_fits 17 = .ok (.iconst 1, 1) := by decide +kernel
theorem dX5_fits_18 : decode cX5_fits 18 = .ok (.invokestatic 55, 3) := by decide +kernel
theorem dX5_fits_21 : decode cX5_fits 21 = .ok (.ifCond .ne 5, 3) := by decide +kernel
theorem dX5_fits_24 : decode cX5_fits 24 = .ok (.iconst (-1), 1) := by decide +kernel
theorem dX5_fits_25 : decode cX5_fits 25 = .ok (.ireturn, 1) := by decide +kernel
theorem dX5_fits_26 : decode cX5_fits 26 = .ok (.aload_n 0, 1) := by decide +kernel
theorem dX5_fits_27 : decode cX5_fits 27 = .ok (.getfield 36, 3) := by decide +kernel
theorem dX5_fits_30 : decode cX5_fits 30 = .ok (.iload_n 1, 1) := by decide +kernel
theorem dX5_fits_31 : decode cX5_fits 31 = .ok (.aaload, 1) := by decide +kernel
theorem dX5_fits_32 : decode cX5_fits 32 = .ok (.invokevirtual 208, 3) := by decide +kernel
theorem dX5_fits_35 : decode cX5_fits 35 = .ok (.ifCond .eq 6, 3) := by decide +kernel
theorem dX5_fits_38 : decode cX5_fits 38 = .ok (.bipush (-11), 2) := by decide +kernel
theorem dX5_fits_40 : decode cX5_fits 40 = .ok (.ireturn, 1) := by decide +kernel
theorem dX5_fits_41 : decode cX5_fits 41 = .ok (.bipush (-3), 2) := by decide +kernel
theorem dX5_fits_43 : decode cX5_fits 43 = .ok (.istore 4, 2) := by decide +kernel
theorem dX5_fits_45 : decode cX5_fits 45 = .ok (.iconst 0, 1) := by decide +kernel
theorem dX5_fits_46 : decode cX5_fits 46 = .ok (.istore 5, 2) := by decide +kernel
theorem dX5_fits_48 : decode cX5_fits 48 = .ok (.bipush 99, 2) := by decide +kernel
theorem dX5_fits_50 : decode cX5_fits 50 = .ok (.istore 6, 2) := by decide +kernel
theorem dX5_fits_52 : decode cX5_fits 52 = .ok (.iload 6, 2) := by decide +kernel
theorem dX5_fits_54 : decode cX5_fits 54 = .ok (.ifCond .lt 32, 3) := by decide +kernel
theorem dX5_fits_57 : decode cX5_fits 57 = .ok (.aload_n 0, 1) := by decide +kernel
theorem dX5_fits_58 : decode cX5_fits 58 = .ok (.iload_n 2, 1) := by decide +kernel
theorem dX5_fits_59 : decode cX5_fits 59 = .ok (.iload 6, 2) := by decide +kernel
theorem dX5_fits_61 : decode cX5_fits 61 = .ok (.aload_n 0, 1) := by decide +kernel
theorem dX5_fits_62 : decode cX5_fits 62 = .ok (.getfield 36, 3) := by decide +kernel
theorem dX5_fits_65 : decode cX5_fits 65 = .ok (.iload_n 1, 1) := by decide +kernel
theorem dX5_fits_66 : decode cX5_fits 66 = .ok (.aaload, 1) := by decide +kernel
theorem dX5_fits_67 : decode cX5_fits 67 = .ok (.invokevirtual 212, 3) := by decide +kernel
theorem dX5_fits_70 : decode cX5_fits 70 = .ok (.ifCond .eq 10, 3) := by decide +kernel
theorem dX5_fits_73 : decode cX5_fits 73 = .ok (.iload 6, 2) := by decide +kernel
theorem dX5_fits_75 : decode cX5_fits 75 = .ok (.istore 4, 2) := by decide +kernel
theorem dX5_fits_77 : decode cX5_fits 77 = .ok (.iinc 5 1, 3) := by decide +kernel
theorem dX5_fits_80 : decode cX5_fits 80 = .ok (.iinc 6 (-1), 3) := by decide +kernel
theorem dX5_fits_83 : decode cX5_fits 83 = .ok (.goto (-31), 3) := by decide +kernel
theorem dX5_fits_86 : decode cX5_fits 86 = .ok (.iload_n 3, 1) := by decide +kernel
theorem dX5_fits_87 : decode cX5_fits 87 = .ok (.ifCond .ne 8, 3) := by decide +kernel
theorem dX5_fits_90 : decode cX5_fits 90 = .ok (.iload 5, 2) := by decide +kernel
theorem dX5_fits_92 : decode cX5_fits 92 = .ok (.goto 5, 3) := by decide +kernel
theorem dX5_fits_95 : decode cX5_fits 95 = .ok (.iload 4, 2) := by decide +kernel
theorem dX5_fits_97 : decode cX5_fits 97 = .ok (.ireturn, 1) := by decide +kernel
theorem dX5_startTrial_0 : decode cX5_startTrial 0 = .ok (.aload_n 0, 1) := by decide +kernel
theorem dX5_startTrial_1 : decode cX5_startTrial 1 = .ok (.getfield 19, 3) := by decide +kernel
theorem dX5_startTrial_4 : decode cX5_startTrial 4 = .ok (.aload_n 0, 1) := by decide +kernel
theorem dX5_startTrial_5 : decode cX5_startTrial 5 = .ok (.getfield 10, 3) := by decide +kernel
theorem dX5_startTrial_8 : decode cX5_startTrial 8 = .ok (.invokevirtual 77, 3) := by decide +kernel
theorem dX5_startTrial_11 : decode cX5_startTrial 11 = .ok (.return_, 1) := by decide +kernel
theorem dX5_triedUntilHeard_0 : decode cX5_triedUntilHeard 0 = .ok (.iconst 0, 1) := by decide +kernel
theorem dX5_triedUntilHeard_1 : decode cX5_triedUntilHeard 1 = .ok (.istore 4, 2) := by decide +kernel
theorem dX5_triedUntilHeard_3 : decode cX5_triedUntilHeard 3 = .ok (.iload 4, 2) := by decide +kernel
theorem dX5_triedUntilHeard_5 : decode cX5_triedUntilHeard 5 = .ok (.iload_n 3, 1) := by decide +kernel
theorem dX5_triedUntilHeard_6 : decode cX5_triedUntilHeard 6 = .ok (.if_icmp .gt 35, 3) := by decide +kernel
theorem dX5_triedUntilHeard_9 : decode cX5_triedUntilHeard 9 = .ok (.aload_n 0, 1) := by decide +kernel
theorem dX5_triedUntilHeard_10 : decode cX5_triedUntilHeard 10 = .ok (.getfield 19, 3) := by decide +kernel
theorem dX5_triedUntilHeard_13 : decode cX5_triedUntilHeard 13 = .ok (.getfield 120, 3) := by decide +kernel
theorem dX5_triedUntilHeard_16 : decode cX5_triedUntilHeard 16 = .ok (.iload_n 1, 1) := by decide +kernel
theorem dX5_triedUntilHeard_17 : decode cX5_triedUntilHeard 17 = .ok (.iaload, 1) := by decide +kernel
theorem dX5_triedUntilHeard_18 : decode cX5_triedUntilHeard 18 = .ok (.iload_n 2, 1) := by decide +kernel
theorem dX5_triedUntilHeard_19 : decode cX5_triedUntilHeard 19 = .ok (.iand, 1) := by decide +kernel
theorem dX5_triedUntilHeard_20 : decode cX5_triedUntilHeard 20 = .ok (.iload_n 2, 1) := by decide +kernel
theorem dX5_triedUntilHeard_21 : decode cX5_triedUntilHeard 21 = .ok (.if_icmp .ne 6, 3) := by decide +kernel
theorem dX5_triedUntilHeard_24 : decode cX5_triedUntilHeard 24 = .ok (.iload 4, 2) := by decide +kernel
theorem dX5_triedUntilHeard_26 : decode cX5_triedUntilHeard 26 = .ok (.ireturn, 1) := by decide +kernel
theorem dX5_triedUntilHeard_27 : decode cX5_triedUntilHeard 27 = .ok (.aload_n 0, 1) := by decide +kernel
theorem dX5_triedUntilHeard_28 : decode cX5_triedUntilHeard 28 = .ok (.getfield 19, 3) := by decide +kernel
theorem dX5_triedUntilHeard_31 : decode cX5_triedUntilHeard 31 = .ok (.iload_n 1, 1) := by decide +kernel
theorem dX5_triedUntilHeard_32 : decode cX5_triedUntilHeard 32 = .ok (.invokevirtual 190, 3) := by decide +kernel
theorem dX5_triedUntilHeard_35 : decode cX5_triedUntilHeard 35 = .ok (.iinc 4 1, 3) := by decide +kernel
theorem dX5_triedUntilHeard_38 : decode cX5_triedUntilHeard 38 = .ok (.goto (-35), 3) := by decide +kernel
theorem dX5_triedUntilHeard_41 : decode cX5_triedUntilHeard 41 = .ok (.bipush (-3), 2) := by decide +kernel
theorem dX5_triedUntilHeard_43 : decode cX5_triedUntilHeard 43 = .ok (.ireturn, 1) := by decide +kernel
theorem dX5_triedReach_0 : decode cX5_triedReach 0 = .ok (.aload_n 0, 1) := by decide +kernel
theorem dX5_triedReach_1 : decode cX5_triedReach 1 = .ok (.getfield 19, 3) := by decide +kernel
theorem dX5_triedReach_4 : decode cX5_triedReach 4 = .ok (.iload_n 1, 1) := by decide +kernel
theorem dX5_triedReach_5 : decode cX5_triedReach 5 = .ok (.iload_n 2, 1) := by decide +kernel
theorem dX5_triedReach_6 : decode cX5_triedReach 6 = .ok (.invokevirtual 184, 3) := by decide +kernel
theorem dX5_triedReach_9 : decode cX5_triedReach 9 = .ok (.aload_n 0, 1) := by decide +kernel
theorem dX5_triedReach_10 : decode cX5_triedReach 10 = .ok (.getfield 19, 3) := by decide +kernel
theorem dX5_triedReach_13 : decode cX5_triedReach 13 = .ok (.getfield 120, 3) := by decide +kernel
theorem dX5_triedReach_16 : decode cX5_triedReach 16 = .ok (.iload_n 1, 1) := by decide +kernel
theorem dX5_triedReach_17 : decode cX5_triedReach 17 = .ok (.iaload, 1) := by decide +kernel
theorem dX5_triedReach_18 : decode cX5_triedReach 18 = .ok (.invokestatic 200, 3) := by decide +kernel
theorem dX5_triedReach_21 : decode cX5_triedReach 21 = .ok (.ireturn, 1) := by decide +kernel
theorem dX5_triedHeat_0 : decode cX5_triedHeat 0 = .ok (.aload_n 0, 1) := by decide +kernel
theorem dX5_triedHeat_1 : decode cX5_triedHeat 1 = .ok (.invokevirtual 181, 3) := by decide +kernel
theorem dX5_triedHeat_4 : decode cX5_triedHeat 4 = .ok (.aload_n 0, 1) := by decide +kernel
theorem dX5_triedHeat_5 : decode cX5_triedHeat 5 = .ok (.getfield 19, 3) := by decide +kernel
theorem dX5_triedHeat_8 : decode cX5_triedHeat 8 = .ok (.iload_n 3, 1) := by decide +kernel
theorem dX5_triedHeat_9 : decode cX5_triedHeat 9 = .ok (.putfield 144, 3) := by decide +kernel
theorem dX5_triedHeat_12 : decode cX5_triedHeat 12 = .ok (.aload_n 0, 1) := by decide +kernel
theorem dX5_triedHeat_13 : decode cX5_triedHeat 13 = .ok (.getfield 19, 3) := by decide +kernel
theorem dX5_triedHeat_16 : decode cX5_triedHeat 16 = .ok (.iload_n 1, 1) := by decide +kernel
theorem dX5_triedHeat_17 : decode cX5_triedHeat 17 = .ok (.iload_n 2, 1) := by decide +kernel
theorem dX5_triedHeat_18 : decode cX5_triedHeat 18 = .ok (.invokevirtual 184, 3) := by decide +kernel
theorem dX5_triedHeat_21 : decode cX5_triedHeat 21 = .ok (.aload_n 0, 1) := by decide +kernel
theorem dX5_triedHeat_22 : decode cX5_triedHeat 22 = .ok (.getfield 19, 3) := by decide +kernel
theorem dX5_triedHeat_25 : decode cX5_triedHeat 25 = .ok (.getfield 114, 3) := by decide +kernel
theorem dX5_triedHeat_28 : decode cX5_triedHeat 28 = .ok (.iload_n 1, 1) := by decide +kernel
theorem dX5_triedHeat_29 : decode cX5_triedHeat 29 = .ok (.iaload, 1) := by decide +kernel
theorem dX5_triedHeat_30 : decode cX5_triedHeat 30 = .ok (.ireturn, 1) := by decide +kernel
theorem dX5_goesAsTold_0 : decode cX5_goesAsTold 0 = .ok (.aload_n 0, 1) := by decide +kernel
theorem dX5_goesAsTold_1 : decode cX5_goesAsTold 1 = .ok (.invokevirtual 181, 3) := by decide +kernel
theorem dX5_goesAsTold_4 : decode cX5_goesAsTold 4 = .ok (.aload_n 0, 1) := by decide +kernel
theorem dX5_goesAsTold_5 : decode cX5_goesAsTold 5 = .ok (.getfield 19, 3) := by decide +kernel
theorem dX5_goesAsTold_8 : decode cX5_goesAsTold 8 = .ok (.getfield 114, 3) := by decide +kernel
theorem dX5_goesAsTold_11 : decode cX5_goesAsTold 11 = .ok (.iload_n 1, 1) := by decide +kernel
theorem dX5_goesAsTold_12 : decode cX5_goesAsTold 12 = .ok (.iload_n 2, 1) := by decide +kernel
theorem dX5_goesAsTold_13 : decode cX5_goesAsTold 13 = .ok (.iastore, 1) := by decide +kernel
theorem dX5_goesAsTold_14 : decode cX5_goesAsTold 14 = .ok (.iconst 0, 1) := by decide +kernel
theorem dX5_goesAsTold_15 : decode cX5_goesAsTold 15 = .ok (.istore 4, 2) := by decide +kernel
theorem dX5_goesAsTold_17 : decode cX5_goesAsTold 17 = .ok (.iload 4, 2) := by decide +kernel
theorem dX5_goesAsTold_19 : decode cX5_goesAsTold 19 = .ok (.aload_n 3, 1) := by decide +kernel
theorem dX5_goesAsTold_20 : decode cX5_goesAsTold 20 = .ok (.getfield 216, 3) := by decide +kernel
theorem dX5_goesAsTold_23 : decode cX5_goesAsTold 23 = .ok (.if_icmp .ge 48, 3) := by decide +kernel
theorem dX5_goesAsTold_26 : decode cX5_goesAsTold 26 = .ok (.aload_n 0, 1) := by decide +kernel
theorem dX5_goesAsTold_27 : decode cX5_goesAsTold 27 = .ok (.getfield 19, 3) := by decide +kernel
theorem dX5_goesAsTold_30 : decode cX5_goesAsTold 30 = .ok (.iload_n 1, 1) := by decide +kernel
theorem dX5_goesAsTold_31 : decode cX5_goesAsTold 31 = .ok (.invokevirtual 190, 3) := by decide +kernel
theorem dX5_goesAsTold_34 : decode cX5_goesAsTold 34 = .ok (.aload_n 3, 1) := by decide +kernel
theorem dX5_goesAsTold_35 : decode cX5_goesAsTold 35 = .ok (.getfield 217, 3) := by decide +kernel
theorem dX5_goesAsTold_38 : decode cX5_goesAsTold 38 = .ok (.iload 4, 2) := by decide +kernel
theorem dX5_goesAsTold_40 : decode cX5_goesAsTold 40 = .ok (.iaload, 1) := by decide +kernel
theorem dX5_goesAsTold_41 : decode cX5_goesAsTold 41 = .ok (.istore 5, 2) := by decide +kernel
theorem dX5_goesAsTold_43 : decode cX5_goesAsTold 43 = .ok (.iload 5, 2) := by decide +kernel
theorem dX5_goesAsTold_45 : decode cX5_goesAsTold 45 = .ok (.iconst (-1), 1) := by decide +kernel
theorem dX5_goesAsTold_46 : decode cX5_goesAsTold 46 = .ok (.if_icmp .eq 19, 3) := by decide +kernel
theorem dX5_goesAsTold_49 : decode cX5_goesAsTold 49 = .ok (.iload 5, 2) := by decide +kernel
theorem dX5_goesAsTold_51 : decode cX5_goesAsTold 51 = .ok (.aload_n 0, 1) := by decide +kernel
theorem dX5_goesAsTold_52 : decode cX5_goesAsTold 52 = .ok (.getfield 19, 3) := by decide +kernel
theorem dX5_goesAsTold_55 : decode cX5_goesAsTold 55 = .ok (.getfield 117, 3) := by decide +kernel
theorem dX5_goesAsTold_58 : decode cX5_goesAsTold 58 = .ok (.iload_n 1, 1) := by decide +kernel
theorem dX5_goesAsTold_59 : decode cX5_goesAsTold 59 = .ok (.iaload, 1) := by decide +kernel
theorem dX5_goesAsTold_60 : decode cX5_goesAsTold 60 = .ok (.if_icmp .eq 5, 3) := by decide +kernel
theorem dX5_goesAsTold_63 : decode cX5_goesAsTold 63 = .ok (.iconst 0, 1) := by decide +kernel
theorem dX5_goesAsTold_64 : decode cX5_goesAsTold 64 = .ok (.ireturn, 1) := by decide +kernel
theorem dX5_goesAsTold_65 : decode cX5_goesAsTold 65 = .ok (.iinc 4 1, 3) := by decide +kernel
theorem dX5_goesAsTold_68 : decode cX5_goesAsTold 68 = .ok (.goto (-51), 3) := by decide +kernel
theorem dX5_goesAsTold_71 : decode cX5_goesAsTold 71 = .ok (.iconst 1, 1) := by decide +kernel
theorem dX5_goesAsTold_72 : decode cX5_goesAsTold 72 = .ok (.ireturn, 1) := by decide +kernel
theorem dX5_odds_0 : decode cX5_odds 0 = .ok (.iload_n 1, 1) := by decide +kernel
theorem dX5_odds_1 : decode cX5_odds 1 = .ok (.iconst 0, 1) := by decide +kernel
theorem dX5_odds_2 : decode cX5_odds 2 = .ok (.bipush 8, 2) := by decide +kernel
theorem dX5_odds_4 : decode cX5_odds 4 = .ok (.invokestatic 55, 3) := by decide +kernel
theorem dX5_odds_7 : decode cX5_odds 7 = .ok (.ifCond .eq 21, 3) := by decide +kernel
theorem dX5_odds_10 : decode cX5_odds 10 = .ok (.iload_n 2, 1) := by decide +kernel
theorem dX5_odds_11 : decode cX5_odds 11 = .ok (.iconst 0, 1) := by decide +kernel
theorem dX5_odds_12 : decode cX5_odds 12 = .ok (.iload_n 1, 1) := by decide +kernel
theorem dX5_odds_13 : decode cX5_odds 13 = .ok (.invokestatic 55, 3) := by decide +kernel
theorem dX5_odds_16 : decode cX5_odds 16 = .ok (.ifCond .eq 12, 3) := by decide +kernel
theorem dX5_odds_19 : decode cX5_odds 19 = .ok (.iload_n 3, 1) := by decide +kernel
theorem dX5_odds_20 : decode cX5_odds 20 = .ok (.iconst 0, 1) := by decide +kernel
theorem dX5_odds_21 : decode cX5_odds 21 = .ok (.iconst 1, 1) := by decide +kernel
theorem dX5_odds_22 : decode cX5_odds 22 = .ok (.invokestatic 55, 3) := by decide +kernel
theorem dX5_odds_25 : decode cX5_odds 25 = .ok (.ifCond .ne 7, 3) := by decide +kernel
theorem dX5_odds_28 : decode cX5_odds 28 = .ok (.ldc2_w 220, 3) := by decide +kernel
theorem dX5_odds_31 : decode cX5_odds 31 = .ok (.lreturn, 1) := by decide +kernel
theorem dX5_odds_32 : decode cX5_odds 32 = .ok (.aload_n 0, 1) := by decide +kernel
theorem dX5_odds_33 : decode cX5_odds 33 = .ok (.getfield 10, 3) := by decide +kernel
theorem dX5_odds_36 : decode cX5_odds 36 = .ok (.getfield 91, 3) := by decide +kernel
theorem dX5_odds_39 : decode cX5_odds 39 = .ok (.iconst 3, 1) := by decide +kernel
theorem dX5_odds_40 : decode cX5_odds 40 = .ok (.iaload, 1) := by decide +kernel
theorem dX5_odds_41 : decode cX5_odds 41 = .ok (.istore 4, 2) := by decide +kernel
theorem dX5_odds_43 : decode cX5_odds 43 = .ok (.iload_n 1, 1) := by decide +kernel
theorem dX5_odds_44 : decode cX5_odds 44 = .ok (.iload_n 2, 1) := by decide +kernel
theorem dX5_odds_45 : decode cX5_odds 45 = .ok (.invokestatic 222, 3) := by decide +kernel
theorem dX5_odds_48 : decode cX5_odds 48 = .ok (.iload 4, 2) := by decide +kernel
theorem dX5_odds_50 : decode cX5_odds 50 = .ok (.i2l, 1) := by decide +kernel
theorem dX5_odds_51 : decode cX5_odds 51 = .ok (.iload_n 2, 1) := by decide +kernel
theorem dX5_odds_52 : decode cX5_odds 52 = .ok (.invokestatic 226, 3) := by decide +kernel
theorem dX5_odds_55 : decode cX5_odds 55 = .ok (.lmul, 1) := by decide +kernel
theorem dX5_odds_56 : decode cX5_odds 56 = .ok (.bipush 100, 2) := by decide +kernel
theorem dX5_odds_58 : decode cX5_odds 58 = .ok (.iload 4, 2) := by decide +kernel
theorem dX5_odds_60 : decode cX5_odds 60 = .ok (.isub, 1) := by decide +kernel
theorem dX5_odds_61 : decode cX5_odds 61 = .ok (.i2l, 1) := by decide +kernel
theorem dX5_odds_62 : decode cX5_odds 62 = .ok (.iload_n 1, 1) := by decide +kernel
theorem dX5_odds_63 : decode cX5_odds 63 = .ok (.iload_n 2, 1) := by decide +kernel
theorem dX5_odds_64 : decode cX5_odds 64 = .ok (.isub, 1) := by decide +kernel
theorem dX5_odds_65 : decode cX5_odds 65 = .ok (.invokestatic 226, 3) := by decide +kernel
theorem dX5_odds_68 : decode cX5_odds 68 = .ok (.lmul, 1) := by decide +kernel
theorem dX5_odds_69 : decode cX5_odds 69 = .ok (.lstore 5, 2) := by decide +kernel
theorem dX5_odds_71 : decode cX5_odds 71 = .ok (.lload 5, 2) := by decide +kernel
theorem dX5_odds_73 : decode cX5_odds 73 = .ok (.ldc2_w 230, 3) := by decide +kernel
theorem dX5_odds_76 : decode cX5_odds 76 = .ok (.iload_n 1, 1) := by decide +kernel
theorem dX5_odds_77 : decode cX5_odds 77 = .ok (.invokestatic 226, 3) := by decide +kernel
theorem dX5_odds_80 : decode cX5_odds 80 = .ok (.iload_n 3, 1) := by decide +kernel
theorem dX5_odds_81 : decode cX5_odds 81 = .ok (.invokestatic 232, 3) := by decide +kernel
theorem dX5_odds_84 : decode cX5_odds 84 = .ok (.lreturn, 1) := by decide +kernel
theorem dX5_hope_0 : decode cX5_hope 0 = .ok (.iload_n 1, 1) := by decide +kernel
theorem dX5_hope_1 : decode cX5_hope 1 = .ok (.iconst 0, 1) := by decide +kernel
theorem dX5_hope_2 : decode cX5_hope 2 = .ok (.bipush 99, 2) := by decide +kernel
theorem dX5_hope_4 : decode cX5_hope 4 = .ok (.invokestatic 55, 3) := by decide +kernel
theorem dX5_hope_7 : decode cX5_hope 7 = .ok (.ifCond .eq 12, 3) := by decide +kernel
theorem dX5_hope_10 : decode cX5_hope 10 = .ok (.iload_n 2, 1) := by decide +kernel
theorem dX5_hope_11 : decode cX5_hope 11 = .ok (.iconst 0, 1) := by decide +kernel
theorem dX5_hope_12 : decode cX5_hope 12 = .ok (.iconst 1, 1) := by decide +kernel
theorem dX5_hope_13 : decode cX5_hope 13 = .ok (.invokestatic 55, 3) := by decide +kernel
theorem dX5_hope_16 : decode cX5_hope 16 = .ok (.ifCond .ne 7, 3) := by decide +kernel
theorem dX5_hope_19 : decode cX5_hope 19 = .ok (.ldc2_w 220, 3) := by decide +kernel
theorem dX5_hope_22 : decode cX5_hope 22 = .ok (.lreturn, 1) := by decide +kernel
theorem dX5_hope_23 : decode cX5_hope 23 = .ok (.iload_n 1, 1) := by decide +kernel
theorem dX5_hope_24 : decode cX5_hope 24 = .ok (.i2l, 1) := by decide +kernel
theorem dX5_hope_25 : decode cX5_hope 25 = .ok (.aload_n 0, 1) := by decide +kernel
theorem dX5_hope_26 : decode cX5_hope 26 = .ok (.getfield 10, 3) := by decide +kernel
theorem dX5_hope_29 : decode cX5_hope 29 = .ok (.getfield 91, 3) := by decide +kernel
theorem dX5_hope_32 : decode cX5_hope 32 = .ok (.iconst 3, 1) := by decide +kernel
theorem dX5_hope_33 : decode cX5_hope 33 = .ok (.iaload, 1) := by decide +kernel
theorem dX5_hope_34 : decode cX5_hope 34 = .ok (.i2l, 1) := by decide +kernel
theorem dX5_hope_35 : decode cX5_hope 35 = .ok (.lmul, 1) := by decide +kernel
theorem dX5_hope_36 : decode cX5_hope 36 = .ok (.ldc2_w 230, 3) := by decide +kernel
theorem dX5_hope_39 : decode cX5_hope 39 = .ok (.iload_n 2, 1) := by decide +kernel
theorem dX5_hope_40 : decode cX5_hope 40 = .ok (.invokestatic 232, 3) := by decide +kernel
theorem dX5_hope_43 : decode cX5_hope 43 = .ok (.lreturn, 1) := by decide +kernel
theorem dX5_waysToChoose_0 : decode cX5_waysToChoose 0 = .ok (.lconst 1, 1) := by decide +kernel
theorem dX5_waysToChoose_1 : decode cX5_waysToChoose 1 = .ok (.lstore_n 2, 1) := by decide +kernel
theorem dX5_waysToChoose_2 : decode cX5_waysToChoose 2 = .ok (.iconst 1, 1) := by decide +kernel
theorem dX5_waysToChoose_3 : decode cX5_waysToChoose 3 = .ok (.istore 4, 2) := by decide +kernel
theorem dX5_waysToChoose_5 : decode cX5_waysToChoose 5 = .ok (.iload 4, 2) := by decide +kernel
theorem dX5_waysToChoose_7 : decode cX5_waysToChoose 7 = .ok (.iload_n 1, 1) := by decide +kernel
theorem dX5_waysToChoose_8 : decode cX5_waysToChoose 8 = .ok (.if_icmp .gt 23, 3) := by decide +kernel
theorem dX5_waysToChoose_11 : decode cX5_waysToChoose 11 = .ok (.lload_n 2, 1) := by decide +kernel
theorem dX5_waysToChoose_12 : decode cX5_waysToChoose 12 = .ok (.iload_n 0, 1) := by decide +kernel
theorem dX5_waysToChoose_13 : decode cX5_waysToChoose 13 = .ok (.iload_n 1, 1) := by decide +kernel
theorem dX5_waysToChoose_14 : decode cX5_waysToChoose 14 = .ok (.isub, 1) := by decide +kernel
theorem dX5_waysToChoose_15 : decode cX5_waysToChoose 15 = .ok (.iload 4, 2) := by decide +kernel
theorem dX5_waysToChoose_17 : decode cX5_waysToChoose 17 = .ok (.iadd, 1) := by decide +kernel
theorem dX5_waysToChoose_18 : decode cX5_waysToChoose 18 = .ok (.i2l, 1) := by decide +kernel
theorem dX5_waysToChoose_19 : decode cX5_waysToChoose 19 = .ok (.lmul, 1) := by decide +kernel
theorem dX5_waysToChoose_20 : decode cX5_waysToChoose 20 = .ok (.iload 4, 2) := by decide +kernel
theorem dX5_waysToChoose_22 : decode cX5_waysToChoose 22 = .ok (.i2l, 1) := by decide +kernel
theorem dX5_waysToChoose_23 : decode cX5_waysToChoose 23 = .ok (.ldiv, 1) := by decide +kernel
theorem dX5_waysToChoose_24 : decode cX5_waysToChoose 24 = .ok (.lstore_n 2, 1) := by decide +kernel
theorem dX5_waysToChoose_25 : decode cX5_waysToChoose 25 = .ok (.iinc 4 1, 3) := by decide +kernel
theorem dX5_waysToChoose_28 : decode cX5_waysToChoose 28 = .ok (.goto (-23), 3) := by decide +kernel
theorem dX5_waysToChoose_31 : decode cX5_waysToChoose 31 = .ok (.lload_n 2, 1) := by decide +kernel
theorem dX5_waysToChoose_32 : decode cX5_waysToChoose 32 = .ok (.lreturn, 1) := by decide +kernel
theorem dX5_power_0 : decode cX5_power 0 = .ok (.lconst 1, 1) := by decide +kernel
theorem dX5_power_1 : decode cX5_power 1 = .ok (.lstore_n 3, 1) := by decide +kernel
theorem dX5_power_2 : decode cX5_power 2 = .ok (.iconst 0, 1) := by decide +kernel
theorem dX5_power_3 : decode cX5_power 3 = .ok (.istore 5, 2) := by decide +kernel
theorem dX5_power_5 : decode cX5_power 5 = .ok (.iload 5, 2) := by decide +kernel
theorem dX5_power_7 : decode cX5_power 7 = .ok (.iload_n 2, 1) := by decide +kernel
theorem dX5_power_8 : decode cX5_power 8 = .ok (.if_icmp .ge 13, 3) := by decide +kernel
theorem dX5_power_11 : decode cX5_power 11 = .ok (.lload_n 3, 1) := by decide +kernel
theorem dX5_power_12 : decode cX5_power 12 = .ok (.lload_n 0, 1) := by decide +kernel
theorem dX5_power_13 : decode cX5_power 13 = .ok (.lmul, 1) := by decide +kernel
theorem dX5_power_14 : decode cX5_power 14 = .ok (.lstore_n 3, 1) := by decide +kernel
theorem dX5_power_15 : decode cX5_power 15 = .ok (.iinc 5 1, 3) := by decide +kernel
theorem dX5_power_18 : decode cX5_power 18 = .ok (.goto (-13), 3) := by decide +kernel
theorem dX5_power_21 : decode cX5_power 21 = .ok (.lload_n 3, 1) := by decide +kernel
theorem dX5_power_22 : decode cX5_power 22 = .ok (.lreturn, 1) := by decide +kernel
theorem dX5_partOf_0 : decode cX5_partOf 0 = .ok (.lload_n 0, 1) := by decide +kernel
theorem dX5_partOf_1 : decode cX5_partOf 1 = .ok (.lload_n 2, 1) := by decide +kernel
theorem dX5_partOf_2 : decode cX5_partOf 2 = .ok (.invokestatic 236, 3) := by decide +kernel
theorem dX5_partOf_5 : decode cX5_partOf 5 = .ok (.lstore 5, 2) := by decide +kernel
theorem dX5_partOf_7 : decode cX5_partOf 7 = .ok (.lload 5, 2) := by decide +kernel
theorem dX5_partOf_9 : decode cX5_partOf 9 = .ok (.lconst 0, 1) := by decide +kernel
theorem dX5_partOf_10 : decode cX5_partOf 10 = .ok (.lcmp, 1) := by decide +kernel
theorem dX5_partOf_11 : decode cX5_partOf 11 = .ok (.ifCond .ne 7, 3) := by decide +kernel
theorem dX5_partOf_14 : decode cX5_partOf 14 = .ok (.lconst 0, 1) := by decide +kernel
theorem dX5_partOf_15 : decode cX5_partOf 15 = .ok (.goto 16, 3) := by decide +kernel
theorem dX5_partOf_18 : decode cX5_partOf 18 = .ok (.iload 4, 2) := by decide +kernel
theorem dX5_partOf_20 : decode cX5_partOf 20 = .ok (.ifCond .ne 7, 3) := by decide +kernel
theorem dX5_partOf_23 : decode cX5_partOf 23 = .ok (.lload_n 0, 1) := by decide +kernel
theorem dX5_partOf_24 : decode cX5_partOf 24 = .ok (.goto 4, 3) := by decide +kernel
theorem dX5_partOf_27 : decode cX5_partOf 27 = .ok (.lload_n 2, 1) := by decide +kernel
theorem dX5_partOf_28 : decode cX5_partOf 28 = .ok (.lload 5, 2) := by decide +kernel
theorem dX5_partOf_30 : decode cX5_partOf 30 = .ok (.ldiv, 1) := by decide +kernel
theorem dX5_partOf_31 : decode cX5_partOf 31 = .ok (.lreturn, 1) := by decide +kernel
theorem dX5_commonDivisor_0 : decode cX5_commonDivisor 0 = .ok (.lload_n 0, 1) := by decide +kernel
theorem dX5_commonDivisor_1 : decode cX5_commonDivisor 1 = .ok (.lstore 4, 2) := by decide +kernel
theorem dX5_commonDivisor_3 : decode cX5_commonDivisor 3 = .ok (.lload_n 2, 1) := by decide +kernel
theorem dX5_commonDivisor_4 : decode cX5_commonDivisor 4 = .ok (.lstore 6, 2) := by decide +kernel
theorem dX5_commonDivisor_6 : decode cX5_commonDivisor 6 = .ok (.iconst 0, 1) := by decide +kernel
theorem dX5_commonDivisor_7 : decode cX5_commonDivisor 7 = .ok (.istore 8, 2) := by decide +kernel
theorem dX5_commonDivisor_9 : decode cX5_commonDivisor 9 = .ok (.iload 8, 2) := by decide +kernel
theorem dX5_commonDivisor_11 : decode cX5_commonDivisor 11 = .ok (.sipush 1000, 3) := by decide +kernel
theorem dX5_commonDivisor_14 : decode cX5_commonDivisor 14 = .ok (.if_icmp .ge 31, 3) := by decide +kernel
theorem dX5_commonDivisor_17 : decode cX5_commonDivisor 17 = .ok (.lload 6, 2) := by decide +kernel
theorem dX5_commonDivisor_19 : decode cX5_commonDivisor 19 = .ok (.lconst 0, 1) := by decide +kernel
theorem dX5_commonDivisor_20 : decode cX5_commonDivisor 20 = .ok (.lcmp, 1) := by decide +kernel
theorem dX5_commonDivisor_21 : decode cX5_commonDivisor 21 = .ok (.ifCond .eq 24, 3) := by decide +kernel
theorem dX5_commonDivisor_24 : decode cX5_commonDivisor 24 = .ok (.lload 4, 2) := by decide +kernel
theorem dX5_commonDivisor_26 : decode cX5_commonDivisor 26 = .ok (.lload 6, 2) := by decide +kernel
theorem dX5_commonDivisor_28 : decode cX5_commonDivisor 28 = .ok (.lrem, 1) := by decide +kernel
theorem dX5_commonDivisor_29 : decode cX5_commonDivisor 29 = .ok (.lstore 9, 2) := by decide +kernel
theorem dX5_commonDivisor_31 : decode cX5_commonDivisor 31 = .ok (.lload 6, 2) := by decide +kernel
theorem dX5_commonDivisor_33 : decode cX5_commonDivisor 33 = .ok (.lstore 4, 2) := by decide +kernel
theorem dX5_commonDivisor_35 : decode cX5_commonDivisor 35 = .ok (.lload 9, 2) := by decide +kernel
theorem dX5_commonDivisor_37 : decode cX5_commonDivisor 37 = .ok (.lstore 6, 2) := by decide +kernel
theorem dX5_commonDivisor_39 : decode cX5_commonDivisor 39 = .ok (.iinc 8 1, 3) := by decide +kernel
theorem dX5_commonDivisor_42 : decode cX5_commonDivisor 42 = .ok (.goto (-33), 3) := by decide +kernel
theorem dX5_commonDivisor_45 : decode cX5_commonDivisor 45 = .ok (.lload 4, 2) := by decide +kernel
theorem dX5_commonDivisor_47 : decode cX5_commonDivisor 47 = .ok (.lreturn, 1) := by decide +kernel
theorem dX5_prove_0 : decode cX5_prove 0 = .ok (.aload_n 0, 1) := by decide +kernel
theorem dX5_prove_1 : decode cX5_prove 1 = .ok (.iload_n 1, 1) := by decide +kernel
theorem dX5_prove_2 : decode cX5_prove 2 = .ok (.invokevirtual 108, 3) := by decide +kernel
theorem dX5_prove_5 : decode cX5_prove 5 = .ok (.ifCond .eq 13, 3) := by decide +kernel
theorem dX5_prove_8 : decode cX5_prove 8 = .ok (.iload_n 2, 1) := by decide +kernel
theorem dX5_prove_9 : decode cX5_prove 9 = .ok (.iconst 1, 1) := by decide +kernel
theorem dX5_prove_10 : decode cX5_prove 10 = .ok (.bipush 10, 2) := by decide +kernel
theorem dX5_prove_12 : decode cX5_prove 12 = .ok (.invokestatic 55, 3) := by decide +kernel
theorem dX5_prove_15 : decode cX5_prove 15 = .ok (.ifCond .ne 5, 3) := by decide +kernel
theorem dX5_prove_18 : decode cX5_prove 18 = .ok (.iconst (-1), 1) := by decide +kernel
theorem dX5_prove_19 : decode cX5_prove 19 = .ok (.ireturn, 1) := by decide +kernel
theorem dX5_prove_20 : decode cX5_prove 20 = .ok (.aload_n 0, 1) := by decide +kernel
theorem dX5_prove_21 : decode cX5_prove 21 = .ok (.invokevirtual 181, 3) := by decide +kernel
theorem dX5_prove_24 : decode cX5_prove 24 = .ok (.iconst 0, 1) := by decide +kernel
theorem dX5_prove_25 : decode cX5_prove 25 = .ok (.istore_n 3, 1) := by decide +kernel
theorem dX5_prove_26 : decode cX5_prove 26 = .ok (.iload_n 3, 1) := by decide +kernel
theorem dX5_prove_27 : decode cX5_prove 27 = .ok (.iload_n 2, 1) := by decide +kernel
theorem dX5_prove_28 : decode cX5_prove 28 = .ok (.if_icmp .ge 48, 3) := by decide +kernel
theorem dX5_prove_31 : decode cX5_prove 31 = .ok (.aload_n 0, 1) := by decide +kernel
theorem dX5_prove_32 : decode cX5_prove 32 = .ok (.getfield 19, 3) := by decide +kernel
theorem dX5_prove_35 : decode cX5_prove 35 = .ok (.iload_n 1, 1) := by decide +kernel
theorem dX5_prove_36 : decode cX5_prove 36 = .ok (.invokevirtual 190, 3) := by decide +kernel
theorem dX5_prove_39 : decode cX5_prove 39 = .ok (.iconst 0, 1) := by decide +kernel
theorem dX5_prove_40 : decode cX5_prove 40 = .ok (.istore 4, 2) := by decide +kernel
theorem dX5_prove_42 : decode cX5_prove 42 = .ok (.iload 4, 2) := by decide +kernel
theorem dX5_prove_44 : decode cX5_prove 44 = .ok (.iconst 3, 1) := by decide +kernel
theorem dX5_prove_45 : decode cX5_prove 45 = .ok (.if_icmp .ge 25, 3) := by decide +kernel
theorem dX5_prove_48 : decode cX5_prove 48 = .ok (.aload_n 0, 1) := by decide +kernel
theorem dX5_prove_49 : decode cX5_prove 49 = .ok (.getfield 31, 3) := by decide +kernel
theorem dX5_prove_52 : decode cX5_prove 52 = .ok (.iload_n 3, 1) := by decide +kernel
theorem dX5_prove_53 : decode cX5_prove 53 = .ok (.aaload, 1) := by decide +kernel
theorem dX5_prove_54 : decode cX5_prove 54 = .ok (.iload 4, 2) := by decide +kernel
theorem dX5_prove_56 : decode cX5_prove 56 = .ok (.aload_n 0, 1) := by decide +kernel
theorem dX5_prove_57 : decode cX5_prove 57 = .ok (.iload_n 1, 1) := by decide +kernel
theorem dX5_prove_58 : decode cX5_prove 58 = .ok (.iload 4, 2) := by decide +kernel
theorem dX5_prove_60 : decode cX5_prove 60 = .ok (.invokevirtual 240, 3) := by decide +kernel
theorem dX5_prove_63 : decode cX5_prove 63 = .ok (.iastore, 1) := by decide +kernel
theorem dX5_prove_64 : decode cX5_prove 64 = .ok (.iinc 4 1, 3) := by decide +kernel
theorem dX5_prove_67 : decode cX5_prove 67 = .ok (.goto (-25), 3) := by decide +kernel
theorem dX5_prove_70 : decode cX5_prove 70 = .ok (.iinc 3 1, 3) := by decide +kernel
theorem dX5_prove_73 : decode cX5_prove 73 = .ok (.goto (-47), 3) := by decide +kernel
theorem dX5_prove_76 : decode cX5_prove 76 = .ok (.aload_n 0, 1) := by decide +kernel
theorem dX5_prove_77 : decode cX5_prove 77 = .ok (.iload_n 2, 1) := by decide +kernel
theorem dX5_prove_78 : decode cX5_prove 78 = .ok (.putfield 81, 3) := by decide +kernel
theorem dX5_prove_81 : decode cX5_prove 81 = .ok (.iload_n 2, 1) := by decide +kernel
theorem dX5_prove_82 : decode cX5_prove 82 = .ok (.ireturn, 1) := by decide +kernel
theorem dX5_row_0 : decode cX5_row 0 = .ok (.aload_n 0, 1) := by decide +kernel
theorem dX5_row_1 : decode cX5_row 1 = .ok (.iload_n 1, 1) := by decide +kernel
theorem dX5_row_2 : decode cX5_row 2 = .ok (.iload_n 2, 1) := by decide +kernel
theorem dX5_row_3 : decode cX5_row 3 = .ok (.invokevirtual 243, 3) := by decide +kernel
theorem dX5_row_6 : decode cX5_row 6 = .ok (.ifCond .eq 14, 3) := by decide +kernel
theorem dX5_row_9 : decode cX5_row 9 = .ok (.aload_n 0, 1) := by decide +kernel
theorem dX5_row_10 : decode cX5_row 10 = .ok (.getfield 31, 3) := by decide +kernel
theorem dX5_row_13 : decode cX5_row 13 = .ok (.iload_n 1, 1) := by decide +kernel
theorem dX5_row_14 : decode cX5_row 14 = .ok (.aaload, 1) := by decide +kernel
theorem dX5_row_15 : decode cX5_row 15 = .ok (.iload_n 2, 1) := by decide +kernel
theorem dX5_row_16 : decode cX5_row 16 = .ok (.iaload, 1) := by decide +kernel
theorem dX5_row_17 : decode cX5_row 17 = .ok (.goto 5, 3) := by decide +kernel
theorem dX5_row_20 : decode cX5_row 20 = .ok (.bipush (-9), 2) := by decide +kernel
theorem dX5_row_22 : decode cX5_row 22 = .ok (.ireturn, 1) := by decide +kernel
theorem dX5_alterRow_0 : decode cX5_alterRow 0 = .ok (.aload_n 0, 1) := by decide +kernel
theorem dX5_alterRow_1 : decode cX5_alterRow 1 = .ok (.iload_n 1, 1) := by decide +kernel
theorem dX5_alterRow_2 : decode cX5_alterRow 2 = .ok (.iload_n 2, 1) := by decide +kernel
theorem dX5_alterRow_3 : decode cX5_alterRow 3 = .ok (.invokevirtual 243, 3) := by decide +kernel
theorem dX5_alterRow_6 : decode cX5_alterRow 6 = .ok (.ifCond .ne 6, 3) := by decide +kernel
theorem dX5_alterRow_9 : decode cX5_alterRow 9 = .ok (.bipush (-9), 2) := by decide +kernel
theorem dX5_alterRow_11 : decode cX5_alterRow 11 = .ok (.ireturn, 1) := by decide +kernel
theorem dX5_alterRow_12 : decode cX5_alterRow 12 = .ok (.aload_n 0, 1) := by decide +kernel
theorem dX5_alterRow_13 : decode cX5_alterRow 13 = .ok (.getfield 31, 3) := by decide +kernel
theorem dX5_alterRow_16 : decode cX5_alterRow 16 = .ok (.iload_n 1, 1) := by decide +kernel
theorem dX5_alterRow_17 : decode cX5_alterRow 17 = .ok (.aaload, 1) := by decide +kernel
theorem dX5_alterRow_18 : decode cX5_alterRow 18 = .ok (.iload_n 2, 1) := by decide +kernel
theorem dX5_alterRow_19 : decode cX5_alterRow 19 = .ok (.iaload, 1) := by decide +kernel
theorem dX5_alterRow_20 : decode cX5_alterRow 20 = .ok (.istore 4, 2) := by decide +kernel
theorem dX5_alterRow_22 : decode cX5_alterRow 22 = .ok (.aload_n 0, 1) := by decide +kernel
theorem dX5_alterRow_23 : decode cX5_alterRow 23 = .ok (.getfield 31, 3) := by decide +kernel
theorem dX5_alterRow_26 : decode cX5_alterRow 26 = .ok (.iload_n 1, 1) := by decide +kernel
theorem dX5_alterRow_27 : decode cX5_alterRow 27 = .ok (.aaload, 1) := by decide +kernel
theorem dX5_alterRow_28 : decode cX5_alterRow 28 = .ok (.iload_n 2, 1) := by decide +kernel
theorem dX5_alterRow_29 : decode cX5_alterRow 29 = .ok (.iload_n 3, 1) := by decide +kernel
theorem dX5_alterRow_30 : decode cX5_alterRow 30 = .ok (.iastore, 1) := by decide +kernel
theorem dX5_alterRow_31 : decode cX5_alterRow 31 = .ok (.iload 4, 2) := by decide +kernel
theorem dX5_alterRow_33 : decode cX5_alterRow 33 = .ok (.ireturn, 1) := by decide +kernel
theorem dX5_judge_0 : decode cX5_judge 0 = .ok (.aload_n 0, 1) := by decide +kernel
theorem dX5_judge_1 : decode cX5_judge 1 = .ok (.iload_n 1, 1) := by decide +kernel
theorem dX5_judge_2 : decode cX5_judge 2 = .ok (.invokevirtual 108, 3) := by decide +kernel
theorem dX5_judge_5 : decode cX5_judge 5 = .ok (.ifCond .ne 5, 3) := by decide +kernel
theorem dX5_judge_8 : decode cX5_judge 8 = .ok (.iconst (-1), 1) := by decide +kernel
theorem dX5_judge_9 : decode cX5_judge 9 = .ok (.ireturn, 1) := by decide +kernel
theorem dX5_judge_10 : decode cX5_judge 10 = .ok (.aload_n 0, 1) := by decide +kernel
theorem dX5_judge_11 : decode cX5_judge 11 = .ok (.invokevirtual 181, 3) := by decide +kernel
theorem dX5_judge_14 : decode cX5_judge 14 = .ok (.iconst 0, 1) := by decide +kernel
theorem dX5_judge_15 : decode cX5_judge 15 = .ok (.istore_n 2, 1) := by decide +kernel
theorem dX5_judge_16 : decode cX5_judge 16 = .ok (.iload_n 2, 1) := by decide +kernel
theorem dX5_judge_17 : decode cX5_judge 17 = .ok (.aload_n 0, 1) := by decide +kernel
theorem dX5_judge_18 : decode cX5_judge 18 = .ok (.getfield 81, 3) := by decide +kernel
theorem dX5_judge_21 : decode cX5_judge 21 = .ok (.if_icmp .ge 51, 3) := by decide +kernel
theorem dX5_judge_24 : decode cX5_judge 24 = .ok (.aload_n 0, 1) := by decide +kernel
theorem dX5_judge_25 : decode cX5_judge 25 = .ok (.getfield 19, 3) := by decide +kernel
theorem dX5_judge_28 : decode cX5_judge 28 = .ok (.iload_n 1, 1) := by decide +kernel
theorem dX5_judge_29 : decode cX5_judge 29 = .ok (.invokevirtual 190, 3) := by decide +kernel
theorem dX5_judge_32 : decode cX5_judge 32 = .ok (.iconst 0, 1) := by decide +kernel
theorem dX5_judge_33 : decode cX5_judge 33 = .ok (.istore_n 3, 1) := by decide +kernel
theorem dX5_judge_34 : decode cX5_judge 34 = .ok (.iload_n 3, 1) := by decide +kernel
theorem dX5_judge_35 : decode cX5_judge 35 = .ok (.iconst 3, 1) := by decide +kernel
theorem dX5_judge_36 : decode cX5_judge 36 = .ok (.if_icmp .ge 30, 3) := by decide +kernel
theorem dX5_judge_39 : decode cX5_judge 39 = .ok (.aload_n 0, 1) := by decide +kernel
theorem dX5_judge_40 : decode cX5_judge 40 = .ok (.getfield 31, 3) := by decide +kernel
theorem dX5_judge_43 : decode cX5_judge 43 = .ok (.iload_n 2, 1) := by decide +kernel
theorem dX5_judge_44 : decode cX5_judge 44 = .ok (.aaload, 1) := by decide +kernel
theorem dX5_judge_45 : decode cX5_judge 45 = .ok (.iload_n 3, 1) := by decide +kernel
theorem dX5_judge_46 : decode cX5_judge 46 = .ok (.iaload, 1) := by decide +kernel
theorem dX5_judge_47 : decode cX5_judge 47 = .ok (.aload_n 0, 1) := by decide +kernel
theorem dX5_judge_48 : decode cX5_judge 48 = .ok (.iload_n 1, 1) := by decide +kernel
theorem dX5_judge_49 : decode cX5_judge 49 = .ok (.iload_n 3, 1) := by decide +kernel
theorem dX5_judge_50 : decode cX5_judge 50 = .ok (.invokevirtual 240, 3) := by decide +kernel
theorem dX5_judge_53 : decode cX5_judge 53 = .ok (.if_icmp .eq 7, 3) := by decide +kernel
theorem dX5_judge_56 : decode cX5_judge 56 = .ok (.iload_n 2, 1) := by decide +kernel
theorem dX5_judge_57 : decode cX5_judge 57 = .ok (.iconst 1, 1) := by decide +kernel
theorem dX5_judge_58 : decode cX5_judge 58 = .ok (.iadd, 1) := by decide +kernel
theorem dX5_judge_59 : decode cX5_judge 59 = .ok (.ireturn, 1) := by decide +kernel
theorem dX5_judge_60 : decode cX5_judge 60 = .ok (.iinc 3 1, 3) := by decide +kernel
theorem dX5_judge_63 : decode cX5_judge 63 = .ok (.goto (-29), 3) := by decide +kernel
theorem dX5_judge_66 : decode cX5_judge 66 = .ok (.iinc 2 1, 3) := by decide +kernel
theorem dX5_judge_69 : decode cX5_judge 69 = .ok (.goto (-53), 3) := by decide +kernel
theorem dX5_judge_72 : decode cX5_judge 72 = .ok (.iconst 0, 1) := by decide +kernel
theorem dX5_judge_73 : decode cX5_judge 73 = .ok (.ireturn, 1) := by decide +kernel
theorem dX5_triedRowPart_0 : decode cX5_triedRowPart 0 = .ok (.iload_n 2, 1) := by decide +kernel
theorem dX5_triedRowPart_1 : decode cX5_triedRowPart 1 = .ok (.lookupswitch 47 #[(0, 27), (1, 37)], 27) := by decide +kernel
theorem dX5_triedRowPart_28 : decode cX5_triedRowPart 28 = .ok (.aload_n 0, 1) := by decide +kernel
theorem dX5_triedRowPart_29 : decode cX5_triedRowPart 29 = .ok (.getfield 19, 3) := by decide +kernel
theorem dX5_triedRowPart_32 : decode cX5_triedRowPart 32 = .ok (.getfield 117, 3) := by decide +kernel
theorem dX5_triedRowPart_35 : decode cX5_triedRowPart 35 = .ok (.iload_n 1, 1) := by decide +kernel
theorem dX5_triedRowPart_36 : decode cX5_triedRowPart 36 = .ok (.iaload, 1) := by decide +kernel
theorem dX5_triedRowPart_37 : decode cX5_triedRowPart 37 = .ok (.ireturn, 1) := by decide +kernel
theorem dX5_triedRowPart_38 : decode cX5_triedRowPart 38 = .ok (.aload_n 0, 1) := by decide +kernel
theorem dX5_triedRowPart_39 : decode cX5_triedRowPart 39 = .ok (.getfield 19, 3) := by decide +kernel
theorem dX5_triedRowPart_42 : decode cX5_triedRowPart 42 = .ok (.getfield 114, 3) := by decide +kernel
theorem dX5_triedRowPart_45 : decode cX5_triedRowPart 45 = .ok (.iload_n 1, 1) := by decide +kernel
theorem dX5_triedRowPart_46 : decode cX5_triedRowPart 46 = .ok (.iaload, 1) := by decide +kernel
theorem dX5_triedRowPart_47 : decode cX5_triedRowPart 47 = .ok (.ireturn, 1) := by decide +kernel
theorem dX5_triedRowPart_48 : decode cX5_triedRowPart 48 = .ok (.aload_n 0, 1) := by decide +kernel
theorem dX5_triedRowPart_49 : decode cX5_triedRowPart 49 = .ok (.getfield 19, 3) := by decide +kernel
theorem dX5_triedRowPart_52 : decode cX5_triedRowPart 52 = .ok (.getfield 120, 3) := by decide +kernel
theorem dX5_triedRowPart_55 : decode cX5_triedRowPart 55 = .ok (.iload_n 1, 1) := by decide +kernel
theorem dX5_triedRowPart_56 : decode cX5_triedRowPart 56 = .ok (.iaload, 1) := by decide +kernel
theorem dX5_triedRowPart_57 : decode cX5_triedRowPart 57 = .ok (.ireturn, 1) := by decide +kernel
theorem dX5_isInRows_0 : decode cX5_isInRows 0 = .ok (.iload_n 1, 1) := by decide +kernel
theorem dX5_isInRows_1 : decode cX5_isInRows 1 = .ok (.iconst 0, 1) := by decide +kernel
theorem dX5_isInRows_2 : decode cX5_isInRows 2 = .ok (.aload_n 0, 1) := by decide +kernel
theorem dX5_isInRows_3 : decode cX5_isInRows 3 = .ok (.getfield 81, 3) := by decide +kernel
theorem dX5_isInRows_6 : decode cX5_isInRows 6 = .ok (.iconst 1, 1) := by decide +kernel
theorem dX5_isInRows_7 : decode cX5_isInRows 7 = .ok (.isub, 1) := by decide +kernel
theorem dX5_isInRows_8 : decode cX5_isInRows 8 = .ok (.invokestatic 55, 3) := by decide +kernel
theorem dX5_isInRows_11 : decode cX5_isInRows 11 = .ok (.ifCond .eq 16, 3) := by decide +kernel
theorem dX5_isInRows_14 : decode cX5_isInRows 14 = .ok (.iload_n 2, 1) := by decide +kernel
theorem dX5_isInRows_15 : decode cX5_isInRows 15 = .ok (.iconst 0, 1) := by decide +kernel
theorem dX5_isInRows_16 : decode cX5_isInRows 16 = .ok (.iconst 2, 1) := by decide +kernel
theorem dX5_isInRows_17 : decode cX5_isInRows 17 = .ok (.invokestatic 55, 3) := by decide +kernel
theorem dX5_isInRows_20 : decode cX5_isInRows 20 = .ok (.ifCond .eq 7, 3) := by decide +kernel
theorem dX5_isInRows_23 : decode cX5_isInRows 23 = .ok (.iconst 1, 1) := by decide +kernel
theorem dX5_isInRows_24 : decode cX5_isInRows 24 = .ok (.goto 4, 3) := by decide +kernel
theorem dX5_isInRows_27 : decode cX5_isInRows 27 = .ok (.iconst 0, 1) := by decide +kernel
theorem dX5_isInRows_28 : decode cX5_isInRows 28 = .ok (.ireturn, 1) := by decide +kernel
theorem dX5_minds_0 : decode cX5_minds 0 = .ok (.iload_n 1, 1) := by decide +kernel
theorem dX5_minds_1 : decode cX5_minds 1 = .ok (.invokestatic 205, 3) := by decide +kernel
theorem dX5_minds_4 : decode cX5_minds 4 = .ok (.ifCond .eq 36, 3) := by decide +kernel
theorem dX5_minds_7 : decode cX5_minds 7 = .ok (.aload_n 0, 1) := by decide +kernel
theorem dX5_minds_8 : decode cX5_minds 8 = .ok (.iload_n 3, 1) := by decide +kernel
theorem dX5_minds_9 : decode cX5_minds 9 = .ok (.invokevirtual 108, 3) := by decide +kernel
theorem dX5_minds_12 : decode cX5_minds 12 = .ok (.ifCond .eq 28, 3) := by decide +kernel
theorem dX5_minds_15 : decode cX5_minds 15 = .ok (.iload 4, 2) := by decide +kernel
theorem dX5_minds_17 : decode cX5_minds 17 = .ok (.iconst 0, 1) := by decide +kernel
theorem dX5_minds_18 : decode cX5_minds 18 = .ok (.bipush 8, 2) := by decide +kernel
theorem dX5_minds_20 : decode cX5_minds 20 = .ok (.invokestatic 55, 3) := by decide +kernel
theorem dX5_minds_23 : decode cX5_minds 23 = .ok (.ifCond .eq 17, 3) := by decide +kernel
theorem dX5_minds_26 : decode cX5_minds 26 = .ok (.iload_n 3, 1) := by decide +kernel
theorem dX5_minds_27 : decode cX5_minds 27 = .ok (.iload 4, 2) := by decide +kernel
theorem dX5_minds_29 : decode cX5_minds 29 = .ok (.iadd, 1) := by decide +kernel
theorem dX5_minds_30 : decode cX5_minds 30 = .ok (.aload_n 0, 1) := by decide +kernel
theorem dX5_minds_31 : decode cX5_minds 31 = .ok (.getfield 10, 3) := by decide +kernel
theorem dX5_minds_34 : decode cX5_minds 34 = .ok (.getfield 84, 3) := by decide +kernel
theorem dX5_minds_37 : decode cX5_minds 37 = .ok (.if_icmp .le 5, 3) := by decide +kernel
theorem dX5_minds_40 : decode cX5_minds 40 = .ok (.iconst (-1), 1) := by decide +kernel
theorem dX5_minds_41 : decode cX5_minds 41 = .ok (.ireturn, 1) := by decide +kernel
theorem dX5_minds_42 : decode cX5_minds 42 = .ok (.aload_n 0, 1) := by decide +kernel
theorem dX5_minds_43 : decode cX5_minds 43 = .ok (.getfield 36, 3) := by decide +kernel
theorem dX5_minds_46 : decode cX5_minds 46 = .ok (.iload_n 1, 1) := by decide +kernel
theorem dX5_minds_47 : decode cX5_minds 47 = .ok (.aaload, 1) := by decide +kernel
theorem dX5_minds_48 : decode cX5_minds 48 = .ok (.astore 5, 2) := by decide +kernel
theorem dX5_minds_50 : decode cX5_minds 50 = .ok (.aload 5, 2) := by decide +kernel
theorem dX5_minds_52 : decode cX5_minds 52 = .ok (.invokevirtual 208, 3) := by decide +kernel
theorem dX5_minds_55 : decode cX5_minds 55 = .ok (.ifCond .eq 6, 3) := by decide +kernel
theorem dX5_minds_58 : decode cX5_minds 58 = .ok (.bipush (-11), 2) := by decide +kernel
theorem dX5_minds_60 : decode cX5_minds 60 = .ok (.ireturn, 1) := by decide +kernel
theorem dX5_minds_61 : decode cX5_minds 61 = .ok (.aload 5, 2) := by decide +kernel
theorem dX5_minds_63 : decode cX5_minds 63 = .ok (.getfield 247, 3) := by decide +kernel
theorem dX5_minds_66 : decode cX5_minds 66 = .ok (.ifCond .eq 6, 3) := by decide +kernel
theorem dX5_minds_69 : decode cX5_minds 69 = .ok (.bipush (-13), 2) := by decide +kernel
theorem dX5_minds_71 : decode cX5_minds 71 = .ok (.ireturn, 1) := by decide +kernel
theorem dX5_minds_72 : decode cX5_minds 72 = .ok (.iload_n 2, 1) := by decide +kernel
theorem dX5_minds_73 : decode cX5_minds 73 = .ok (.iconst 0, 1) := by decide +kernel
theorem dX5_minds_74 : decode cX5_minds 74 = .ok (.aload 5, 2) := by decide +kernel
theorem dX5_minds_76 : decode cX5_minds 76 = .ok (.getfield 216, 3) := by decide +kernel
theorem dX5_minds_79 : decode cX5_minds 79 = .ok (.invokestatic 55, 3) := by decide +kernel
theorem dX5_minds_82 : decode cX5_minds 82 = .ok (.ifCond .eq 15, 3) := by decide +kernel
theorem dX5_minds_85 : decode cX5_minds 85 = .ok (.iload_n 2, 1) := by decide +kernel
theorem dX5_minds_86 : decode cX5_minds 86 = .ok (.iload 4, 2) := by decide +kernel
theorem dX5_minds_88 : decode cX5_minds 88 = .ok (.iadd, 1) := by decide +kernel
theorem dX5_minds_89 : decode cX5_minds 89 = .ok (.aload 5, 2) := by decide +kernel
theorem dX5_minds_91 : decode cX5_minds 91 = .ok (.getfield 216, 3) := by decide +kernel
theorem dX5_minds_94 : decode cX5_minds 94 = .ok (.if_icmp .le 6, 3) := by decide +kernel
theorem dX5_minds_97 : decode cX5_minds 97 = .ok (.bipush (-12), 2) := by decide +kernel
theorem dX5_minds_99 : decode cX5_minds 99 = .ok (.ireturn, 1) := by decide +kernel
theorem dX5_minds_100 : decode cX5_minds 100 = .ok (.iconst 0, 1) := by decide +kernel
theorem dX5_minds_101 : decode cX5_minds 101 = .ok (.istore 6, 2) := by decide +kernel
theorem dX5_minds_103 : decode cX5_minds 103 = .ok (.iload 6, 2) := by decide +kernel
theorem dX5_minds_105 : decode cX5_minds 105 = .ok (.iload 4, 2) := by decide +kernel
theorem dX5_minds_107 : decode cX5_minds 107 = .ok (.if_icmp .ge 34, 3) := by decide +kernel
theorem dX5_minds_110 : decode cX5_minds 110 = .ok (.aload_n 0, 1) := by decide +kernel
theorem dX5_minds_111 : decode cX5_minds 111 = .ok (.getfield 10, 3) := by decide +kernel
theorem dX5_minds_114 : decode cX5_minds 114 = .ok (.getfield 114, 3) := by decide +kernel
theorem dX5_minds_117 : decode cX5_minds 117 = .ok (.iload_n 3, 1) := by decide +kernel
theorem dX5_minds_118 : decode cX5_minds 118 = .ok (.iload 6, 2) := by decide +kernel
theorem dX5_minds_120 : decode cX5_minds 120 = .ok (.iadd, 1) := by decide +kernel
theorem dX5_minds_121 : decode cX5_minds 121 = .ok (.aload 5, 2) := by decide +kernel
theorem dX5_minds_123 : decode cX5_minds 123 = .ok (.getfield 217, 3) := by decide +kernel
theorem dX5_minds_126 : decode cX5_minds 126 = .ok (.iload_n 2, 1) := by decide +kernel
theorem dX5_minds_127 : decode cX5_minds 127 = .ok (.iload 6, 2) := by decide +kernel
theorem dX5_minds_129 : decode cX5_minds 129 = .ok (.iadd, 1) := by decide +kernel
theorem dX5_minds_130 : decode cX5_minds 130 = .ok (.iaload, 1) := by decide +kernel
theorem dX5_minds_131 : decode cX5_minds 131 = .ok (.invokestatic 250, 3) := by decide +kernel
theorem dX5_minds_134 : decode cX5_minds 134 = .ok (.iastore, 1) := by decide +kernel
theorem dX5_minds_135 : decode cX5_minds 135 = .ok (.iinc 6 1, 3) := by decide +kernel
theorem dX5_minds_138 : decode cX5_minds 138 = .ok (.goto (-35), 3) := by decide +kernel
theorem dX5_minds_141 : decode cX5_minds 141 = .ok (.iload 4, 2) := by decide +kernel
theorem dX5_minds_143 : decode cX5_minds 143 = .ok (.ireturn, 1) := by decide +kernel
theorem dX5_sheet_0 : decode cX5_sheet 0 = .ok (.iload_n 1, 1) := by decide +kernel
theorem dX5_sheet_1 : decode cX5_sheet 1 = .ok (.invokestatic 205, 3) := by decide +kernel
theorem dX5_sheet_4 : decode cX5_sheet 4 = .ok (.ifCond .eq 12, 3) := by decide +kernel
theorem dX5_sheet_7 : decode cX5_sheet 7 = .ok (.iload_n 2, 1) := by decide +kernel
theorem dX5_sheet_8 : decode cX5_sheet 8 = .ok (.iconst (-1), 1) := by decide +kernel
theorem dX5_sheet_9 : decode cX5_sheet 9 = .ok (.iconst 3, 1) := by decide +kernel
theorem dX5_sheet_10 : decode cX5_sheet 10 = .ok (.invokestatic 55, 3) := by decide +kernel
theorem dX5_sheet_13 : decode cX5_sheet 13 = .ok (.ifCond .ne 5, 3) := by decide +kernel
theorem dX5_sheet_16 : decode cX5_sheet 16 = .ok (.iconst (-1), 1) := by decide +kernel
theorem dX5_sheet_17 : decode cX5_sheet 17 = .ok (.ireturn, 1) := by decide +kernel
theorem dX5_sheet_18 : decode cX5_sheet 18 = .ok (.iload_n 2, 1) := by decide +kernel
theorem dX5_sheet_19 : decode cX5_sheet 19 = .ok (.iconst (-1), 1) := by decide +kernel
theorem dX5_sheet_20 : decode cX5_sheet 20 = .ok (.if_icmp .ne 14, 3) := by decide +kernel
theorem dX5_sheet_23 : decode cX5_sheet 23 = .ok (.aload_n 0, 1) := by decide +kernel
theorem dX5_sheet_24 : decode cX5_sheet 24 = .ok (.getfield 36, 3) := by decide +kernel
theorem dX5_sheet_27 : decode cX5_sheet 27 = .ok (.iload_n 1, 1) := by decide +kernel
theorem dX5_sheet_28 : decode cX5_sheet 28 = .ok (.aaload, 1) := by decide +kernel
theorem dX5_sheet_29 : decode cX5_sheet 29 = .ok (.invokevirtual 253, 3) := by decide +kernel
theorem dX5_sheet_32 : decode cX5_sheet 32 = .ok (.iconst 1, 1) := by decide +kernel
theorem dX5_sheet_33 : decode cX5_sheet 33 = .ok (.ireturn, 1) := by decide +kernel
theorem dX5_sheet_34 : decode cX5_sheet 34 = .ok (.iload_n 3, 1) := by decide +kernel
theorem dX5_sheet_35 : decode cX5_sheet 35 = .ok (.bipush 40, 2) := by decide +kernel
theorem dX5_sheet_37 : decode cX5_sheet 37 = .ok (.if_icmp .le 5, 3) := by decide +kernel
theorem dX5_sheet_40 : decode cX5_sheet 40 = .ok (.iconst (-1), 1) := by decide +kernel
theorem dX5_sheet_41 : decode cX5_sheet 41 = .ok (.ireturn, 1) := by decide +kernel
theorem dX5_sheet_42 : decode cX5_sheet 42 = .ok (.iload_n 3, 1) := by decide +kernel
theorem dX5_sheet_43 : decode cX5_sheet 43 = .ok (.ifCond .ge 6, 3) := by decide +kernel
theorem dX5_sheet_46 : decode cX5_sheet 46 = .ok (.bipush (-14), 2) := by decide +kernel
theorem dX5_sheet_48 : decode cX5_sheet 48 = .ok (.ireturn, 1) := by decide +kernel
theorem dX5_sheet_49 : decode cX5_sheet 49 = .ok (.aload_n 0, 1) := by decide +kernel
theorem dX5_sheet_50 : decode cX5_sheet 50 = .ok (.getfield 36, 3) := by decide +kernel
theorem dX5_sheet_53 : decode cX5_sheet 53 = .ok (.iload_n 1, 1) := by decide +kernel
theorem dX5_sheet_54 : decode cX5_sheet 54 = .ok (.aaload, 1) := by decide +kernel
theorem dX5_sheet_55 : decode cX5_sheet 55 = .ok (.iload_n 2, 1) := by decide +kernel
theorem dX5_sheet_56 : decode cX5_sheet 56 = .ok (.iload_n 3, 1) := by decide +kernel
theorem dX5_sheet_57 : decode cX5_sheet 57 = .ok (.invokevirtual 256, 3) := by decide +kernel
theorem dX5_sheet_60 : decode cX5_sheet 60 = .ok (.iconst 1, 1) := by decide +kernel
theorem dX5_sheet_61 : decode cX5_sheet 61 = .ok (.ireturn, 1) := by decide +kernel
theorem dX5_put_0 : decode cX5_put 0 = .ok (.iload_n 1, 1) := by decide +kernel
theorem dX5_put_1 : decode cX5_put 1 = .ok (.invokestatic 205, 3) := by decide +kernel
theorem dX5_put_4 : decode cX5_put 4 = .ok (.ifCond .ne 5, 3) := by decide +kernel
theorem dX5_put_7 : decode cX5_put 7 = .ok (.iconst (-1), 1) := by decide +kernel
theorem dX5_put_8 : decode cX5_put 8 = .ok (.ireturn, 1) := by decide +kernel
theorem dX5_put_9 : decode cX5_put 9 = .ok (.aload_n 0, 1) := by decide +kernel
theorem dX5_put_10 : decode cX5_put 10 = .ok (.getfield 36, 3) := by decide +kernel
theorem dX5_put_13 : decode cX5_put 13 = .ok (.iload_n 1, 1) := by decide +kernel
theorem dX5_put_14 : decode cX5_put 14 = .ok (.aaload, 1) := by decide +kernel
theorem dX5_put_15 : decode cX5_put 15 = .ok (.astore 4, 2) := by decide +kernel
theorem dX5_put_17 : decode cX5_put 17 = .ok (.aload 4, 2) := by decide +kernel
theorem dX5_put_19 : decode cX5_put 19 = .ok (.invokevirtual 208, 3) := by decide +kernel
theorem dX5_put_22 : decode cX5_put 22 = .ok (.ifCond .eq 6, 3) := by decide +kernel
theorem dX5_put_25 : decode cX5_put 25 = .ok (.bipush (-11), 2) := by decide +kernel
theorem dX5_put_27 : decode cX5_put 27 = .ok (.ireturn, 1) := by decide +kernel
theorem dX5_put_28 : decode cX5_put 28 = .ok (.iload_n 2, 1) := by decide +kernel
theorem dX5_put_29 : decode cX5_put 29 = .ok (.iconst 0, 1) := by decide +kernel
theorem dX5_put_30 : decode cX5_put 30 = .ok (.aload 4, 2) := by decide +kernel
theorem dX5_put_32 : decode cX5_put 32 = .ok (.getfield 216, 3) := by decide +kernel
theorem dX5_put_35 : decode cX5_put 35 = .ok (.iconst 1, 1) := by decide +kernel
theorem dX5_put_36 : decode cX5_put 36 = .ok (.isub, 1) := by decide +kernel
theorem dX5_put_37 : decode cX5_put 37 = .ok (.invokestatic 55, 3) := by decide +kernel
theorem dX5_put_40 : decode cX5_put 40 = .ok (.ifCond .ne 6, 3) := by decide +kernel
theorem dX5_put_43 : decode cX5_put 43 = .ok (.bipush (-12), 2) := by decide +kernel
theorem dX5_put_45 : decode cX5_put 45 = .ok (.ireturn, 1) := by decide +kernel
theorem dX5_put_46 : decode cX5_put 46 = .ok (.aload 4, 2) := by decide +kernel
theorem dX5_put_48 : decode cX5_put 48 = .ok (.getfield 217, 3) := by decide +kernel
theorem dX5_put_51 : decode cX5_put 51 = .ok (.iload_n 2, 1) := by decide +kernel
theorem dX5_put_52 : decode cX5_put 52 = .ok (.aload 4, 2) := by decide +kernel
theorem dX5_put_54 : decode cX5_put 54 = .ok (.iload_n 3, 1) := by decide +kernel
theorem dX5_put_55 : decode cX5_put 55 = .ok (.invokevirtual 259, 3) := by decide +kernel
theorem dX5_put_58 : decode cX5_put 58 = .ok (.iastore, 1) := by decide +kernel
theorem dX5_put_59 : decode cX5_put 59 = .ok (.iconst 1, 1) := by decide +kernel
theorem dX5_put_60 : decode cX5_put 60 = .ok (.ireturn, 1) := by decide +kernel
theorem dX5_item_0 : decode cX5_item 0 = .ok (.iload_n 1, 1) := by decide +kernel
theorem dX5_item_1 : decode cX5_item 1 = .ok (.invokestatic 205, 3) := by decide +kernel
theorem dX5_item_4 : decode cX5_item 4 = .ok (.ifCond .eq 12, 3) := by decide +kernel
theorem dX5_item_7 : decode cX5_item 7 = .ok (.iload_n 2, 1) := by decide +kernel
theorem dX5_item_8 : decode cX5_item 8 = .ok (.iconst 0, 1) := by decide +kernel
theorem dX5_item_9 : decode cX5_item 9 = .ok (.iconst 3, 1) := by decide +kernel
theorem dX5_item_10 : decode cX5_item 10 = .ok (.invokestatic 55, 3) := by decide +kernel
theorem dX5_item_13 : decode cX5_item 13 = .ok (.ifCond .ne 5, 3) := by decide +kernel
theorem dX5_item_16 : decode cX5_item 16 = .ok (.iconst (-1), 1) := by decide +kernel
theorem dX5_item_17 : decode cX5_item 17 = .ok (.ireturn, 1) := by decide +kernel
theorem dX5_item_18 : decode cX5_item 18 = .ok (.aload_n 0, 1) := by decide +kernel
theorem dX5_item_19 : decode cX5_item 19 = .ok (.getfield 36, 3) := by decide +kernel
theorem dX5_item_22 : decode cX5_item 22 = .ok (.iload_n 1, 1) := by decide +kernel
theorem dX5_item_23 : decode cX5_item 23 = .ok (.aaload, 1) := by decide +kernel
theorem dX5_item_24 : decode cX5_item 24 = .ok (.astore 4, 2) := by decide +kernel
theorem dX5_item_26 : decode cX5_item 26 = .ok (.aload 4, 2) := by decide +kernel
theorem dX5_item_28 : decode cX5_item 28 = .ok (.invokevirtual 208, 3) := by decide +kernel
theorem dX5_item_31 : decode cX5_item 31 = .ok (.ifCond .eq 6, 3) := by decide +kernel
theorem dX5_item_34 : decode cX5_item 34 = .ok (.bipush (-11), 2) := by decide +kernel
theorem dX5_item_36 : decode cX5_item 36 = .ok (.ireturn, 1) := by decide +kernel
theorem dX5_item_37 : decode cX5_item 37 = .ok (.aload 4, 2) := by decide +kernel
theorem dX5_item_39 : decode cX5_item 39 = .ok (.getfield 247, 3) := by decide +kernel
theorem dX5_item_42 : decode cX5_item 42 = .ok (.iload_n 2, 1) := by decide +kernel
theorem dX5_item_43 : decode cX5_item 43 = .ok (.if_icmp .eq 6, 3) := by decide +kernel
theorem dX5_item_46 : decode cX5_item 46 = .ok (.bipush (-13), 2) := by decide +kernel
theorem dX5_item_48 : decode cX5_item 48 = .ok (.ireturn, 1) := by decide +kernel
theorem dX5_item_49 : decode cX5_item 49 = .ok (.iload_n 3, 1) := by decide +kernel
theorem dX5_item_50 : decode cX5_item 50 = .ok (.iconst 0, 1) := by decide +kernel
theorem dX5_item_51 : decode cX5_item 51 = .ok (.aload 4, 2) := by decide +kernel
theorem dX5_item_53 : decode cX5_item 53 = .ok (.getfield 216, 3) := by decide +kernel
theorem dX5_item_56 : decode cX5_item 56 = .ok (.iconst 1, 1) := by decide +kernel
theorem dX5_item_57 : decode cX5_item 57 = .ok (.isub, 1) := by decide +kernel
theorem dX5_item_58 : decode cX5_item 58 = .ok (.invokestatic 55, 3) := by decide +kernel
theorem dX5_item_61 : decode cX5_item 61 = .ok (.ifCond .eq 13, 3) := by decide +kernel
theorem dX5_item_64 : decode cX5_item 64 = .ok (.aload 4, 2) := by decide +kernel
theorem dX5_item_66 : decode cX5_item 66 = .ok (.getfield 217, 3) := by decide +kernel
theorem dX5_item_69 : decode cX5_item 69 = .ok (.iload_n 3, 1) := by decide +kernel
theorem dX5_item_70 : decode cX5_item 70 = .ok (.iaload, 1) := by decide +kernel
theorem dX5_item_71 : decode cX5_item 71 = .ok (.goto 5, 3) := by decide +kernel
theorem dX5_item_74 : decode cX5_item 74 = .ok (.bipush (-12), 2) := by decide +kernel
theorem dX5_item_76 : decode cX5_item 76 = .ok (.ireturn, 1) := by decide +kernel
theorem dX5_shelf_0 : decode cX5_shelf 0 = .ok (.iload_n 1, 1) := by decide +kernel
theorem dX5_shelf_1 : decode cX5_shelf 1 = .ok (.invokestatic 262, 3) := by decide +kernel
theorem dX5_shelf_4 : decode cX5_shelf 4 = .ok (.ifCond .ne 5, 3) := by decide +kernel
theorem dX5_shelf_7 : decode cX5_shelf 7 = .ok (.iconst (-1), 1) := by decide +kernel
theorem dX5_shelf_8 : decode cX5_shelf 8 = .ok (.ireturn, 1) := by decide +kernel
theorem dX5_shelf_9 : decode cX5_shelf 9 = .ok (.iload_n 2, 1) := by decide +kernel
theorem dX5_shelf_10 : decode cX5_shelf 10 = .ok (.ifCond .ne 23, 3) := by decide +kernel
theorem dX5_shelf_13 : decode cX5_shelf 13 = .ok (.aload_n 0, 1) := by decide +kernel
theorem dX5_shelf_14 : decode cX5_shelf 14 = .ok (.iload_n 3, 1) := by decide +kernel
theorem dX5_shelf_15 : decode cX5_shelf 15 = .ok (.invokevirtual 108, 3) := by decide +kernel
theorem dX5_shelf_18 : decode cX5_shelf 18 = .ok (.ifCond .eq 15, 3) := by decide +kernel
theorem dX5_shelf_21 : decode cX5_shelf 21 = .ok (.aload_n 0, 1) := by decide +kernel
theorem dX5_shelf_22 : decode cX5_shelf 22 = .ok (.getfield 43, 3) := by decide +kernel
theorem dX5_shelf_25 : decode cX5_shelf 25 = .ok (.iload_n 1, 1) := by decide +kernel
theorem dX5_shelf_26 : decode cX5_shelf 26 = .ok (.aaload, 1) := by decide +kernel
theorem dX5_shelf_27 : decode cX5_shelf 27 = .ok (.iload_n 3, 1) := by decide +kernel
theorem dX5_shelf_28 : decode cX5_shelf 28 = .ok (.invokevirtual 265, 3) := by decide +kernel
theorem dX5_shelf_31 : decode cX5_shelf 31 = .ok (.iconst 1, 1) := by decide +kernel
theorem dX5_shelf_32 : decode cX5_shelf 32 = .ok (.ireturn, 1) := by decide +kernel
theorem dX5_shelf_33 : decode cX5_shelf 33 = .ok (.iload_n 2, 1) := by decide +kernel
theorem dX5_shelf_34 : decode cX5_shelf 34 = .ok (.iconst 1, 1) := by decide +kernel
theorem dX5_shelf_35 : decode cX5_shelf 35 = .ok (.if_icmp .ne 27, 3) := by decide +kernel
theorem dX5_shelf_38 : decode cX5_shelf 38 = .ok (.iload_n 3, 1) := by decide +kernel
theorem dX5_shelf_39 : decode cX5_shelf 39 = .ok (.invokestatic 205, 3) := by decide +kernel
theorem dX5_shelf_42 : decode cX5_shelf 42 = .ok (.ifCond .eq 20, 3) := by decide +kernel
theorem dX5_shelf_45 : decode cX5_shelf 45 = .ok (.aload_n 0, 1) := by decide +kernel
theorem dX5_shelf_46 : decode cX5_shelf 46 = .ok (.getfield 43, 3) := by decide +kernel
theorem dX5_shelf_49 : decode cX5_shelf 49 = .ok (.iload_n 1, 1) := by decide +kernel
theorem dX5_shelf_50 : decode cX5_shelf 50 = .ok (.aaload, 1) := by decide +kernel
theorem dX5_shelf_51 : decode cX5_shelf 51 = .ok (.aload_n 0, 1) := by decide +kernel
theorem dX5_shelf_52 : decode cX5_shelf 52 = .ok (.getfield 36, 3) := by decide +kernel
theorem dX5_shelf_55 : decode cX5_shelf 55 = .ok (.iload_n 3, 1) := by decide +kernel
theorem dX5_shelf_56 : decode cX5_shelf 56 = .ok (.aaload, 1) := by decide +kernel
theorem dX5_shelf_57 : decode cX5_shelf 57 = .ok (.invokevirtual 268, 3) := by decide +kernel
theorem dX5_shelf_60 : decode cX5_shelf 60 = .ok (.iconst 1, 1) := by decide +kernel
theorem dX5_shelf_61 : decode cX5_shelf 61 = .ok (.ireturn, 1) := by decide +kernel
theorem dX5_shelf_62 : decode cX5_shelf 62 = .ok (.iload_n 2, 1) := by decide +kernel
theorem dX5_shelf_63 : decode cX5_shelf 63 = .ok (.iconst 2, 1) := by decide +kernel
theorem dX5_shelf_64 : decode cX5_shelf 64 = .ok (.if_icmp .ne 14, 3) := by decide +kernel
theorem dX5_shelf_67 : decode cX5_shelf 67 = .ok (.aload_n 0, 1) := by decide +kernel
theorem dX5_shelf_68 : decode cX5_shelf 68 = .ok (.getfield 43, 3) := by decide +kernel
theorem dX5_shelf_71 : decode cX5_shelf 71 = .ok (.iload_n 1, 1) := by decide +kernel
theorem dX5_shelf_72 : decode cX5_shelf 72 = .ok (.aaload, 1) := by decide +kernel
theorem dX5_shelf_73 : decode cX5_shelf 73 = .ok (.invokevirtual 272, 3) := by decide +kernel
theorem dX5_shelf_76 : decode cX5_shelf 76 = .ok (.iconst 1, 1) := by decide +kernel
theorem dX5_shelf_77 : decode cX5_shelf 77 = .ok (.ireturn, 1) := by decide +kernel
theorem dX5_shelf_78 : decode cX5_shelf 78 = .ok (.iconst (-1), 1) := by decide +kernel
theorem dX5_shelf_79 : decode cX5_shelf 79 = .ok (.ireturn, 1) := by decide +kernel
theorem dX5_taken_0 : decode cX5_taken 0 = .ok (.iload_n 2, 1) := by decide +kernel
theorem dX5_taken_1 : decode cX5_taken 1 = .ok (.bipush 10, 2) := by decide +kernel
theorem dX5_taken_3 : decode cX5_taken 3 = .ok (.bipush 13, 2) := by decide +kernel
theorem dX5_taken_5 : decode cX5_taken 5 = .ok (.invokestatic 55, 3) := by decide +kernel
theorem dX5_taken_8 : decode cX5_taken 8 = .ok (.istore_n 3, 1) := by decide +kernel
theorem dX5_taken_9 : decode cX5_taken 9 = .ok (.iload_n 1, 1) := by decide +kernel
theorem dX5_taken_10 : decode cX5_taken 10 = .ok (.invokestatic 262, 3) := by decide +kernel
theorem dX5_taken_13 : decode cX5_taken 13 = .ok (.ifCond .eq 14, 3) := by decide +kernel
theorem dX5_taken_16 : decode cX5_taken 16 = .ok (.iload_n 3, 1) := by decide +kernel
theorem dX5_taken_17 : decode cX5_taken 17 = .ok (.ifCond .ne 12, 3) := by decide +kernel
theorem dX5_taken_20 : decode cX5_taken 20 = .ok (.iload_n 2, 1) := by decide +kernel
theorem dX5_taken_21 : decode cX5_taken 21 = .ok (.invokestatic 94, 3) := by decide +kernel
theorem dX5_taken_24 : decode cX5_taken 24 = .ok (.ifCond .ne 5, 3) := by decide +kernel
theorem dX5_taken_27 : decode cX5_taken 27 = .ok (.iconst (-1), 1) := by decide +kernel
theorem dX5_taken_28 : decode cX5_taken 28 = .ok (.ireturn, 1) := by decide +kernel
theorem dX5_taken_29 : decode cX5_taken 29 = .ok (.aload_n 0, 1) := by decide +kernel
theorem dX5_taken_30 : decode cX5_taken 30 = .ok (.getfield 43, 3) := by decide +kernel
theorem dX5_taken_33 : decode cX5_taken 33 = .ok (.iload_n 1, 1) := by decide +kernel
theorem dX5_taken_34 : decode cX5_taken 34 = .ok (.aaload, 1) := by decide +kernel
theorem dX5_taken_35 : decode cX5_taken 35 = .ok (.astore 4, 2) := by decide +kernel
theorem dX5_taken_37 : decode cX5_taken 37 = .ok (.aload 4, 2) := by decide +kernel
theorem dX5_taken_39 : decode cX5_taken 39 = .ok (.getfield 275, 3) := by decide +kernel
theorem dX5_taken_42 : decode cX5_taken 42 = .ok (.iconst 2, 1) := by decide +kernel
theorem dX5_taken_43 : decode cX5_taken 43 = .ok (.if_icmp .ne 30, 3) := by decide +kernel
theorem dX5_taken_46 : decode cX5_taken 46 = .ok (.iload_n 3, 1) := by decide +kernel
theorem dX5_taken_47 : decode cX5_taken 47 = .ok (.ifCond .eq 23, 3) := by decide +kernel
theorem dX5_taken_50 : decode cX5_taken 50 = .ok (.aload 4, 2) := by decide +kernel
theorem dX5_taken_52 : decode cX5_taken 52 = .ok (.getfield 278, 3) := by decide +kernel
theorem dX5_taken_55 : decode cX5_taken 55 = .ok (.iload_n 2, 1) := by decide +kernel
theorem dX5_taken_56 : decode cX5_taken 56 = .ok (.bipush 10, 2) := by decide +kernel
theorem dX5_taken_58 : decode cX5_taken 58 = .ok (.isub, 1) := by decide +kernel
theorem dX5_taken_59 : decode cX5_taken 59 = .ok (.if_icmp .ne 11, 3) := by decide +kernel
theorem dX5_taken_62 : decode cX5_taken 62 = .ok (.aload 4, 2) := by decide +kernel
theorem dX5_taken_64 : decode cX5_taken 64 = .ok (.getfield 279, 3) := by decide +kernel
theorem dX5_taken_67 : decode cX5_taken 67 = .ok (.goto 5, 3) := by decide +kernel
theorem dX5_taken_70 : decode cX5_taken 70 = .ok (.bipush (-13), 2) := by decide +kernel
theorem dX5_taken_72 : decode cX5_taken 72 = .ok (.ireturn, 1) := by decide +kernel
theorem dX5_taken_73 : decode cX5_taken 73 = .ok (.aload_n 0, 1) := by decide +kernel
theorem dX5_taken_74 : decode cX5_taken 74 = .ok (.aload 4, 2) := by decide +kernel
theorem dX5_taken_76 : decode cX5_taken 76 = .ok (.invokevirtual 282, 3) := by decide +kernel
theorem dX5_taken_79 : decode cX5_taken 79 = .ok (.ifCond .ne 6, 3) := by decide +kernel
theorem dX5_taken_82 : decode cX5_taken 82 = .ok (.bipush (-11), 2) := by decide +kernel
theorem dX5_taken_84 : decode cX5_taken 84 = .ok (.ireturn, 1) := by decide +kernel
theorem dX5_taken_85 : decode cX5_taken 85 = .ok (.iload_n 3, 1) := by decide +kernel
theorem dX5_taken_86 : decode cX5_taken 86 = .ok (.ifCond .ne 31, 3) := by decide +kernel
theorem dX5_taken_89 : decode cX5_taken 89 = .ok (.aload_n 0, 1) := by decide +kernel
theorem dX5_taken_90 : decode cX5_taken 90 = .ok (.getfield 10, 3) := by decide +kernel
theorem dX5_taken_93 : decode cX5_taken 93 = .ok (.getfield 111, 3) := by decide +kernel
theorem dX5_taken_96 : decode cX5_taken 96 = .ok (.aload 4, 2) := by decide +kernel
theorem dX5_taken_98 : decode cX5_taken 98 = .ok (.getfield 279, 3) := by decide +kernel
theorem dX5_taken_101 : decode cX5_taken 101 = .ok (.iaload, 1) := by decide +kernel
theorem dX5_taken_102 : decode cX5_taken 102 = .ok (.iload_n 2, 1) := by decide +kernel
theorem dX5_taken_103 : decode cX5_taken 103 = .ok (.invokestatic 286, 3) := by decide +kernel
theorem dX5_taken_106 : decode cX5_taken 106 = .ok (.ifCond .eq 11, 3) := by decide +kernel
theorem dX5_taken_109 : decode cX5_taken 109 = .ok (.aload 4, 2) := by decide +kernel
theorem dX5_taken_111 : decode cX5_taken 111 = .ok (.getfield 279, 3) := by decide +kernel
theorem dX5_taken_114 : decode cX5_taken 114 = .ok (.goto 5, 3) := by decide +kernel
theorem dX5_taken_117 : decode cX5_taken 117 = .ok (.bipush (-13), 2) := by decide +kernel
theorem dX5_taken_119 : decode cX5_taken 119 = .ok (.ireturn, 1) := by decide +kernel
theorem dX5_act_0 : decode cX5_act 0 = .ok (.aload_n 0, 1) := by decide +kernel
theorem dX5_act_1 : decode cX5_act 1 = .ok (.getfield 51, 3) := by decide +kernel
theorem dX5_act_4 : decode cX5_act 4 = .ok (.invokevirtual 289, 3) := by decide +kernel
theorem dX5_act_7 : decode cX5_act 7 = .ok (.iload_n 1, 1) := by decide +kernel
theorem dX5_act_8 : decode cX5_act 8 = .ok (.invokestatic 262, 3) := by decide +kernel
theorem dX5_act_11 : decode cX5_act 11 = .ok (.ifCond .eq 25, 3) := by decide +kernel
theorem dX5_act_14 : decode cX5_act 14 = .ok (.iload_n 2, 1) := by decide +kernel
theorem dX5_act_15 : decode cX5_act 15 = .ok (.iconst 0, 1) := by decide +kernel
theorem dX5_act_16 : decode cX5_act 16 = .ok (.iconst 3, 1) := by decide +kernel
theorem dX5_act_17 : decode cX5_act 17 = .ok (.invokestatic 55, 3) := by decide +kernel
theorem dX5_act_20 : decode cX5_act 20 = .ok (.ifCond .eq 16, 3) := by decide +kernel
theorem dX5_act_23 : decode cX5_act 23 = .ok (.aload_n 0, 1) := by decide +kernel
theorem dX5_act_24 : decode cX5_act 24 = .ok (.aload_n 0, 1) := by decide +kernel
theorem dX5_act_25 : decode cX5_act 25 = .ok (.getfield 43, 3) := by decide +kernel
theorem dX5_act_28 : decode cX5_act 28 = .ok (.iload_n 1, 1) := by decide +kernel
theorem dX5_act_29 : decode cX5_act 29 = .ok (.aaload, 1) := by decide +kernel
theorem dX5_act_30 : decode cX5_act 30 = .ok (.invokevirtual 282, 3) := by decide +kernel
theorem dX5_act_33 : decode cX5_act 33 = .ok (.ifCond .ne 5, 3) := by decide +kernel
theorem dX5_act_36 : decode cX5_act 36 = .ok (.iconst 0, 1) := by decide +kernel
theorem dX5_act_37 : decode cX5_act 37 = .ok (.ireturn, 1) := by decide +kernel
theorem dX5_act_38 : decode cX5_act 38 = .ok (.aload_n 0, 1) := by decide +kernel
theorem dX5_act_39 : decode cX5_act 39 = .ok (.getfield 43, 3) := by decide +kernel
theorem dX5_act_42 : decode cX5_act 42 = .ok (.iload_n 1, 1) := by decide +kernel
theorem dX5_act_43 : decode cX5_act 43 = .ok (.aaload, 1) := by decide +kernel
theorem dX5_act_44 : decode cX5_act 44 = .ok (.getfield 279, 3) := by decide +kernel
theorem dX5_act_47 : decode cX5_act 47 = .ok (.istore 4, 2) := by decide +kernel
theorem dX5_act_49 : decode cX5_act 49 = .ok (.aload_n 0, 1) := by decide +kernel
theorem dX5_act_50 : decode cX5_act 50 = .ok (.getfield 51, 3) := by decide +kernel
theorem dX5_act_53 : decode cX5_act 53 = .ok (.aload_n 0, 1) := by decide +kernel
theorem dX5_act_54 : decode cX5_act 54 = .ok (.getfield 10, 3) := by decide +kernel
theorem dX5_act_57 : decode cX5_act 57 = .ok (.getfield 111, 3) := by decide +kernel
theorem dX5_act_60 : decode cX5_act 60 = .ok (.iload 4, 2) := by decide +kernel
theorem dX5_act_62 : decode cX5_act 62 = .ok (.iaload, 1) := by decide +kernel
theorem dX5_act_63 : decode cX5_act 63 = .ok (.iload 4, 2) := by decide +kernel
theorem dX5_act_65 : decode cX5_act 65 = .ok (.aload_n 0, 1) := by decide +kernel
theorem dX5_act_66 : decode cX5_act 66 = .ok (.getfield 10, 3) := by decide +kernel
theorem dX5_act_69 : decode cX5_act 69 = .ok (.getfield 117, 3) := by decide +kernel
theorem dX5_act_72 : decode cX5_act 72 = .ok (.iload 4, 2) := by decide +kernel
theorem dX5_act_74 : decode cX5_act 74 = .ok (.iaload, 1) := by decide +kernel
theorem dX5_act_75 : decode cX5_act 75 = .ok (.iload_n 2, 1) := by decide +kernel
theorem dX5_act_76 : decode cX5_act 76 = .ok (.iload_n 3, 1) := by decide +kernel
theorem dX5_act_77 : decode cX5_act 77 = .ok (.invokevirtual 292, 3) := by decide +kernel
theorem dX5_act_80 : decode cX5_act 80 = .ok (.ireturn, 1) := by decide +kernel
theorem dX5_trace_0 : decode cX5_trace 0 = .ok (.iload_n 1, 1) := by decide +kernel
theorem dX5_trace_1 : decode cX5_trace 1 = .ok (.iconst 0, 1) := by decide +kernel
theorem dX5_trace_2 : decode cX5_trace 2 = .ok (.aload_n 0, 1) := by decide +kernel
theorem dX5_trace_3 : decode cX5_trace 3 = .ok (.getfield 51, 3) := by decide +kernel
theorem dX5_trace_6 : decode cX5_trace 6 = .ok (.getfield 296, 3) := by decide +kernel
theorem dX5_trace_9 : decode cX5_trace 9 = .ok (.iconst 1, 1) := by decide +kernel
theorem dX5_trace_10 : decode cX5_trace 10 = .ok (.isub, 1) := by decide +kernel
theorem dX5_trace_11 : decode cX5_trace 11 = .ok (.invokestatic 55, 3) := by decide +kernel
theorem dX5_trace_14 : decode cX5_trace 14 = .ok (.ifCond .eq 15, 3) := by decide +kernel
theorem dX5_trace_17 : decode cX5_trace 17 = .ok (.aload_n 0, 1) := by decide +kernel
theorem dX5_trace_18 : decode cX5_trace 18 = .ok (.getfield 51, 3) := by decide +kernel
theorem dX5_trace_21 : decode cX5_trace 21 = .ok (.getfield 297, 3) := by decide +kernel
theorem dX5_trace_24 : decode cX5_trace 24 = .ok (.iload_n 1, 1) := by decide +kernel
theorem dX5_trace_25 : decode cX5_trace 25 = .ok (.iaload, 1) := by decide +kernel
theorem dX5_trace_26 : decode cX5_trace 26 = .ok (.goto 5, 3) := by decide +kernel
theorem dX5_trace_29 : decode cX5_trace 29 = .ok (.bipush (-3), 2) := by decide +kernel
theorem dX5_trace_31 : decode cX5_trace 31 = .ok (.ireturn, 1) := by decide +kernel
theorem dX5_holdsTale_0 : decode cX5_holdsTale 0 = .ok (.aload_n 1, 1) := by decide +kernel
theorem dX5_holdsTale_1 : decode cX5_holdsTale 1 = .ok (.getfield 275, 3) := by decide +kernel
theorem dX5_holdsTale_4 : decode cX5_holdsTale 4 = .ok (.iconst 1, 1) := by decide +kernel
theorem dX5_holdsTale_5 : decode cX5_holdsTale 5 = .ok (.if_icmp .ne 18, 3) := by decide +kernel
theorem dX5_holdsTale_8 : decode cX5_holdsTale 8 = .ok (.aload_n 0, 1) := by decide +kernel
theorem dX5_holdsTale_9 : decode cX5_holdsTale 9 = .ok (.aload_n 1, 1) := by decide +kernel
theorem dX5_holdsTale_10 : decode cX5_holdsTale 10 = .ok (.getfield 279, 3) := by decide +kernel
theorem dX5_holdsTale_13 : decode cX5_holdsTale 13 = .ok (.invokevirtual 108, 3) := by decide +kernel
theorem dX5_holdsTale_16 : decode cX5_holdsTale 16 = .ok (.ifCond .eq 7, 3) := by decide +kernel
theorem dX5_holdsTale_19 : decode cX5_holdsTale 19 = .ok (.iconst 1, 1) := by decide +kernel
theorem dX5_holdsTale_20 : decode cX5_holdsTale 20 = .ok (.goto 4, 3) := by decide +kernel
theorem dX5_holdsTale_23 : decode cX5_holdsTale 23 = .ok (.iconst 0, 1) := by decide +kernel
theorem dX5_holdsTale_24 : decode cX5_holdsTale 24 = .ok (.ireturn, 1) := by decide +kernel
theorem dX5_isOrIsUnder_0 : decode cX5_isOrIsUnder 0 = .ok (.iload_n 0, 1) := by decide +kernel
theorem dX5_isOrIsUnder_1 : decode cX5_isOrIsUnder 1 = .ok (.istore_n 2, 1) := by decide +kernel
theorem dX5_isOrIsUnder_2 : decode cX5_isOrIsUnder 2 = .ok (.iconst 0, 1) := by decide +kernel
theorem dX5_isOrIsUnder_3 : decode cX5_isOrIsUnder 3 = .ok (.istore_n 3, 1) := by decide +kernel
theorem dX5_isOrIsUnder_4 : decode cX5_isOrIsUnder 4 = .ok (.iload_n 3, 1) := by decide +kernel
theorem dX5_isOrIsUnder_5 : decode cX5_isOrIsUnder 5 = .ok (.bipush 6, 2) := by decide +kernel
theorem dX5_isOrIsUnder_7 : decode cX5_isOrIsUnder 7 = .ok (.if_icmp .ge 29, 3) := by decide +kernel
theorem dX5_isOrIsUnder_10 : decode cX5_isOrIsUnder 10 = .ok (.iload_n 2, 1) := by decide +kernel
theorem dX5_isOrIsUnder_11 : decode cX5_isOrIsUnder 11 = .ok (.invokestatic 94, 3) := by decide +kernel
theorem dX5_isOrIsUnder_14 : decode cX5_isOrIsUnder 14 = .ok (.ifCond .eq 22, 3) := by decide +kernel
theorem dX5_isOrIsUnder_17 : decode cX5_isOrIsUnder 17 = .ok (.iload_n 2, 1) := by decide +kernel
theorem dX5_isOrIsUnder_18 : decode cX5_isOrIsUnder 18 = .ok (.iload_n 1, 1) := by decide +kernel
theorem dX5_isOrIsUnder_19 : decode cX5_isOrIsUnder 19 = .ok (.if_icmp .ne 5, 3) := by decide +kernel
theorem dX5_isOrIsUnder_22 : decode cX5_isOrIsUnder 22 = .ok (.iconst 1, 1) := by decide +kernel
theorem dX5_isOrIsUnder_23 : decode cX5_isOrIsUnder 23 = .ok (.ireturn, 1) := by decide +kernel
theorem dX5_isOrIsUnder_24 : decode cX5_isOrIsUnder 24 = .ok (.getstatic 300, 3) := by decide +kernel
theorem dX5_isOrIsUnder_27 : decode cX5_isOrIsUnder 27 = .ok (.iload_n 2, 1) := by decide +kernel
theorem dX5_isOrIsUnder_28 : decode cX5_isOrIsUnder 28 = .ok (.iaload, 1) := by decide +kernel
theorem dX5_isOrIsUnder_29 : decode cX5_isOrIsUnder 29 = .ok (.istore_n 2, 1) := by decide +kernel
theorem dX5_isOrIsUnder_30 : decode cX5_isOrIsUnder 30 = .ok (.iinc 3 1, 3) := by decide +kernel
theorem dX5_isOrIsUnder_33 : decode cX5_isOrIsUnder 33 = .ok (.goto (-29), 3) := by decide +kernel
theorem dX5_isOrIsUnder_36 : decode cX5_isOrIsUnder 36 = .ok (.iconst 0, 1) := by decide +kernel
theorem dX5_isOrIsUnder_37 : decode cX5_isOrIsUnder 37 = .ok (.ireturn, 1) := by decide +kernel
theorem dX5_many_0 : decode cX5_many 0 = .ok (.iload_n 1, 1) := by decide +kernel
theorem dX5_many_1 : decode cX5_many 1 = .ok (.tableswitch 113 0 6 #[43, 51, 70, 81, 92, 97, 105], 43) := by decide +kernel
theorem dX5_many_44 : decode cX5_many 44 = .ok (.aload_n 0, 1) := by decide +kernel
theorem dX5_many_45 : decode cX5_many 45 = .ok (.getfield 10, 3) := by decide +kernel
theorem dX5_many_48 : decode cX5_many 48 = .ok (.getfield 84, 3) := by decide +kernel
theorem dX5_many_51 : decode cX5_many 51 = .ok (.ireturn, 1) := by decide +kernel
theorem dX5_many_52 : decode cX5_many 52 = .ok (.aload_n 0, 1) := by decide +kernel
theorem dX5_many_53 : decode cX5_many 53 = .ok (.getfield 10, 3) := by decide +kernel
theorem dX5_many_56 : decode cX5_many 56 = .ok (.getfield 84, 3) := by decide +kernel
theorem dX5_many_59 : decode cX5_many 59 = .ok (.aload_n 0, 1) := by decide +kernel
theorem dX5_many_60 : decode cX5_many 60 = .ok (.getfield 10, 3) := by decide +kernel
theorem dX5_many_63 : decode cX5_many 63 = .ok (.invokevirtual 178, 3) := by decide +kernel
theorem dX5_many_66 : decode cX5_many 66 = .ok (.invokestatic 200, 3) := by decide +kernel
theorem dX5_many_69 : decode cX5_many 69 = .ok (.isub, 1) := by decide +kernel
theorem dX5_many_70 : decode cX5_many 70 = .ok (.ireturn, 1) := by decide +kernel
theorem dX5_many_71 : decode cX5_many 71 = .ok (.aload_n 0, 1) := by decide +kernel
theorem dX5_many_72 : decode cX5_many 72 = .ok (.getfield 10, 3) := by decide +kernel
theorem dX5_many_75 : decode cX5_many 75 = .ok (.invokevirtual 175, 3) := by decide +kernel
theorem dX5_many_78 : decode cX5_many 78 = .ok (.invokestatic 200, 3) := by decide +kernel
theorem dX5_many_81 : decode cX5_many 81 = .ok (.ireturn, 1) := by decide +kernel
theorem dX5_many_82 : decode cX5_many 82 = .ok (.aload_n 0, 1) := by decide +kernel
theorem dX5_many_83 : decode cX5_many 83 = .ok (.getfield 10, 3) := by decide +kernel
theorem dX5_many_86 : decode cX5_many 86 = .ok (.getfield 144, 3) := by decide +kernel
theorem dX5_many_89 : decode cX5_many 89 = .ok (.invokestatic 200, 3) := by decide +kernel
theorem dX5_many_92 : decode cX5_many 92 = .ok (.ireturn, 1) := by decide +kernel
theorem dX5_many_93 : decode cX5_many 93 = .ok (.aload_n 0, 1) := by decide +kernel
theorem dX5_many_94 : decode cX5_many 94 = .ok (.getfield 81, 3) := by decide +kernel
theorem dX5_many_97 : decode cX5_many 97 = .ok (.ireturn, 1) := by decide +kernel
theorem dX5_many_98 : decode cX5_many 98 = .ok (.aload_n 0, 1) := by decide +kernel
theorem dX5_many_99 : decode cX5_many 99 = .ok (.getfield 25, 3) := by decide +kernel
theorem dX5_many_102 : decode cX5_many 102 = .ok (.getfield 59, 3) := by decide +kernel
theorem dX5_many_105 : decode cX5_many 105 = .ok (.ireturn, 1) := by decide +kernel
theorem dX5_many_106 : decode cX5_many 106 = .ok (.aload_n 0, 1) := by decide +kernel
theorem dX5_many_107 : decode cX5_many 107 = .ok (.getfield 51, 3) := by decide +kernel
theorem dX5_many_110 : decode cX5_many 110 = .ok (.getfield 296, 3) := by decide +kernel
theorem dX5_many_113 : decode cX5_many 113 = .ok (.ireturn, 1) := by decide +kernel
theorem dX5_many_114 : decode cX5_many 114 = .ok (.iconst (-1), 1) := by decide +kernel
theorem dX5_many_115 : decode cX5_many 115 = .ok (.ireturn, 1) := by decide +kernel
theorem dX5_keep_0 : decode cX5_keep 0 = .ok (.aload_n 0, 1) := by decide +kernel
theorem dX5_keep_1 : decode cX5_keep 1 = .ok (.getfield 16, 3) := by decide +kernel
theorem dX5_keep_4 : decode cX5_keep 4 = .ok (.aload_n 0, 1) := by decide +kernel
theorem dX5_keep_5 : decode cX5_keep 5 = .ok (.getfield 10, 3) := by decide +kernel
theorem dX5_keep_8 : decode cX5_keep 8 = .ok (.invokevirtual 77, 3) := by decide +kernel
theorem dX5_keep_11 : decode cX5_keep 11 = .ok (.aload_n 0, 1) := by decide +kernel
theorem dX5_keep_12 : decode cX5_keep 12 = .ok (.iconst 1, 1) := by decide +kernel
theorem dX5_keep_13 : decode cX5_keep 13 = .ok (.putfield 303, 3) := by decide +kernel
theorem dX5_keep_16 : decode cX5_keep 16 = .ok (.iconst 1, 1) := by decide +kernel
theorem dX5_keep_17 : decode cX5_keep 17 = .ok (.ireturn, 1) := by decide +kernel
theorem dX5_again_0 : decode cX5_again 0 = .ok (.aload_n 0, 1) := by decide +kernel
theorem dX5_again_1 : decode cX5_again 1 = .ok (.getfield 303, 3) := by decide +kernel
theorem dX5_again_4 : decode cX5_again 4 = .ok (.ifCond .ne 6, 3) := by decide +kernel
theorem dX5_again_7 : decode cX5_again 7 = .ok (.bipush (-3), 2) := by decide +kernel
theorem dX5_again_9 : decode cX5_again 9 = .ok (.ireturn, 1) := by decide +kernel
theorem dX5_again_10 : decode cX5_again 10 = .ok (.aload_n 0, 1) := by decide +kernel
theorem dX5_again_11 : decode cX5_again 11 = .ok (.getfield 10, 3) := by decide +kernel
theorem dX5_again_14 : decode cX5_again 14 = .ok (.aload_n 0, 1) := by decide +kernel
theorem dX5_again_15 : decode cX5_again 15 = .ok (.getfield 16, 3) := by decide +kernel
theorem dX5_again_18 : decode cX5_again 18 = .ok (.invokevirtual 77, 3) := by decide +kernel
theorem dX5_again_21 : decode cX5_again 21 = .ok (.aload_n 0, 1) := by decide +kernel
theorem dX5_again_22 : decode cX5_again 22 = .ok (.getfield 10, 3) := by decide +kernel
theorem dX5_again_25 : decode cX5_again 25 = .ok (.getfield 84, 3) := by decide +kernel
theorem dX5_again_28 : decode cX5_again 28 = .ok (.ireturn, 1) := by decide +kernel
theorem dX5_isWithin_0 : decode cX5_isWithin 0 = .ok (.iload_n 0, 1) := by decide +kernel
theorem dX5_isWithin_1 : decode cX5_isWithin 1 = .ok (.iload_n 1, 1) := by decide +kernel
theorem dX5_isWithin_2 : decode cX5_isWithin 2 = .ok (.if_icmp .lt 12, 3) := by decide +kernel
theorem dX5_isWithin_5 : decode cX5_isWithin 5 = .ok (.iload_n 0, 1) := by decide +kernel
theorem dX5_isWithin_6 : decode cX5_isWithin 6 = .ok (.iload_n 2, 1) := by decide +kernel
theorem dX5_isWithin_7 : decode cX5_isWithin 7 = .ok (.if_icmp .gt 7, 3) := by decide +kernel
theorem dX5_isWithin_10 : decode cX5_isWithin 10 = .ok (.iconst 1, 1) := by decide +kernel
theorem dX5_isWithin_11 : decode cX5_isWithin 11 = .ok (.goto 4, 3) := by decide +kernel
theorem dX5_isWithin_14 : decode cX5_isWithin 14 = .ok (.iconst 0, 1) := by decide +kernel
theorem dX5_isWithin_15 : decode cX5_isWithin 15 = .ok (.ireturn, 1) := by decide +kernel
theorem dX5_isHouse_0 : decode cX5_isHouse 0 = .ok (.iload_n 0, 1) := by decide +kernel
theorem dX5_isHouse_1 : decode cX5_isHouse 1 = .ok (.iconst 0, 1) := by decide +kernel
theorem dX5_isHouse_2 : decode cX5_isHouse 2 = .ok (.bipush 7, 2) := by decide +kernel
theorem dX5_isHouse_4 : decode cX5_isHouse 4 = .ok (.invokestatic 55, 3) := by decide +kernel
theorem dX5_isHouse_7 : decode cX5_isHouse 7 = .ok (.ireturn, 1) := by decide +kernel
theorem dX5_isKind_0 : decode cX5_isKind 0 = .ok (.iload_n 0, 1) := by decide +kernel
theorem dX5_isKind_1 : decode cX5_isKind 1 = .ok (.iconst 0, 1) := by decide +kernel
theorem dX5_isKind_2 : decode cX5_isKind 2 = .ok (.iconst 5, 1) := by decide +kernel
theorem dX5_isKind_3 : decode cX5_isKind 3 = .ok (.invokestatic 55, 3) := by decide +kernel
theorem dX5_isKind_6 : decode cX5_isKind 6 = .ok (.ireturn, 1) := by decide +kernel
theorem dX5_isHeat_0 : decode cX5_isHeat 0 = .ok (.iload_n 0, 1) := by decide +kernel
theorem dX5_isHeat_1 : decode cX5_isHeat 1 = .ok (.iconst 0, 1) := by decide +kernel
theorem dX5_isHeat_2 : decode cX5_isHeat 2 = .ok (.bipush 99, 2) := by decide +kernel
theorem dX5_isHeat_4 : decode cX5_isHeat 4 = .ok (.invokestatic 55, 3) := by decide +kernel
theorem dX5_isHeat_7 : decode cX5_isHeat 7 = .ok (.ireturn, 1) := by decide +kernel
theorem dX5_isSheet_0 : decode cX5_isSheet 0 = .ok (.iload_n 0, 1) := by decide +kernel
theorem dX5_isSheet_1 : decode cX5_isSheet 1 = .ok (.iconst 0, 1) := by decide +kernel
theorem dX5_isSheet_2 : decode cX5_isSheet 2 = .ok (.iconst 3, 1) := by decide +kernel
theorem dX5_isSheet_3 : decode cX5_isSheet 3 = .ok (.invokestatic 55, 3) := by decide +kernel
theorem dX5_isSheet_6 : decode cX5_isSheet 6 = .ok (.ireturn, 1) := by decide +kernel
theorem dX5_isShelf_0 : decode cX5_isShelf 0 = .ok (.iload_n 0, 1) := by decide +kernel
theorem dX5_isShelf_1 : decode cX5_isShelf 1 = .ok (.iconst 0, 1) := by decide +kernel
theorem dX5_isShelf_2 : decode cX5_isShelf 2 = .ok (.iconst 3, 1) := by decide +kernel
theorem dX5_isShelf_3 : decode cX5_isShelf 3 = .ok (.invokestatic 55, 3) := by decide +kernel
theorem dX5_isShelf_6 : decode cX5_isShelf 6 = .ok (.ireturn, 1) := by decide +kernel
theorem dX5_isTale_0 : decode cX5_isTale 0 = .ok (.iload_n 1, 1) := by decide +kernel
theorem dX5_isTale_1 : decode cX5_isTale 1 = .ok (.iconst 0, 1) := by decide +kernel
theorem dX5_isTale_2 : decode cX5_isTale 2 = .ok (.aload_n 0, 1) := by decide +kernel
theorem dX5_isTale_3 : decode cX5_isTale 3 = .ok (.getfield 10, 3) := by decide +kernel
theorem dX5_isTale_6 : decode cX5_isTale 6 = .ok (.getfield 84, 3) := by decide +kernel
theorem dX5_isTale_9 : decode cX5_isTale 9 = .ok (.iconst 1, 1) := by decide +kernel
theorem dX5_isTale_10 : decode cX5_isTale 10 = .ok (.isub, 1) := by decide +kernel
theorem dX5_isTale_11 : decode cX5_isTale 11 = .ok (.invokestatic 55, 3) := by decide +kernel
theorem dX5_isTale_14 : decode cX5_isTale 14 = .ok (.ireturn, 1) := by decide +kernel
theorem dX5_heldHeat_0 : decode cX5_heldHeat 0 = .ok (.iconst 0, 1) := by decide +kernel
theorem dX5_heldHeat_1 : decode cX5_heldHeat 1 = .ok (.bipush 99, 2) := by decide +kernel
theorem dX5_heldHeat_3 : decode cX5_heldHeat 3 = .ok (.iload_n 0, 1) := by decide +kernel
theorem dX5_heldHeat_4 : decode cX5_heldHeat 4 = .ok (.invokestatic 307, 3) := by decide +kernel
theorem dX5_heldHeat_7 : decode cX5_heldHeat 7 = .ok (.invokestatic 312, 3) := by decide +kernel
theorem dX5_heldHeat_10 : decode cX5_heldHeat 10 = .ok (.ireturn, 1) := by decide +kernel
