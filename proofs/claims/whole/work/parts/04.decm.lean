theorem dX6_init_0 : decode cX6_init 0 = .ok (.aload_n 0, 1) := by decide +kernel
theorem dX6_init_1 : decode cX6_init 1 = .ok (.invokespecial 1, 3) := by decide +kernel
theorem dX6_init_4 : decode cX6_init 4 = .ok (.aload_n 0, 1) := by decide +kernel
theorem dX6_init_5 : decode cX6_init 5 = .ok (.bipush 63, 2) := by decide +kernel
theorem dX6_init_7 : decode cX6_init 7 = .ok (.newarray .int, 2) := by decide +kernel
theorem dX6_init_9 : decode cX6_init 9 = .ok (.putfield 7, 3) := by decide +kernel
theorem dX6_init_12 : decode cX6_init 12 = .ok (.aload_n 0, 1) := by decide +kernel
theorem dX6_init_13 : decode cX6_init 13 = .ok (.bipush 63, 2) := by decide +kernel
theorem dX6_init_15 : decode cX6_init 15 = .ok (.newarray .int, 2) := by decide +kernel
theorem dX6_init_17 : decode cX6_init 17 = .ok (.putfield 13, 3) := by decide +kernel
theorem dX6_init_20 : decode cX6_init 20 = .ok (.aload_n 0, 1) := by decide +kernel
theorem dX6_init_21 : decode cX6_init 21 = .ok (.bipush 63, 2) := by decide +kernel
theorem dX6_init_23 : decode cX6_init 23 = .ok (.newarray .int, 2) := by decide +kernel
theorem dX6_init_25 : decode cX6_init 25 = .ok (.putfield 16, 3) := by decide +kernel
theorem dX6_init_28 : decode cX6_init 28 = .ok (.aload_n 0, 1) := by decide +kernel
theorem dX6_init_29 : decode cX6_init 29 = .ok (.bipush 63, 2) := by decide +kernel
theorem dX6_init_31 : decode cX6_init 31 = .ok (.newarray .int, 2) := by decide +kernel
theorem dX6_init_33 : decode cX6_init 33 = .ok (.putfield 19, 3) := by decide +kernel
theorem dX6_init_36 : decode cX6_init 36 = .ok (.aload_n 0, 1) := by decide +kernel
theorem dX6_init_37 : decode cX6_init 37 = .ok (.sipush 200, 3) := by decide +kernel
theorem dX6_init_40 : decode cX6_init 40 = .ok (.newarray .int, 2) := by decide +kernel
theorem dX6_init_42 : decode cX6_init 42 = .ok (.putfield 22, 3) := by decide +kernel
theorem dX6_init_45 : decode cX6_init 45 = .ok (.aload_n 0, 1) := by decide +kernel
theorem dX6_init_46 : decode cX6_init 46 = .ok (.bipush 30, 2) := by decide +kernel
theorem dX6_init_48 : decode cX6_init 48 = .ok (.newarray .int, 2) := by decide +kernel
theorem dX6_init_50 : decode cX6_init 50 = .ok (.putfield 25, 3) := by decide +kernel
theorem dX6_init_53 : decode cX6_init 53 = .ok (.aload_n 0, 1) := by decide +kernel
theorem dX6_init_54 : decode cX6_init 54 = .ok (.iconst 4, 1) := by decide +kernel
theorem dX6_init_55 : decode cX6_init 55 = .ok (.newarray .int, 2) := by decide +kernel
theorem dX6_init_57 : decode cX6_init 57 = .ok (.dup, 1) := by decide +kernel
theorem dX6_init_58 : decode cX6_init 58 = .ok (.iconst 0, 1) := by decide +kernel
theorem dX6_init_59 : decode cX6_init 59 = .ok (.iconst (-1), 1) := by decide +kernel
theorem dX6_init_60 : decode cX6_init 60 = .ok (.iastore, 1) := by decide +kernel
theorem dX6_init_61 : decode cX6_init 61 = .ok (.dup, 1) := by decide +kernel
theorem dX6_init_62 : decode cX6_init 62 = .ok (.iconst 1, 1) := by decide +kernel
theorem dX6_init_63 : decode cX6_init 63 = .ok (.iconst (-1), 1) := by decide +kernel
theorem dX6_init_64 : decode cX6_init 64 = .ok (.iastore, 1) := by decide +kernel
theorem dX6_init_65 : decode cX6_init 65 = .ok (.dup, 1) := by decide +kernel
theorem dX6_init_66 : decode cX6_init 66 = .ok (.iconst 2, 1) := by decide +kernel
theorem dX6_init_67 : decode cX6_init 67 = .ok (.iconst (-1), 1) := by decide +kernel
theorem dX6_init_68 : decode cX6_init 68 = .ok (.iastore, 1) := by decide +kernel
theorem dX6_init_69 : decode cX6_init 69 = .ok (.dup, 1) := by decide +kernel
theorem dX6_init_70 : decode cX6_init 70 = .ok (.iconst 3, 1) := by decide +kernel
theorem dX6_init_71 : decode cX6_init 71 = .ok (.iconst (-1), 1) := by decide +kernel
theorem dX6_init_72 : decode cX6_init 72 = .ok (.iastore, 1) := by decide +kernel
theorem dX6_init_73 : decode cX6_init 73 = .ok (.putfield 28, 3) := by decide +kernel
theorem dX6_init_76 : decode cX6_init 76 = .ok (.aload_n 0, 1) := by decide +kernel
theorem dX6_init_77 : decode cX6_init 77 = .ok (.iconst 4, 1) := by decide +kernel
theorem dX6_init_78 : decode cX6_init 78 = .ok (.newarray .int, 2) := by decide +kernel
theorem dX6_init_80 : decode cX6_init 80 = .ok (.putfield 31, 3) := by decide +kernel
theorem dX6_init_83 : decode cX6_init 83 = .ok (.aload_n 0, 1) := by decide +kernel
theorem dX6_init_84 : decode cX6_init 84 = .ok (.sipush 160, 3) := by decide +kernel
theorem dX6_init_87 : decode cX6_init 87 = .ok (.newarray .int, 2) := by decide +kernel
theorem dX6_init_89 : decode cX6_init 89 = .ok (.putfield 34, 3) := by decide +kernel
theorem dX6_init_92 : decode cX6_init 92 = .ok (.aload_n 0, 1) := by decide +kernel
theorem dX6_init_93 : decode cX6_init 93 = .ok (.iconst 4, 1) := by decide +kernel
theorem dX6_init_94 : decode cX6_init 94 = .ok (.newarray .int, 2) := by decide +kernel
theorem dX6_init_96 : decode cX6_init 96 = .ok (.putfield 37, 3) := by decide +kernel
theorem dX6_init_99 : decode cX6_init 99 = .ok (.aload_n 0, 1) := by decide +kernel
theorem dX6_init_100 : decode cX6_init 100 = .ok (.iconst 4, 1) := by decide +kernel
theorem dX6_init_101 : decode cX6_init 101 = .ok (.newarray .int, 2) := by decide +kernel
theorem dX6_init_103 : decode cX6_init 103 = .ok (.putfield 40, 3) := by decide +kernel
theorem dX6_init_106 : decode cX6_init 106 = .ok (.aload_n 0, 1) := by decide +kernel
theorem dX6_init_107 : decode cX6_init 107 = .ok (.iconst 4, 1) := by decide +kernel
theorem dX6_init_108 : decode cX6_init 108 = .ok (.newarray .int, 2) := by decide +kernel
theorem dX6_init_110 : decode cX6_init 110 = .ok (.putfield 43, 3) := by decide +kernel
theorem dX6_init_113 : decode cX6_init 113 = .ok (.aload_n 0, 1) := by decide +kernel
theorem dX6_init_114 : decode cX6_init 114 = .ok (.bipush 30, 2) := by decide +kernel
theorem dX6_init_116 : decode cX6_init 116 = .ok (.newarray .int, 2) := by decide +kernel
theorem dX6_init_118 : decode cX6_init 118 = .ok (.putfield 46, 3) := by decide +kernel
theorem dX6_init_121 : decode cX6_init 121 = .ok (.aload_n 0, 1) := by decide +kernel
theorem dX6_init_122 : decode cX6_init 122 = .ok (.invokevirtual 49, 3) := by decide +kernel
theorem dX6_init_125 : decode cX6_init 125 = .ok (.aload_n 0, 1) := by decide +kernel
theorem dX6_init_126 : decode cX6_init 126 = .ok (.getfield 7, 3) := by decide +kernel
theorem dX6_init_129 : decode cX6_init 129 = .ok (.iconst 2, 1) := by decide +kernel
theorem dX6_init_130 : decode cX6_init 130 = .ok (.iconst 1, 1) := by decide +kernel
theorem dX6_init_131 : decode cX6_init 131 = .ok (.iastore, 1) := by decide +kernel
theorem dX6_init_132 : decode cX6_init 132 = .ok (.return_, 1) := by decide +kernel
theorem dX6_begins_0 : decode cX6_begins 0 = .ok (.aload_n 0, 1) := by decide +kernel
theorem dX6_begins_1 : decode cX6_begins 1 = .ok (.getfield 7, 3) := by decide +kernel
theorem dX6_begins_4 : decode cX6_begins 4 = .ok (.iconst 2, 1) := by decide +kernel
theorem dX6_begins_5 : decode cX6_begins 5 = .ok (.iaload, 1) := by decide +kernel
theorem dX6_begins_6 : decode cX6_begins 6 = .ok (.istore_n 1, 1) := by decide +kernel
theorem dX6_begins_7 : decode cX6_begins 7 = .ok (.iconst 0, 1) := by decide +kernel
theorem dX6_begins_8 : decode cX6_begins 8 = .ok (.istore_n 2, 1) := by decide +kernel
theorem dX6_begins_9 : decode cX6_begins 9 = .ok (.iload_n 2, 1) := by decide +kernel
theorem dX6_begins_10 : decode cX6_begins 10 = .ok (.bipush 63, 2) := by decide +kernel
theorem dX6_begins_12 : decode cX6_begins 12 = .ok (.if_icmp .ge 16, 3) := by decide +kernel
theorem dX6_begins_15 : decode cX6_begins 15 = .ok (.aload_n 0, 1) := by decide +kernel
theorem dX6_begins_16 : decode cX6_begins 16 = .ok (.getfield 7, 3) := by decide +kernel
theorem dX6_begins_19 : decode cX6_begins 19 = .ok (.iload_n 2, 1) := by decide +kernel
theorem dX6_begins_20 : decode cX6_begins 20 = .ok (.iconst 0, 1) := by decide +kernel
theorem dX6_begins_21 : decode cX6_begins 21 = .ok (.iastore, 1) := by decide +kernel
theorem dX6_begins_22 : decode cX6_begins 22 = .ok (.iinc 2 1, 3) := by decide +kernel
theorem dX6_begins_25 : decode cX6_begins 25 = .ok (.goto (-16), 3) := by decide +kernel
theorem dX6_begins_28 : decode cX6_begins 28 = .ok (.aload_n 0, 1) := by decide +kernel
theorem dX6_begins_29 : decode cX6_begins 29 = .ok (.getfield 7, 3) := by decide +kernel
theorem dX6_begins_32 : decode cX6_begins 32 = .ok (.iconst 2, 1) := by decide +kernel
theorem dX6_begins_33 : decode cX6_begins 33 = .ok (.iload_n 1, 1) := by decide +kernel
theorem dX6_begins_34 : decode cX6_begins 34 = .ok (.iastore, 1) := by decide +kernel
theorem dX6_begins_35 : decode cX6_begins 35 = .ok (.aload_n 0, 1) := by decide +kernel
theorem dX6_begins_36 : decode cX6_begins 36 = .ok (.getfield 7, 3) := by decide +kernel
theorem dX6_begins_39 : decode cX6_begins 39 = .ok (.iconst 3, 1) := by decide +kernel
theorem dX6_begins_40 : decode cX6_begins 40 = .ok (.iconst 3, 1) := by decide +kernel
theorem dX6_begins_41 : decode cX6_begins 41 = .ok (.iastore, 1) := by decide +kernel
theorem dX6_begins_42 : decode cX6_begins 42 = .ok (.aload_n 0, 1) := by decide +kernel
theorem dX6_begins_43 : decode cX6_begins 43 = .ok (.getfield 7, 3) := by decide +kernel
theorem dX6_begins_46 : decode cX6_begins 46 = .ok (.iconst 4, 1) := by decide +kernel
theorem dX6_begins_47 : decode cX6_begins 47 = .ok (.iconst 2, 1) := by decide +kernel
theorem dX6_begins_48 : decode cX6_begins 48 = .ok (.iastore, 1) := by decide +kernel
theorem dX6_begins_49 : decode cX6_begins 49 = .ok (.aload_n 0, 1) := by decide +kernel
theorem dX6_begins_50 : decode cX6_begins 50 = .ok (.getfield 7, 3) := by decide +kernel
theorem dX6_begins_53 : decode cX6_begins 53 = .ok (.bipush 6, 2) := by decide +kernel
theorem dX6_begins_55 : decode cX6_begins 55 = .ok (.bipush 20, 2) := by decide +kernel
theorem dX6_begins_57 : decode cX6_begins 57 = .ok (.iastore, 1) := by decide +kernel
theorem dX6_begins_58 : decode cX6_begins 58 = .ok (.iconst 0, 1) := by decide +kernel
theorem dX6_begins_59 : decode cX6_begins 59 = .ok (.istore_n 2, 1) := by decide +kernel
theorem dX6_begins_60 : decode cX6_begins 60 = .ok (.iload_n 2, 1) := by decide +kernel
theorem dX6_begins_61 : decode cX6_begins 61 = .ok (.bipush 8, 2) := by decide +kernel
theorem dX6_begins_63 : decode cX6_begins 63 = .ok (.if_icmp .ge 34, 3) := by decide +kernel
theorem dX6_begins_66 : decode cX6_begins 66 = .ok (.aload_n 0, 1) := by decide +kernel
theorem dX6_begins_67 : decode cX6_begins 67 = .ok (.getfield 7, 3) := by decide +kernel
theorem dX6_begins_70 : decode cX6_begins 70 = .ok (.bipush 7, 2) := by decide +kernel
theorem dX6_begins_72 : decode cX6_begins 72 = .ok (.iload_n 2, 1) := by decide +kernel
theorem dX6_begins_73 : decode cX6_begins 73 = .ok (.iadd, 1) := by decide +kernel
theorem dX6_begins_74 : decode cX6_begins 74 = .ok (.iload_n 2, 1) := by decide +kernel
theorem dX6_begins_75 : decode cX6_begins 75 = .ok (.iconst 1, 1) := by decide +kernel
theorem dX6_begins_76 : decode cX6_begins 76 = .ok (.iadd, 1) := by decide +kernel
theorem dX6_begins_77 : decode cX6_begins 77 = .ok (.bipush 8, 2) := by decide +kernel
theorem dX6_begins_79 : decode cX6_begins 79 = .ok (.irem, 1) := by decide +kernel
theorem dX6_begins_80 : decode cX6_begins 80 = .ok (.iastore, 1) := by decide +kernel
theorem dX6_begins_81 : decode cX6_begins 81 = .ok (.aload_n 0, 1) := by decide +kernel
theorem dX6_begins_82 : decode cX6_begins 82 = .ok (.getfield 7, 3) := by decide +kernel
theorem dX6_begins_85 : decode cX6_begins 85 = .ok (.bipush 15, 2) := by decide +kernel
theorem dX6_begins_87 : decode cX6_begins 87 = .ok (.iload_n 2, 1) := by decide +kernel
theorem dX6_begins_88 : decode cX6_begins 88 = .ok (.iadd, 1) := by decide +kernel
theorem dX6_begins_89 : decode cX6_begins 89 = .ok (.iconst 1, 1) := by decide +kernel
theorem dX6_begins_90 : decode cX6_begins 90 = .ok (.iastore, 1) := by decide +kernel
theorem dX6_begins_91 : decode cX6_begins 91 = .ok (.iinc 2 1, 3) := by decide +kernel
theorem dX6_begins_94 : decode cX6_begins 94 = .ok (.goto (-34), 3) := by decide +kernel
theorem dX6_begins_97 : decode cX6_begins 97 = .ok (.return_, 1) := by decide +kernel
theorem dX6_isIn_0 : decode cX6_isIn 0 = .ok (.lload_n 0, 1) := by decide +kernel
theorem dX6_isIn_1 : decode cX6_isIn 1 = .ok (.lload_n 2, 1) := by decide +kernel
theorem dX6_isIn_2 : decode cX6_isIn 2 = .ok (.lcmp, 1) := by decide +kernel
theorem dX6_isIn_3 : decode cX6_isIn 3 = .ok (.ifCond .lt 14, 3) := by decide +kernel
theorem dX6_isIn_6 : decode cX6_isIn 6 = .ok (.lload_n 0, 1) := by decide +kernel
theorem dX6_isIn_7 : decode cX6_isIn 7 = .ok (.lload 4, 2) := by decide +kernel
theorem dX6_isIn_9 : decode cX6_isIn 9 = .ok (.lcmp, 1) := by decide +kernel
theorem dX6_isIn_10 : decode cX6_isIn 10 = .ok (.ifCond .gt 7, 3) := by decide +kernel
theorem dX6_isIn_13 : decode cX6_isIn 13 = .ok (.iconst 1, 1) := by decide +kernel
theorem dX6_isIn_14 : decode cX6_isIn 14 = .ok (.goto 4, 3) := by decide +kernel
theorem dX6_isIn_17 : decode cX6_isIn 17 = .ok (.iconst 0, 1) := by decide +kernel
theorem dX6_isIn_18 : decode cX6_isIn 18 = .ok (.ireturn, 1) := by decide +kernel
theorem dX6_isHouse_0 : decode cX6_isHouse 0 = .ok (.iload_n 0, 1) := by decide +kernel
theorem dX6_isHouse_1 : decode cX6_isHouse 1 = .ok (.ifCond .lt 13, 3) := by decide +kernel
theorem dX6_isHouse_4 : decode cX6_isHouse 4 = .ok (.iload_n 0, 1) := by decide +kernel
theorem dX6_isHouse_5 : decode cX6_isHouse 5 = .ok (.bipush 8, 2) := by decide +kernel
theorem dX6_isHouse_7 : decode cX6_isHouse 7 = .ok (.if_icmp .ge 7, 3) := by decide +kernel
theorem dX6_isHouse_10 : decode cX6_isHouse 10 = .ok (.iconst 1, 1) := by decide +kernel
theorem dX6_isHouse_11 : decode cX6_isHouse 11 = .ok (.goto 4, 3) := by decide +kernel
theorem dX6_isHouse_14 : decode cX6_isHouse 14 = .ok (.iconst 0, 1) := by decide +kernel
theorem dX6_isHouse_15 : decode cX6_isHouse 15 = .ok (.ireturn, 1) := by decide +kernel
theorem dX6_isOne_0 : decode cX6_isOne 0 = .ok (.iload_n 1, 1) := by decide +kernel
theorem dX6_isOne_1 : decode cX6_isOne 1 = .ok (.ifCond .lt 17, 3) := by decide +kernel
theorem dX6_isOne_4 : decode cX6_isOne 4 = .ok (.iload_n 1, 1) := by decide +kernel
theorem dX6_isOne_5 : decode cX6_isOne 5 = .ok (.aload_n 0, 1) := by decide +kernel
theorem dX6_isOne_6 : decode cX6_isOne 6 = .ok (.getfield 7, 3) := by decide +kernel
theorem dX6_isOne_9 : decode cX6_isOne 9 = .ok (.iconst 0, 1) := by decide +kernel
theorem dX6_isOne_10 : decode cX6_isOne 10 = .ok (.iaload, 1) := by decide +kernel
theorem dX6_isOne_11 : decode cX6_isOne 11 = .ok (.if_icmp .ge 7, 3) := by decide +kernel
theorem dX6_isOne_14 : decode cX6_isOne 14 = .ok (.iconst 1, 1) := by decide +kernel
theorem dX6_isOne_15 : decode cX6_isOne 15 = .ok (.goto 4, 3) := by decide +kernel
theorem dX6_isOne_18 : decode cX6_isOne 18 = .ok (.iconst 0, 1) := by decide +kernel
theorem dX6_isOne_19 : decode cX6_isOne 19 = .ok (.ireturn, 1) := by decide +kernel
theorem dX6_its_0 : decode cX6_its 0 = .ok (.aload_n 0, 1) := by decide +kernel
theorem dX6_its_1 : decode cX6_its 1 = .ok (.getfield 7, 3) := by decide +kernel
theorem dX6_its_4 : decode cX6_its 4 = .ok (.bipush 31, 2) := by decide +kernel
theorem dX6_its_6 : decode cX6_its 6 = .ok (.iconst 4, 1) := by decide +kernel
theorem dX6_its_7 : decode cX6_its 7 = .ok (.iload_n 1, 1) := by decide +kernel
theorem dX6_its_8 : decode cX6_its 8 = .ok (.imul, 1) := by decide +kernel
theorem dX6_its_9 : decode cX6_its 9 = .ok (.iadd, 1) := by decide +kernel
theorem dX6_its_10 : decode cX6_its 10 = .ok (.iload_n 2, 1) := by decide +kernel
theorem dX6_its_11 : decode cX6_its 11 = .ok (.iadd, 1) := by decide +kernel
theorem dX6_its_12 : decode cX6_its 12 = .ok (.iaload, 1) := by decide +kernel
theorem dX6_its_13 : decode cX6_its 13 = .ok (.ireturn, 1) := by decide +kernel
theorem dX6_becomes_0 : decode cX6_becomes 0 = .ok (.aload_n 0, 1) := by decide +kernel
theorem dX6_becomes_1 : decode cX6_becomes 1 = .ok (.getfield 7, 3) := by decide +kernel
theorem dX6_becomes_4 : decode cX6_becomes 4 = .ok (.iload_n 1, 1) := by decide +kernel
theorem dX6_becomes_5 : decode cX6_becomes 5 = .ok (.iaload, 1) := by decide +kernel
theorem dX6_becomes_6 : decode cX6_becomes 6 = .ok (.istore_n 3, 1) := by decide +kernel
theorem dX6_becomes_7 : decode cX6_becomes 7 = .ok (.aload_n 0, 1) := by decide +kernel
theorem dX6_becomes_8 : decode cX6_becomes 8 = .ok (.getfield 7, 3) := by decide +kernel
theorem dX6_becomes_11 : decode cX6_becomes 11 = .ok (.iload_n 1, 1) := by decide +kernel
theorem dX6_becomes_12 : decode cX6_becomes 12 = .ok (.iload_n 2, 1) := by decide +kernel
theorem dX6_becomes_13 : decode cX6_becomes 13 = .ok (.iastore, 1) := by decide +kernel
theorem dX6_becomes_14 : decode cX6_becomes 14 = .ok (.iload_n 3, 1) := by decide +kernel
theorem dX6_becomes_15 : decode cX6_becomes 15 = .ok (.ireturn, 1) := by decide +kernel
theorem dX6_copyRow_0 : decode cX6_copyRow 0 = .ok (.iconst 0, 1) := by decide +kernel
theorem dX6_copyRow_1 : decode cX6_copyRow 1 = .ok (.istore_n 2, 1) := by decide +kernel
theorem dX6_copyRow_2 : decode cX6_copyRow 2 = .ok (.iload_n 2, 1) := by decide +kernel
theorem dX6_copyRow_3 : decode cX6_copyRow 3 = .ok (.bipush 63, 2) := by decide +kernel
theorem dX6_copyRow_5 : decode cX6_copyRow 5 = .ok (.if_icmp .ge 15, 3) := by decide +kernel
theorem dX6_copyRow_8 : decode cX6_copyRow 8 = .ok (.aload_n 1, 1) := by decide +kernel
theorem dX6_copyRow_9 : decode cX6_copyRow 9 = .ok (.iload_n 2, 1) := by decide +kernel
theorem dX6_copyRow_10 : decode cX6_copyRow 10 = .ok (.aload_n 0, 1) := by decide +kernel
theorem dX6_copyRow_11 : decode cX6_copyRow 11 = .ok (.iload_n 2, 1) := by decide +kernel
theorem dX6_copyRow_12 : decode cX6_copyRow 12 = .ok (.iaload, 1) := by decide +kernel
theorem dX6_copyRow_13 : decode cX6_copyRow 13 = .ok (.iastore, 1) := by decide +kernel
theorem dX6_copyRow_14 : decode cX6_copyRow 14 = .ok (.iinc 2 1, 3) := by decide +kernel
theorem dX6_copyRow_17 : decode cX6_copyRow 17 = .ok (.goto (-15), 3) := by decide +kernel
theorem dX6_copyRow_20 : decode cX6_copyRow 20 = .ok (.return_, 1) := by decide +kernel
theorem dX6_greatest_0 : decode cX6_greatest 0 = .ok (.iload_n 0, 1) := by decide +kernel
theorem dX6_greatest_1 : decode cX6_greatest 1 = .ok (.iload_n 1, 1) := by decide +kernel
theorem dX6_greatest_2 : decode cX6_greatest 2 = .ok (.if_icmp .le 7, 3) := by decide +kernel
theorem dX6_greatest_5 : decode cX6_greatest 5 = .ok (.iload_n 0, 1) := by decide +kernel
theorem dX6_greatest_6 : decode cX6_greatest 6 = .ok (.goto 4, 3) := by decide +kernel
theorem dX6_greatest_9 : decode cX6_greatest 9 = .ok (.iload_n 1, 1) := by decide +kernel
theorem dX6_greatest_10 : decode cX6_greatest 10 = .ok (.ireturn, 1) := by decide +kernel
theorem dX6_within_0 : decode cX6_within 0 = .ok (.iload_n 0, 1) := by decide +kernel
theorem dX6_within_1 : decode cX6_within 1 = .ok (.ifCond .ge 7, 3) := by decide +kernel
theorem dX6_within_4 : decode cX6_within 4 = .ok (.iconst 0, 1) := by decide +kernel
theorem dX6_within_5 : decode cX6_within 5 = .ok (.goto 15, 3) := by decide +kernel
theorem dX6_within_8 : decode cX6_within 8 = .ok (.iload_n 0, 1) := by decide +kernel
theorem dX6_within_9 : decode cX6_within 9 = .ok (.bipush 99, 2) := by decide +kernel
theorem dX6_within_11 : decode cX6_within 11 = .ok (.if_icmp .le 8, 3) := by decide +kernel
theorem dX6_within_14 : decode cX6_within 14 = .ok (.bipush 99, 2) := by decide +kernel
theorem dX6_within_16 : decode cX6_within 16 = .ok (.goto 4, 3) := by decide +kernel
theorem dX6_within_19 : decode cX6_within 19 = .ok (.iload_n 0, 1) := by decide +kernel
theorem dX6_within_20 : decode cX6_within 20 = .ok (.ireturn, 1) := by decide +kernel
theorem dX6_size_0 : decode cX6_size 0 = .ok (.iconst 0, 1) := by decide +kernel
theorem dX6_size_1 : decode cX6_size 1 = .ok (.istore_n 1, 1) := by decide +kernel
theorem dX6_size_2 : decode cX6_size 2 = .ok (.iload_n 0, 1) := by decide +kernel
theorem dX6_size_3 : decode cX6_size 3 = .ok (.istore_n 2, 1) := by decide +kernel
theorem dX6_size_4 : decode cX6_size 4 = .ok (.iload_n 2, 1) := by decide +kernel
theorem dX6_size_5 : decode cX6_size 5 = .ok (.ifCond .eq 15, 3) := by decide +kernel
theorem dX6_size_8 : decode cX6_size 8 = .ok (.iinc 1 1, 3) := by decide +kernel
theorem dX6_size_11 : decode cX6_size 11 = .ok (.iload_n 2, 1) := by decide +kernel
theorem dX6_size_12 : decode cX6_size 12 = .ok (.iload_n 2, 1) := by decide +kernel
theorem dX6_size_13 : decode cX6_size 13 = .ok (.iconst 1, 1) := by decide +kernel
theorem dX6_size_14 : decode cX6_size 14 = .ok (.isub, 1) := by decide +kernel
theorem dX6_size_15 : decode cX6_size 15 = .ok (.iand, 1) := by decide +kernel
theorem dX6_size_16 : decode cX6_size 16 = .ok (.istore_n 2, 1) := by decide +kernel
theorem dX6_size_17 : decode cX6_size 17 = .ok (.goto (-13), 3) := by decide +kernel
theorem dX6_size_20 : decode cX6_size 20 = .ok (.iload_n 1, 1) := by decide +kernel
theorem dX6_size_21 : decode cX6_size 21 = .ok (.ireturn, 1) := by decide +kernel
theorem dX6_isUnder_0 : decode cX6_isUnder 0 = .ok (.iload_n 1, 1) := by decide +kernel
theorem dX6_isUnder_1 : decode cX6_isUnder 1 = .ok (.ifCond .eq 28, 3) := by decide +kernel
theorem dX6_isUnder_4 : decode cX6_isUnder 4 = .ok (.iload_n 0, 1) := by decide +kernel
theorem dX6_isUnder_5 : decode cX6_isUnder 5 = .ok (.iload_n 1, 1) := by decide +kernel
theorem dX6_isUnder_6 : decode cX6_isUnder 6 = .ok (.if_icmp .eq 23, 3) := by decide +kernel
theorem dX6_isUnder_9 : decode cX6_isUnder 9 = .ok (.iload_n 1, 1) := by decide +kernel
theorem dX6_isUnder_10 : decode cX6_isUnder 10 = .ok (.iconst 1, 1) := by decide +kernel
theorem dX6_isUnder_11 : decode cX6_isUnder 11 = .ok (.if_icmp .ne 8, 3) := by decide +kernel
theorem dX6_isUnder_14 : decode cX6_isUnder 14 = .ok (.iload_n 0, 1) := by decide +kernel
theorem dX6_isUnder_15 : decode cX6_isUnder 15 = .ok (.iconst 3, 1) := by decide +kernel
theorem dX6_isUnder_16 : decode cX6_isUnder 16 = .ok (.if_icmp .eq 13, 3) := by decide +kernel
theorem dX6_isUnder_19 : decode cX6_isUnder 19 = .ok (.iload_n 1, 1) := by decide +kernel
theorem dX6_isUnder_20 : decode cX6_isUnder 20 = .ok (.iconst 2, 1) := by decide +kernel
theorem dX6_isUnder_21 : decode cX6_isUnder 21 = .ok (.if_icmp .ne 12, 3) := by decide +kernel
theorem dX6_isUnder_24 : decode cX6_isUnder 24 = .ok (.iload_n 0, 1) := by decide +kernel
theorem dX6_isUnder_25 : decode cX6_isUnder 25 = .ok (.iconst 4, 1) := by decide +kernel
theorem dX6_isUnder_26 : decode cX6_isUnder 26 = .ok (.if_icmp .ne 7, 3) := by decide +kernel
theorem dX6_isUnder_29 : decode cX6_isUnder 29 = .ok (.iconst 1, 1) := by decide +kernel
theorem dX6_isUnder_30 : decode cX6_isUnder 30 = .ok (.goto 4, 3) := by decide +kernel
theorem dX6_isUnder_33 : decode cX6_isUnder 33 = .ok (.iconst 0, 1) := by decide +kernel
theorem dX6_isUnder_34 : decode cX6_isUnder 34 = .ok (.ireturn, 1) := by decide +kernel
theorem dX6_feed_0 : decode cX6_feed 0 = .ok (.iload_n 3, 1) := by decide +kernel
theorem dX6_feed_1 : decode cX6_feed 1 = .ok (.i2l, 1) := by decide +kernel
theorem dX6_feed_2 : decode cX6_feed 2 = .ok (.lconst 1, 1) := by decide +kernel
theorem dX6_feed_3 : decode cX6_feed 3 = .ok (.ldc2_w 52, 3) := by decide +kernel
theorem dX6_feed_6 : decode cX6_feed 6 = .ok (.invokestatic 54, 3) := by decide +kernel
theorem dX6_feed_9 : decode cX6_feed 9 = .ok (.ifCond .ne 5, 3) := by decide +kernel
theorem dX6_feed_12 : decode cX6_feed 12 = .ok (.iconst (-1), 1) := by decide +kernel
theorem dX6_feed_13 : decode cX6_feed 13 = .ok (.ireturn, 1) := by decide +kernel
theorem dX6_feed_14 : decode cX6_feed 14 = .ok (.aload_n 0, 1) := by decide +kernel
theorem dX6_feed_15 : decode cX6_feed 15 = .ok (.getfield 58, 3) := by decide +kernel
theorem dX6_feed_18 : decode cX6_feed 18 = .ok (.iload_n 3, 1) := by decide +kernel
theorem dX6_feed_19 : decode cX6_feed 19 = .ok (.iadd, 1) := by decide +kernel
theorem dX6_feed_20 : decode cX6_feed 20 = .ok (.sipush 200, 3) := by decide +kernel
theorem dX6_feed_23 : decode cX6_feed 23 = .ok (.if_icmp .le 6, 3) := by decide +kernel
theorem dX6_feed_26 : decode cX6_feed 26 = .ok (.bipush (-2), 2) := by decide +kernel
theorem dX6_feed_28 : decode cX6_feed 28 = .ok (.ireturn, 1) := by decide +kernel
theorem dX6_feed_29 : decode cX6_feed 29 = .ok (.iconst 0, 1) := by decide +kernel
theorem dX6_feed_30 : decode cX6_feed 30 = .ok (.istore 4, 2) := by decide +kernel
theorem dX6_feed_32 : decode cX6_feed 32 = .ok (.iload 4, 2) := by decide +kernel
theorem dX6_feed_34 : decode cX6_feed 34 = .ok (.iload_n 3, 1) := by decide +kernel
theorem dX6_feed_35 : decode cX6_feed 35 = .ok (.if_icmp .ge 40, 3) := by decide +kernel
theorem dX6_feed_38 : decode cX6_feed 38 = .ok (.aload_n 0, 1) := by decide +kernel
theorem dX6_feed_39 : decode cX6_feed 39 = .ok (.getfield 22, 3) := by decide +kernel
theorem dX6_feed_42 : decode cX6_feed 42 = .ok (.aload_n 0, 1) := by decide +kernel
theorem dX6_feed_43 : decode cX6_feed 43 = .ok (.getfield 58, 3) := by decide +kernel
theorem dX6_feed_46 : decode cX6_feed 46 = .ok (.lload_n 1, 1) := by decide +kernel
theorem dX6_feed_47 : decode cX6_feed 47 = .ok (.bipush 8, 2) := by decide +kernel
theorem dX6_feed_49 : decode cX6_feed 49 = .ok (.iload 4, 2) := by decide +kernel
theorem dX6_feed_51 : decode cX6_feed 51 = .ok (.imul, 1) := by decide +kernel
theorem dX6_feed_52 : decode cX6_feed 52 = .ok (.lshr, 1) := by decide +kernel
theorem dX6_feed_53 : decode cX6_feed 53 = .ok (.ldc2_w 62, 3) := by decide +kernel
theorem dX6_feed_56 : decode cX6_feed 56 = .ok (.land, 1) := by decide +kernel
theorem dX6_feed_57 : decode cX6_feed 57 = .ok (.l2i, 1) := by decide +kernel
theorem dX6_feed_58 : decode cX6_feed 58 = .ok (.iastore, 1) := by decide +kernel
theorem dX6_feed_59 : decode cX6_feed 59 = .ok (.aload_n 0, 1) := by decide +kernel
theorem dX6_feed_60 : decode cX6_feed 60 = .ok (.dup, 1) := by decide +kernel
theorem dX6_feed_61 : decode cX6_feed 61 = .ok (.getfield 58, 3) := by decide +kernel
theorem dX6_feed_64 : decode cX6_feed 64 = .ok (.iconst 1, 1) := by decide +kernel
theorem dX6_feed_65 : decode cX6_feed 65 = .ok (.iadd, 1) := by decide +kernel
theorem dX6_feed_66 : decode cX6_feed 66 = .ok (.putfield 58, 3) := by decide +kernel
theorem dX6_feed_69 : decode cX6_feed 69 = .ok (.iinc 4 1, 3) := by decide +kernel
theorem dX6_feed_72 : decode cX6_feed 72 = .ok (.goto (-40), 3) := by decide +kernel
theorem dX6_feed_75 : decode cX6_feed 75 = .ok (.aload_n 0, 1) := by decide +kernel
theorem dX6_feed_76 : decode cX6_feed 76 = .ok (.getfield 58, 3) := by decide +kernel
theorem dX6_feed_79 : decode cX6_feed 79 = .ok (.ireturn, 1) := by decide +kernel
theorem dX6_isAlpha_0 : decode cX6_isAlpha 0 = .ok (.iload_n 0, 1) := by decide +kernel
theorem dX6_isAlpha_1 : decode cX6_isAlpha 1 = .ok (.bipush 97, 2) := by decide +kernel
theorem dX6_isAlpha_3 : decode cX6_isAlpha 3 = .ok (.if_icmp .lt 13, 3) := by decide +kernel
theorem dX6_isAlpha_6 : decode cX6_isAlpha 6 = .ok (.iload_n 0, 1) := by decide +kernel
theorem dX6_isAlpha_7 : decode cX6_isAlpha 7 = .ok (.bipush 122, 2) := by decide +kernel
theorem dX6_isAlpha_9 : decode cX6_isAlpha 9 = .ok (.if_icmp .gt 7, 3) := by decide +kernel
theorem dX6_isAlpha_12 : decode cX6_isAlpha 12 = .ok (.iconst 1, 1) := by decide +kernel
theorem dX6_isAlpha_13 : decode cX6_isAlpha 13 = .ok (.goto 4, 3) := by decide +kernel
theorem dX6_isAlpha_16 : decode cX6_isAlpha 16 = .ok (.iconst 0, 1) := by decide +kernel
theorem dX6_isAlpha_17 : decode cX6_isAlpha 17 = .ok (.ireturn, 1) := by decide +kernel
theorem dX6_isDigit_0 : decode cX6_isDigit 0 = .ok (.iload_n 0, 1) := by decide +kernel
theorem dX6_isDigit_1 : decode cX6_isDigit 1 = .ok (.bipush 48, 2) := by decide +kernel
theorem dX6_isDigit_3 : decode cX6_isDigit 3 = .ok (.if_icmp .lt 13, 3) := by decide +kernel
theorem dX6_isDigit_6 : decode cX6_isDigit 6 = .ok (.iload_n 0, 1) := by decide +kernel
theorem dX6_isDigit_7 : decode cX6_isDigit 7 = .ok (.bipush 57, 2) := by decide +kernel
theorem dX6_isDigit_9 : decode cX6_isDigit 9 = .ok (.if_icmp .gt 7, 3) := by decide +kernel
theorem dX6_isDigit_12 : decode cX6_isDigit 12 = .ok (.iconst 1, 1) := by decide +kernel
theorem dX6_isDigit_13 : decode cX6_isDigit 13 = .ok (.goto 4, 3) := by decide +kernel
theorem dX6_isDigit_16 : decode cX6_isDigit 16 = .ok (.iconst 0, 1) := by decide +kernel
theorem dX6_isDigit_17 : decode cX6_isDigit 17 = .ok (.ireturn, 1) := by decide +kernel
theorem dX6_byteAt_0 : decode cX6_byteAt 0 = .ok (.iload_n 1, 1) := by decide +kernel
theorem dX6_byteAt_1 : decode cX6_byteAt 1 = .ok (.aload_n 0, 1) := by decide +kernel
theorem dX6_byteAt_2 : decode cX6_byteAt 2 = .ok (.getfield 58, 3) := by decide +kernel
theorem dX6_byteAt_5 : decode cX6_byteAt 5 = .ok (.if_icmp .ge 12, 3) := by decide +kernel
theorem dX6_byteAt_8 : decode cX6_byteAt 8 = .ok (.aload_n 0, 1) := by decide +kernel
theorem dX6_byteAt_9 : decode cX6_byteAt 9 = .ok (.getfield 22, 3) := by decide +kernel
theorem dX6_byteAt_12 : decode cX6_byteAt 12 = .ok (.iload_n 1, 1) := by decide +kernel
theorem dX6_byteAt_13 : decode cX6_byteAt 13 = .ok (.iaload, 1) := by decide +kernel
theorem dX6_byteAt_14 : decode cX6_byteAt 14 = .ok (.goto 4, 3) := by decide +kernel
theorem dX6_byteAt_17 : decode cX6_byteAt 17 = .ok (.iconst (-1), 1) := by decide +kernel
theorem dX6_byteAt_18 : decode cX6_byteAt 18 = .ok (.ireturn, 1) := by decide +kernel
theorem dX6_nextToken_0 : decode cX6_nextToken 0 = .ok (.aload_n 0, 1) := by decide +kernel
theorem dX6_nextToken_1 : decode cX6_nextToken 1 = .ok (.aload_n 0, 1) := by decide +kernel
theorem dX6_nextToken_2 : decode cX6_nextToken 2 = .ok (.getfield 64, 3) := by decide +kernel
theorem dX6_nextToken_5 : decode cX6_nextToken 5 = .ok (.putfield 67, 3) := by decide +kernel
theorem dX6_nextToken_8 : decode cX6_nextToken 8 = .ok (.aload_n 0, 1) := by decide +kernel
theorem dX6_nextToken_9 : decode cX6_nextToken 9 = .ok (.aload_n 0, 1) := by decide +kernel
theorem dX6_nextToken_10 : decode cX6_nextToken 10 = .ok (.getfield 67, 3) := by decide +kernel
theorem dX6_nextToken_13 : decode cX6_nextToken 13 = .ok (.invokevirtual 70, 3) := by decide +kernel
theorem dX6_nextToken_16 : decode cX6_nextToken 16 = .ok (.bipush 32, 2) := by decide +kernel
theorem dX6_nextToken_18 : decode cX6_nextToken 18 = .ok (.if_icmp .ne 16, 3) := by decide +kernel
theorem dX6_nextToken_21 : decode cX6_nextToken 21 = .ok (.aload_n 0, 1) := by decide +kernel
theorem dX6_nextToken_22 : decode cX6_nextToken 22 = .ok (.dup, 1) := by decide +kernel
theorem dX6_nextToken_23 : decode cX6_nextToken 23 = .ok (.getfield 67, 3) := by decide +kernel
theorem dX6_nextToken_26 : decode cX6_nextToken 26 = .ok (.iconst 1, 1) := by decide +kernel
theorem dX6_nextToken_27 : decode cX6_nextToken 27 = .ok (.iadd, 1) := by decide +kernel
theorem dX6_nextToken_28 : decode cX6_nextToken 28 = .ok (.putfield 67, 3) := by decide +kernel
theorem dX6_nextToken_31 : decode cX6_nextToken 31 = .ok (.goto (-23), 3) := by decide +kernel
theorem dX6_nextToken_34 : decode cX6_nextToken 34 = .ok (.aload_n 0, 1) := by decide +kernel
theorem dX6_nextToken_35 : decode cX6_nextToken 35 = .ok (.aload_n 0, 1) := by decide +kernel
theorem dX6_nextToken_36 : decode cX6_nextToken 36 = .ok (.getfield 67, 3) := by decide +kernel
theorem dX6_nextToken_39 : decode cX6_nextToken 39 = .ok (.putfield 64, 3) := by decide +kernel
theorem dX6_nextToken_42 : decode cX6_nextToken 42 = .ok (.aload_n 0, 1) := by decide +kernel
theorem dX6_nextToken_43 : decode cX6_nextToken 43 = .ok (.aload_n 0, 1) := by decide +kernel
theorem dX6_nextToken_44 : decode cX6_nextToken 44 = .ok (.getfield 67, 3) := by decide +kernel
theorem dX6_nextToken_47 : decode cX6_nextToken 47 = .ok (.invokevirtual 70, 3) := by decide +kernel
theorem dX6_nextToken_50 : decode cX6_nextToken 50 = .ok (.istore_n 1, 1) := by decide +kernel
theorem dX6_nextToken_51 : decode cX6_nextToken 51 = .ok (.aload_n 0, 1) := by decide +kernel
theorem dX6_nextToken_52 : decode cX6_nextToken 52 = .ok (.iload_n 1, 1) := by decide +kernel
theorem dX6_nextToken_53 : decode cX6_nextToken 53 = .ok (.ifCond .ge 7, 3) := by decide +kernel
theorem dX6_nextToken_56 : decode cX6_nextToken 56 = .ok (.iconst 0, 1) := by decide +kernel
theorem dX6_nextToken_57 : decode cX6_nextToken 57 = .ok (.goto 26, 3) := by decide +kernel
theorem dX6_nextToken_60 : decode cX6_nextToken 60 = .ok (.iload_n 1, 1) := by decide +kernel
theorem dX6_nextToken_61 : decode cX6_nextToken 61 = .ok (.invokestatic 74, 3) := by decide +kernel
theorem dX6_nextToken_64 : decode cX6_nextToken 64 = .ok (.ifCond .eq 7, 3) := by decide +kernel
theorem dX6_nextToken_67 : decode cX6_nextToken 67 = .ok (.iconst 1, 1) := by decide +kernel
theorem dX6_nextToken_68 : decode cX6_nextToken 68 = .ok (.goto 15, 3) := by decide +kernel
theorem dX6_nextToken_71 : decode cX6_nextToken 71 = .ok (.iload_n 1, 1) := by decide +kernel
theorem dX6_nextToken_72 : decode cX6_nextToken 72 = .ok (.invokestatic 78, 3) := by decide +kernel
theorem dX6_nextToken_75 : decode cX6_nextToken 75 = .ok (.ifCond .eq 7, 3) := by decide +kernel
theorem dX6_nextToken_78 : decode cX6_nextToken 78 = .ok (.iconst 2, 1) := by decide +kernel
theorem dX6_nextToken_79 : decode cX6_nextToken 79 = .ok (.goto 4, 3) := by decide +kernel
theorem dX6_nextToken_82 : decode cX6_nextToken 82 = .ok (.iconst 3, 1) := by decide +kernel
theorem dX6_nextToken_83 : decode cX6_nextToken 83 = .ok (.putfield 81, 3) := by decide +kernel
theorem dX6_nextToken_86 : decode cX6_nextToken 86 = .ok (.aload_n 0, 1) := by decide +kernel
theorem dX6_nextToken_87 : decode cX6_nextToken 87 = .ok (.iconst 0, 1) := by decide +kernel
theorem dX6_nextToken_88 : decode cX6_nextToken 88 = .ok (.putfield 84, 3) := by decide +kernel
theorem dX6_nextToken_91 : decode cX6_nextToken 91 = .ok (.aload_n 0, 1) := by decide +kernel
theorem dX6_nextToken_92 : decode cX6_nextToken 92 = .ok (.getfield 81, 3) := by decide +kernel
theorem dX6_nextToken_95 : decode cX6_nextToken 95 = .ok (.iconst 1, 1) := by decide +kernel
theorem dX6_nextToken_96 : decode cX6_nextToken 96 = .ok (.if_icmp .ne 30, 3) := by decide +kernel
theorem dX6_nextToken_99 : decode cX6_nextToken 99 = .ok (.aload_n 0, 1) := by decide +kernel
theorem dX6_nextToken_100 : decode cX6_nextToken 100 = .ok (.aload_n 0, 1) := by decide +kernel
theorem dX6_nextToken_101 : decode cX6_nextToken 101 = .ok (.getfield 64, 3) := by decide +kernel
theorem dX6_nextToken_104 : decode cX6_nextToken 104 = .ok (.invokevirtual 70, 3) := by decide +kernel
theorem dX6_nextToken_107 : decode cX6_nextToken 107 = .ok (.invokestatic 74, 3) := by decide +kernel
theorem dX6_nextToken_110 : decode cX6_nextToken 110 = .ok (.ifCond .eq 16, 3) := by decide +kernel
theorem dX6_nextToken_113 : decode cX6_nextToken 113 = .ok (.aload_n 0, 1) := by decide +kernel
theorem dX6_nextToken_114 : decode cX6_nextToken 114 = .ok (.dup, 1) := by decide +kernel
theorem dX6_nextToken_115 : decode cX6_nextToken 115 = .ok (.getfield 64, 3) := by decide +kernel
theorem dX6_nextToken_118 : decode cX6_nextToken 118 = .ok (.iconst 1, 1) := by decide +kernel
theorem dX6_nextToken_119 : decode cX6_nextToken 119 = .ok (.iadd, 1) := by decide +kernel
theorem dX6_nextToken_120 : decode cX6_nextToken 120 = .ok (.putfield 64, 3) := by decide +kernel
theorem dX6_nextToken_123 : decode cX6_nextToken 123 = .ok (.goto (-32), 3) := by decide +kernel
theorem dX6_nextToken_126 : decode cX6_nextToken 126 = .ok (.aload_n 0, 1) := by decide +kernel
theorem dX6_nextToken_127 : decode cX6_nextToken 127 = .ok (.getfield 81, 3) := by decide +kernel
theorem dX6_nextToken_130 : decode cX6_nextToken 130 = .ok (.iconst 2, 1) := by decide +kernel
theorem dX6_nextToken_131 : decode cX6_nextToken 131 = .ok (.if_icmp .ne 70, 3) := by decide +kernel
theorem dX6_nextToken_134 : decode cX6_nextToken 134 = .ok (.aload_n 0, 1) := by decide +kernel
theorem dX6_nextToken_135 : decode cX6_nextToken 135 = .ok (.aload_n 0, 1) := by decide +kernel
theorem dX6_nextToken_136 : decode cX6_nextToken 136 = .ok (.getfield 64, 3) := by decide +kernel
theorem dX6_nextToken_139 : decode cX6_nextToken 139 = .ok (.invokevirtual 70, 3) := by decide +kernel
theorem dX6_nextToken_142 : decode cX6_nextToken 142 = .ok (.invokestatic 78, 3) := by decide +kernel
theorem dX6_nextToken_145 : decode cX6_nextToken 145 = .ok (.ifCond .eq 56, 3) := by decide +kernel
theorem dX6_nextToken_148 : decode cX6_nextToken 148 = .ok (.aload_n 0, 1) := by decide +kernel
theorem dX6_nextToken_149 : decode cX6_nextToken 149 = .ok (.aload_n 0, 1) := by decide +kernel
theorem dX6_nextToken_150 : decode cX6_nextToken 150 = .ok (.getfield 84, 3) := by decide +kernel
theorem dX6_nextToken_153 : decode cX6_nextToken 153 = .ok (.sipush 999, 3) := by decide +kernel
theorem dX6_nextToken_156 : decode cX6_nextToken 156 = .ok (.if_icmp .le 10, 3) := by decide +kernel
theorem dX6_nextToken_159 : decode cX6_nextToken 159 = .ok (.aload_n 0, 1) := by decide +kernel
theorem dX6_nextToken_160 : decode cX6_nextToken 160 = .ok (.getfield 84, 3) := by decide +kernel
theorem dX6_nextToken_163 : decode cX6_nextToken 163 = .ok (.goto 22, 3) := by decide +kernel
theorem dX6_nextToken_166 : decode cX6_nextToken 166 = .ok (.bipush 10, 2) := by decide +kernel
theorem dX6_nextToken_168 : decode cX6_nextToken 168 = .ok (.aload_n 0, 1) := by decide +kernel
theorem dX6_nextToken_169 : decode cX6_nextToken 169 = .ok (.getfield 84, 3) := by decide +kernel
theorem dX6_nextToken_172 : decode cX6_nextToken 172 = .ok (.imul, 1) := by decide +kernel
theorem dX6_nextToken_173 : decode cX6_nextToken 173 = .ok (.aload_n 0, 1) := by decide +kernel
theorem dX6_nextToken_174 : decode cX6_nextToken 174 = .ok (.aload_n 0, 1) := by decide +kernel
theorem dX6_nextToken_175 : decode cX6_nextToken 175 = .ok (.getfield 64, 3) := by decide +kernel
theorem dX6_nextToken_178 : decode cX6_nextToken 178 = .ok (.invokevirtual 70, 3) := by decide +kernel
theorem dX6_nextToken_181 : decode cX6_nextToken 181 = .ok (.iadd, 1) := by decide +kernel
theorem dX6_nextToken_182 : decode cX6_nextToken 182 = .ok (.bipush 48, 2) := by decide +kernel
theorem dX6_nextToken_184 : decode cX6_nextToken 184 = .ok (.isub, 1) := by decide +kernel
theorem dX6_nextToken_185 : decode cX6_nextToken 185 = .ok (.putfield 84, 3) := by decide +kernel
theorem dX6_nextToken_188 : decode cX6_nextToken 188 = .ok (.aload_n 0, 1) := by decide +kernel
theorem dX6_nextToken_189 : decode cX6_nextToken 189 = .ok (.dup, 1) := by decide +kernel
theorem dX6_nextToken_190 : decode cX6_nextToken 190 = .ok (.getfield 64, 3) := by decide +kernel
theorem dX6_nextToken_193 : decode cX6_nextToken 193 = .ok (.iconst 1, 1) := by decide +kernel
theorem dX6_nextToken_194 : decode cX6_nextToken 194 = .ok (.iadd, 1) := by decide +kernel
theorem dX6_nextToken_195 : decode cX6_nextToken 195 = .ok (.putfield 64, 3) := by decide +kernel
theorem dX6_nextToken_198 : decode cX6_nextToken 198 = .ok (.goto (-72), 3) := by decide +kernel
theorem dX6_nextToken_201 : decode cX6_nextToken 201 = .ok (.aload_n 0, 1) := by decide +kernel
theorem dX6_nextToken_202 : decode cX6_nextToken 202 = .ok (.dup, 1) := by decide +kernel
theorem dX6_nextToken_203 : decode cX6_nextToken 203 = .ok (.getfield 64, 3) := by decide +kernel
theorem dX6_nextToken_206 : decode cX6_nextToken 206 = .ok (.aload_n 0, 1) := by decide +kernel
theorem dX6_nextToken_207 : decode cX6_nextToken 207 = .ok (.getfield 81, 3) := by decide +kernel
theorem dX6_nextToken_210 : decode cX6_nextToken 210 = .ok (.iconst 2, 1) := by decide +kernel
theorem dX6_nextToken_211 : decode cX6_nextToken 211 = .ok (.if_icmp .le 7, 3) := by decide +kernel
theorem dX6_nextToken_214 : decode cX6_nextToken 214 = .ok (.iconst 1, 1) := by decide +kernel
theorem dX6_nextToken_215 : decode cX6_nextToken 215 = .ok (.goto 4, 3) := by decide +kernel
theorem dX6_nextToken_218 : decode cX6_nextToken 218 = .ok (.iconst 0, 1) := by decide +kernel
theorem dX6_nextToken_219 : decode cX6_nextToken 219 = .ok (.iadd, 1) := by decide +kernel
theorem dX6_nextToken_220 : decode cX6_nextToken 220 = .ok (.putfield 64, 3) := by decide +kernel
theorem dX6_nextToken_223 : decode cX6_nextToken 223 = .ok (.return_, 1) := by decide +kernel
theorem dX6_needs_0 : decode cX6_needs 0 = .ok (.aload_n 0, 1) := by decide +kernel
theorem dX6_needs_1 : decode cX6_needs 1 = .ok (.aload_n 0, 1) := by decide +kernel
theorem dX6_needs_2 : decode cX6_needs 2 = .ok (.getfield 87, 3) := by decide +kernel
theorem dX6_needs_5 : decode cX6_needs 5 = .ok (.ifCond .ne 7, 3) := by decide +kernel
theorem dX6_needs_8 : decode cX6_needs 8 = .ok (.iload_n 1, 1) := by decide +kernel
theorem dX6_needs_9 : decode cX6_needs 9 = .ok (.ifCond .ne 7, 3) := by decide +kernel
theorem dX6_needs_12 : decode cX6_needs 12 = .ok (.iconst 1, 1) := by decide +kernel
theorem dX6_needs_13 : decode cX6_needs 13 = .ok (.goto 4, 3) := by decide +kernel
theorem dX6_needs_16 : decode cX6_needs 16 = .ok (.iconst 0, 1) := by decide +kernel
theorem dX6_needs_17 : decode cX6_needs 17 = .ok (.putfield 87, 3) := by decide +kernel
theorem dX6_needs_20 : decode cX6_needs 20 = .ok (.aload_n 0, 1) := by decide +kernel
theorem dX6_needs_21 : decode cX6_needs 21 = .ok (.getfield 87, 3) := by decide +kernel
theorem dX6_needs_24 : decode cX6_needs 24 = .ok (.ifCond .ne 7, 3) := by decide +kernel
theorem dX6_needs_27 : decode cX6_needs 27 = .ok (.aload_n 0, 1) := by decide +kernel
theorem dX6_needs_28 : decode cX6_needs 28 = .ok (.invokevirtual 91, 3) := by decide +kernel
theorem dX6_needs_31 : decode cX6_needs 31 = .ok (.return_, 1) := by decide +kernel
theorem dX6_isName_0 : decode cX6_isName 0 = .ok (.aload_n 0, 1) := by decide +kernel
theorem dX6_isName_1 : decode cX6_isName 1 = .ok (.getfield 81, 3) := by decide +kernel
theorem dX6_isName_4 : decode cX6_isName 4 = .ok (.iconst 1, 1) := by decide +kernel
theorem dX6_isName_5 : decode cX6_isName 5 = .ok (.if_icmp .ne 76, 3) := by decide +kernel
theorem dX6_isName_8 : decode cX6_isName 8 = .ok (.aload_n 0, 1) := by decide +kernel
theorem dX6_isName_9 : decode cX6_isName 9 = .ok (.getfield 64, 3) := by decide +kernel
theorem dX6_isName_12 : decode cX6_isName 12 = .ok (.aload_n 0, 1) := by decide +kernel
theorem dX6_isName_13 : decode cX6_isName 13 = .ok (.getfield 67, 3) := by decide +kernel
theorem dX6_isName_16 : decode cX6_isName 16 = .ok (.isub, 1) := by decide +kernel
theorem dX6_isName_17 : decode cX6_isName 17 = .ok (.iload_n 1, 1) := by decide +kernel
theorem dX6_isName_18 : decode cX6_isName 18 = .ok (.if_icmp .ne 63, 3) := by decide +kernel
theorem dX6_isName_21 : decode cX6_isName 21 = .ok (.aload_n 0, 1) := by decide +kernel
theorem dX6_isName_22 : decode cX6_isName 22 = .ok (.aload_n 0, 1) := by decide +kernel
theorem dX6_isName_23 : decode cX6_isName 23 = .ok (.getfield 67, 3) := by decide +kernel
theorem dX6_isName_26 : decode cX6_isName 26 = .ok (.invokevirtual 70, 3) := by decide +kernel
theorem dX6_isName_29 : decode cX6_isName 29 = .ok (.iload_n 2, 1) := by decide +kernel
theorem dX6_isName_30 : decode cX6_isName 30 = .ok (.if_icmp .ne 51, 3) := by decide +kernel
theorem dX6_isName_33 : decode cX6_isName 33 = .ok (.aload_n 0, 1) := by decide +kernel
theorem dX6_isName_34 : decode cX6_isName 34 = .ok (.aload_n 0, 1) := by decide +kernel
theorem dX6_isName_35 : decode cX6_isName 35 = .ok (.getfield 67, 3) := by decide +kernel
theorem dX6_isName_38 : decode cX6_isName 38 = .ok (.iconst 1, 1) := by decide +kernel
theorem dX6_isName_39 : decode cX6_isName 39 = .ok (.iadd, 1) := by decide +kernel
theorem dX6_isName_40 : decode cX6_isName 40 = .ok (.invokevirtual 70, 3) := by decide +kernel
theorem dX6_isName_43 : decode cX6_isName 43 = .ok (.iload_n 3, 1) := by decide +kernel
theorem dX6_isName_44 : decode cX6_isName 44 = .ok (.if_icmp .ne 37, 3) := by decide +kernel
theorem dX6_isName_47 : decode cX6_isName 47 = .ok (.aload_n 0, 1) := by decide +kernel
theorem dX6_isName_48 : decode cX6_isName 48 = .ok (.aload_n 0, 1) := by decide +kernel
theorem dX6_isName_49 : decode cX6_isName 49 = .ok (.getfield 67, 3) := by decide +kernel
theorem dX6_isName_52 : decode cX6_isName 52 = .ok (.iconst 2, 1) := by decide +kernel
theorem dX6_isName_53 : decode cX6_isName 53 = .ok (.iadd, 1) := by decide +kernel
theorem dX6_isName_54 : decode cX6_isName 54 = .ok (.invokevirtual 70, 3) := by decide +kernel
theorem dX6_isName_57 : decode cX6_isName 57 = .ok (.iload 4, 2) := by decide +kernel
theorem dX6_isName_59 : decode cX6_isName 59 = .ok (.if_icmp .ne 22, 3) := by decide +kernel
theorem dX6_isName_62 : decode cX6_isName 62 = .ok (.aload_n 0, 1) := by decide +kernel
theorem dX6_isName_63 : decode cX6_isName 63 = .ok (.aload_n 0, 1) := by decide +kernel
theorem dX6_isName_64 : decode cX6_isName 64 = .ok (.getfield 64, 3) := by decide +kernel
theorem dX6_isName_67 : decode cX6_isName 67 = .ok (.iconst 1, 1) := by decide +kernel
theorem dX6_isName_68 : decode cX6_isName 68 = .ok (.isub, 1) := by decide +kernel
theorem dX6_isName_69 : decode cX6_isName 69 = .ok (.invokevirtual 70, 3) := by decide +kernel
theorem dX6_isName_72 : decode cX6_isName 72 = .ok (.iload 5, 2) := by decide +kernel
theorem dX6_isName_74 : decode cX6_isName 74 = .ok (.if_icmp .ne 7, 3) := by decide +kernel
theorem dX6_isName_77 : decode cX6_isName 77 = .ok (.iconst 1, 1) := by decide +kernel
theorem dX6_isName_78 : decode cX6_isName 78 = .ok (.goto 4, 3) := by decide +kernel
theorem dX6_isName_81 : decode cX6_isName 81 = .ok (.iconst 0, 1) := by decide +kernel
theorem dX6_isName_82 : decode cX6_isName 82 = .ok (.ireturn, 1) := by decide +kernel
theorem dX6_isSame_0 : decode cX6_isSame 0 = .ok (.aload_n 0, 1) := by decide +kernel
theorem dX6_isSame_1 : decode cX6_isSame 1 = .ok (.aload_n 0, 1) := by decide +kernel
theorem dX6_isSame_2 : decode cX6_isSame 2 = .ok (.getfield 67, 3) := by decide +kernel
theorem dX6_isSame_5 : decode cX6_isSame 5 = .ok (.iload_n 1, 1) := by decide +kernel
theorem dX6_isSame_6 : decode cX6_isSame 6 = .ok (.iadd, 1) := by decide +kernel
theorem dX6_isSame_7 : decode cX6_isSame 7 = .ok (.invokevirtual 70, 3) := by decide +kernel
theorem dX6_isSame_10 : decode cX6_isSame 10 = .ok (.iload_n 2, 1) := by decide +kernel
theorem dX6_isSame_11 : decode cX6_isSame 11 = .ok (.if_icmp .ne 40, 3) := by decide +kernel
theorem dX6_isSame_14 : decode cX6_isSame 14 = .ok (.aload_n 0, 1) := by decide +kernel
theorem dX6_isSame_15 : decode cX6_isSame 15 = .ok (.aload_n 0, 1) := by decide +kernel
theorem dX6_isSame_16 : decode cX6_isSame 16 = .ok (.getfield 67, 3) := by decide +kernel
theorem dX6_isSame_19 : decode cX6_isSame 19 = .ok (.iload_n 1, 1) := by decide +kernel
theorem dX6_isSame_20 : decode cX6_isSame 20 = .ok (.iadd, 1) := by decide +kernel
theorem dX6_isSame_21 : decode cX6_isSame 21 = .ok (.iconst 1, 1) := by decide +kernel
theorem dX6_isSame_22 : decode cX6_isSame 22 = .ok (.iadd, 1) := by decide +kernel
theorem dX6_isSame_23 : decode cX6_isSame 23 = .ok (.invokevirtual 70, 3) := by decide +kernel
theorem dX6_isSame_26 : decode cX6_isSame 26 = .ok (.iload_n 3, 1) := by decide +kernel
theorem dX6_isSame_27 : decode cX6_isSame 27 = .ok (.if_icmp .ne 24, 3) := by decide +kernel
theorem dX6_isSame_30 : decode cX6_isSame 30 = .ok (.aload_n 0, 1) := by decide +kernel
theorem dX6_isSame_31 : decode cX6_isSame 31 = .ok (.aload_n 0, 1) := by decide +kernel
theorem dX6_isSame_32 : decode cX6_isSame 32 = .ok (.getfield 67, 3) := by decide +kernel
theorem dX6_isSame_35 : decode cX6_isSame 35 = .ok (.iload_n 1, 1) := by decide +kernel
theorem dX6_isSame_36 : decode cX6_isSame 36 = .ok (.iadd, 1) := by decide +kernel
theorem dX6_isSame_37 : decode cX6_isSame 37 = .ok (.iconst 2, 1) := by decide +kernel
theorem dX6_isSame_38 : decode cX6_isSame 38 = .ok (.iadd, 1) := by decide +kernel
theorem dX6_isSame_39 : decode cX6_isSame 39 = .ok (.invokevirtual 70, 3) := by decide +kernel
theorem dX6_isSame_42 : decode cX6_isSame 42 = .ok (.iload 4, 2) := by decide +kernel
theorem dX6_isSame_44 : decode cX6_isSame 44 = .ok (.if_icmp .ne 7, 3) := by decide +kernel
theorem dX6_isSame_47 : decode cX6_isSame 47 = .ok (.iconst 1, 1) := by decide +kernel
theorem dX6_isSame_48 : decode cX6_isSame 48 = .ok (.goto 4, 3) := by decide +kernel
theorem dX6_isSame_51 : decode cX6_isSame 51 = .ok (.iconst 0, 1) := by decide +kernel
theorem dX6_isSame_52 : decode cX6_isSame 52 = .ok (.ireturn, 1) := by decide +kernel
theorem dX6_isFour_0 : decode cX6_isFour 0 = .ok (.aload_n 0, 1) := by decide +kernel
theorem dX6_isFour_1 : decode cX6_isFour 1 = .ok (.iconst 4, 1) := by decide +kernel
theorem dX6_isFour_2 : decode cX6_isFour 2 = .ok (.iload_n 1, 1) := by decide +kernel
theorem dX6_isFour_3 : decode cX6_isFour 3 = .ok (.iload_n 2, 1) := by decide +kernel
theorem dX6_isFour_4 : decode cX6_isFour 4 = .ok (.iload_n 3, 1) := by decide +kernel
theorem dX6_isFour_5 : decode cX6_isFour 5 = .ok (.iload 4, 2) := by decide +kernel
theorem dX6_isFour_7 : decode cX6_isFour 7 = .ok (.invokevirtual 94, 3) := by decide +kernel
theorem dX6_isFour_10 : decode cX6_isFour 10 = .ok (.ireturn, 1) := by decide +kernel
theorem dX6_isFive_0 : decode cX6_isFive 0 = .ok (.aload_n 0, 1) := by decide +kernel
theorem dX6_isFive_1 : decode cX6_isFive 1 = .ok (.iconst 5, 1) := by decide +kernel
theorem dX6_isFive_2 : decode cX6_isFive 2 = .ok (.iload_n 1, 1) := by decide +kernel
theorem dX6_isFive_3 : decode cX6_isFive 3 = .ok (.iload_n 2, 1) := by decide +kernel
theorem dX6_isFive_4 : decode cX6_isFive 4 = .ok (.iload_n 3, 1) := by decide +kernel
theorem dX6_isFive_5 : decode cX6_isFive 5 = .ok (.iload 5, 2) := by decide +kernel
theorem dX6_isFive_7 : decode cX6_isFive 7 = .ok (.invokevirtual 94, 3) := by decide +kernel
theorem dX6_isFive_10 : decode cX6_isFive 10 = .ok (.ifCond .eq 22, 3) := by decide +kernel
theorem dX6_isFive_13 : decode cX6_isFive 13 = .ok (.aload_n 0, 1) := by decide +kernel
theorem dX6_isFive_14 : decode cX6_isFive 14 = .ok (.aload_n 0, 1) := by decide +kernel
theorem dX6_isFive_15 : decode cX6_isFive 15 = .ok (.getfield 67, 3) := by decide +kernel
theorem dX6_isFive_18 : decode cX6_isFive 18 = .ok (.iconst 3, 1) := by decide +kernel
theorem dX6_isFive_19 : decode cX6_isFive 19 = .ok (.iadd, 1) := by decide +kernel
theorem dX6_isFive_20 : decode cX6_isFive 20 = .ok (.invokevirtual 70, 3) := by decide +kernel
theorem dX6_isFive_23 : decode cX6_isFive 23 = .ok (.iload 4, 2) := by decide +kernel
theorem dX6_isFive_25 : decode cX6_isFive 25 = .ok (.if_icmp .ne 7, 3) := by decide +kernel
theorem dX6_isFive_28 : decode cX6_isFive 28 = .ok (.iconst 1, 1) := by decide +kernel
theorem dX6_isFive_29 : decode cX6_isFive 29 = .ok (.goto 4, 3) := by decide +kernel
theorem dX6_isFive_32 : decode cX6_isFive 32 = .ok (.iconst 0, 1) := by decide +kernel
theorem dX6_isFive_33 : decode cX6_isFive 33 = .ok (.ireturn, 1) := by decide +kernel
theorem dX6_kindHere_0 : decode cX6_kindHere 0 = .ok (.aload_n 0, 1) := by decide +kernel
theorem dX6_kindHere_1 : decode cX6_kindHere 1 = .ok (.bipush 116, 2) := by decide +kernel
theorem dX6_kindHere_3 : decode cX6_kindHere 3 = .ok (.bipush 97, 2) := by decide +kernel
theorem dX6_kindHere_5 : decode cX6_kindHere 5 = .ok (.bipush 108, 2) := by decide +kernel
theorem dX6_kindHere_7 : decode cX6_kindHere 7 = .ok (.bipush 101, 2) := by decide +kernel
theorem dX6_kindHere_9 : decode cX6_kindHere 9 = .ok (.invokevirtual 98, 3) := by decide +kernel
theorem dX6_kindHere_12 : decode cX6_kindHere 12 = .ok (.ifCond .eq 5, 3) := by decide +kernel
theorem dX6_kindHere_15 : decode cX6_kindHere 15 = .ok (.iconst 0, 1) := by decide +kernel
theorem dX6_kindHere_16 : decode cX6_kindHere 16 = .ok (.ireturn, 1) := by decide +kernel
theorem dX6_kindHere_17 : decode cX6_kindHere 17 = .ok (.aload_n 0, 1) := by decide +kernel
theorem dX6_kindHere_18 : decode cX6_kindHere 18 = .ok (.bipush 110, 2) := by decide +kernel
theorem dX6_kindHere_20 : decode cX6_kindHere 20 = .ok (.bipush 101, 2) := by decide +kernel
theorem dX6_kindHere_22 : decode cX6_kindHere 22 = .ok (.bipush 119, 2) := by decide +kernel
theorem dX6_kindHere_24 : decode cX6_kindHere 24 = .ok (.bipush 115, 2) := by decide +kernel
theorem dX6_kindHere_26 : decode cX6_kindHere 26 = .ok (.invokevirtual 98, 3) := by decide +kernel
theorem dX6_kindHere_29 : decode cX6_kindHere 29 = .ok (.ifCond .eq 5, 3) := by decide +kernel
theorem dX6_kindHere_32 : decode cX6_kindHere 32 = .ok (.iconst 1, 1) := by decide +kernel
theorem dX6_kindHere_33 : decode cX6_kindHere 33 = .ok (.ireturn, 1) := by decide +kernel
theorem dX6_kindHere_34 : decode cX6_kindHere 34 = .ok (.aload_n 0, 1) := by decide +kernel
theorem dX6_kindHere_35 : decode cX6_kindHere 35 = .ok (.bipush 6, 2) := by decide +kernel
theorem dX6_kindHere_37 : decode cX6_kindHere 37 = .ok (.bipush 114, 2) := by decide +kernel
theorem dX6_kindHere_39 : decode cX6_kindHere 39 = .ok (.bipush 117, 2) := by decide +kernel
theorem dX6_kindHere_41 : decode cX6_kindHere 41 = .ok (.bipush 109, 2) := by decide +kernel
theorem dX6_kindHere_43 : decode cX6_kindHere 43 = .ok (.bipush 114, 2) := by decide +kernel
theorem dX6_kindHere_45 : decode cX6_kindHere 45 = .ok (.invokevirtual 94, 3) := by decide +kernel
theorem dX6_kindHere_48 : decode cX6_kindHere 48 = .ok (.ifCond .eq 19, 3) := by decide +kernel
theorem dX6_kindHere_51 : decode cX6_kindHere 51 = .ok (.aload_n 0, 1) := by decide +kernel
theorem dX6_kindHere_52 : decode cX6_kindHere 52 = .ok (.iconst 2, 1) := by decide +kernel
theorem dX6_kindHere_53 : decode cX6_kindHere 53 = .ok (.bipush 109, 2) := by decide +kernel
theorem dX6_kindHere_55 : decode cX6_kindHere 55 = .ok (.bipush 111, 2) := by decide +kernel
theorem dX6_kindHere_57 : decode cX6_kindHere 57 = .ok (.bipush 117, 2) := by decide +kernel
theorem dX6_kindHere_59 : decode cX6_kindHere 59 = .ok (.invokevirtual 102, 3) := by decide +kernel
theorem dX6_kindHere_62 : decode cX6_kindHere 62 = .ok (.ifCond .eq 5, 3) := by decide +kernel
theorem dX6_kindHere_65 : decode cX6_kindHere 65 = .ok (.iconst 2, 1) := by decide +kernel
theorem dX6_kindHere_66 : decode cX6_kindHere 66 = .ok (.ireturn, 1) := by decide +kernel
theorem dX6_kindHere_67 : decode cX6_kindHere 67 = .ok (.aload_n 0, 1) := by decide +kernel
theorem dX6_kindHere_68 : decode cX6_kindHere 68 = .ok (.bipush 7, 2) := by decide +kernel
theorem dX6_kindHere_70 : decode cX6_kindHere 70 = .ok (.bipush 115, 2) := by decide +kernel
theorem dX6_kindHere_72 : decode cX6_kindHere 72 = .ok (.bipush 99, 2) := by decide +kernel
theorem dX6_kindHere_74 : decode cX6_kindHere 74 = .ok (.bipush 97, 2) := by decide +kernel
theorem dX6_kindHere_76 : decode cX6_kindHere 76 = .ok (.bipush 108, 2) := by decide +kernel
theorem dX6_kindHere_78 : decode cX6_kindHere 78 = .ok (.invokevirtual 94, 3) := by decide +kernel
theorem dX6_kindHere_81 : decode cX6_kindHere 81 = .ok (.ifCond .eq 19, 3) := by decide +kernel
theorem dX6_kindHere_84 : decode cX6_kindHere 84 = .ok (.aload_n 0, 1) := by decide +kernel
theorem dX6_kindHere_85 : decode cX6_kindHere 85 = .ok (.iconst 3, 1) := by decide +kernel
theorem dX6_kindHere_86 : decode cX6_kindHere 86 = .ok (.bipush 110, 2) := by decide +kernel
theorem dX6_kindHere_88 : decode cX6_kindHere 88 = .ok (.bipush 100, 2) := by decide +kernel
theorem dX6_kindHere_90 : decode cX6_kindHere 90 = .ok (.bipush 97, 2) := by decide +kernel
theorem dX6_kindHere_92 : decode cX6_kindHere 92 = .ok (.invokevirtual 102, 3) := by decide +kernel
theorem dX6_kindHere_95 : decode cX6_kindHere 95 = .ok (.ifCond .eq 5, 3) := by decide +kernel
theorem dX6_kindHere_98 : decode cX6_kindHere 98 = .ok (.iconst 3, 1) := by decide +kernel
theorem dX6_kindHere_99 : decode cX6_kindHere 99 = .ok (.ireturn, 1) := by decide +kernel
theorem dX6_kindHere_100 : decode cX6_kindHere 100 = .ok (.aload_n 0, 1) := by decide +kernel
theorem dX6_kindHere_101 : decode cX6_kindHere 101 = .ok (.bipush 7, 2) := by decide +kernel
theorem dX6_kindHere_103 : decode cX6_kindHere 103 = .ok (.bipush 119, 2) := by decide +kernel
theorem dX6_kindHere_105 : decode cX6_kindHere 105 = .ok (.bipush 104, 2) := by decide +kernel
theorem dX6_kindHere_107 : decode cX6_kindHere 107 = .ok (.bipush 105, 2) := by decide +kernel
theorem dX6_kindHere_109 : decode cX6_kindHere 109 = .ok (.bipush 114, 2) := by decide +kernel
theorem dX6_kindHere_111 : decode cX6_kindHere 111 = .ok (.invokevirtual 94, 3) := by decide +kernel
theorem dX6_kindHere_114 : decode cX6_kindHere 114 = .ok (.ifCond .eq 19, 3) := by decide +kernel
theorem dX6_kindHere_117 : decode cX6_kindHere 117 = .ok (.aload_n 0, 1) := by decide +kernel
theorem dX6_kindHere_118 : decode cX6_kindHere 118 = .ok (.iconst 3, 1) := by decide +kernel
theorem dX6_kindHere_119 : decode cX6_kindHere 119 = .ok (.bipush 115, 2) := by decide +kernel
theorem dX6_kindHere_121 : decode cX6_kindHere 121 = .ok (.bipush 112, 2) := by decide +kernel
theorem dX6_kindHere_123 : decode cX6_kindHere 123 = .ok (.bipush 101, 2) := by decide +kernel
theorem dX6_kindHere_125 : decode cX6_kindHere 125 = .ok (.invokevirtual 102, 3) := by decide +kernel
theorem dX6_kindHere_128 : decode cX6_kindHere 128 = .ok (.ifCond .eq 5, 3) := by decide +kernel
theorem dX6_kindHere_131 : decode cX6_kindHere 131 = .ok (.iconst 4, 1) := by decide +kernel
theorem dX6_kindHere_132 : decode cX6_kindHere 132 = .ok (.ireturn, 1) := by decide +kernel
theorem dX6_kindHere_133 : decode cX6_kindHere 133 = .ok (.aload_n 0, 1) := by decide +kernel
theorem dX6_kindHere_134 : decode cX6_kindHere 134 = .ok (.bipush 116, 2) := by decide +kernel
theorem dX6_kindHere_136 : decode cX6_kindHere 136 = .ok (.bipush 114, 2) := by decide +kernel
theorem dX6_kindHere_138 : decode cX6_kindHere 138 = .ok (.bipush 117, 2) := by decide +kernel
theorem dX6_kindHere_140 : decode cX6_kindHere 140 = .ok (.bipush 116, 2) := by decide +kernel
theorem dX6_kindHere_142 : decode cX6_kindHere 142 = .ok (.bipush 104, 2) := by decide +kernel
theorem dX6_kindHere_144 : decode cX6_kindHere 144 = .ok (.invokevirtual 105, 3) := by decide +kernel
theorem dX6_kindHere_147 : decode cX6_kindHere 147 = .ok (.ifCond .eq 7, 3) := by decide +kernel
theorem dX6_kindHere_150 : decode cX6_kindHere 150 = .ok (.iconst 5, 1) := by decide +kernel
theorem dX6_kindHere_151 : decode cX6_kindHere 151 = .ok (.goto 4, 3) := by decide +kernel
theorem dX6_kindHere_154 : decode cX6_kindHere 154 = .ok (.iconst (-1), 1) := by decide +kernel
theorem dX6_kindHere_155 : decode cX6_kindHere 155 = .ok (.ireturn, 1) := by decide +kernel
theorem dX6_numberTo_0 : decode cX6_numberTo 0 = .ok (.aload_n 0, 1) := by decide +kernel
theorem dX6_numberTo_1 : decode cX6_numberTo 1 = .ok (.getfield 81, 3) := by decide +kernel
theorem dX6_numberTo_4 : decode cX6_numberTo 4 = .ok (.iconst 2, 1) := by decide +kernel
theorem dX6_numberTo_5 : decode cX6_numberTo 5 = .ok (.if_icmp .ne 28, 3) := by decide +kernel
theorem dX6_numberTo_8 : decode cX6_numberTo 8 = .ok (.aload_n 0, 1) := by decide +kernel
theorem dX6_numberTo_9 : decode cX6_numberTo 9 = .ok (.getfield 64, 3) := by decide +kernel
theorem dX6_numberTo_12 : decode cX6_numberTo 12 = .ok (.aload_n 0, 1) := by decide +kernel
theorem dX6_numberTo_13 : decode cX6_numberTo 13 = .ok (.getfield 67, 3) := by decide +kernel
theorem dX6_numberTo_16 : decode cX6_numberTo 16 = .ok (.isub, 1) := by decide +kernel
theorem dX6_numberTo_17 : decode cX6_numberTo 17 = .ok (.iconst 3, 1) := by decide +kernel
theorem dX6_numberTo_18 : decode cX6_numberTo 18 = .ok (.if_icmp .gt 15, 3) := by decide +kernel
theorem dX6_numberTo_21 : decode cX6_numberTo 21 = .ok (.aload_n 0, 1) := by decide +kernel
theorem dX6_numberTo_22 : decode cX6_numberTo 22 = .ok (.getfield 84, 3) := by decide +kernel
theorem dX6_numberTo_25 : decode cX6_numberTo 25 = .ok (.iload_n 2, 1) := by decide +kernel
theorem dX6_numberTo_26 : decode cX6_numberTo 26 = .ok (.if_icmp .gt 7, 3) := by decide +kernel
theorem dX6_numberTo_29 : decode cX6_numberTo 29 = .ok (.iconst 1, 1) := by decide +kernel
theorem dX6_numberTo_30 : decode cX6_numberTo 30 = .ok (.goto 4, 3) := by decide +kernel
theorem dX6_numberTo_33 : decode cX6_numberTo 33 = .ok (.iconst 0, 1) := by decide +kernel
theorem dX6_numberTo_34 : decode cX6_numberTo 34 = .ok (.istore_n 3, 1) := by decide +kernel
theorem dX6_numberTo_35 : decode cX6_numberTo 35 = .ok (.iload_n 3, 1) := by decide +kernel
theorem dX6_numberTo_36 : decode cX6_numberTo 36 = .ok (.ifCond .eq 20, 3) := by decide +kernel
theorem dX6_numberTo_39 : decode cX6_numberTo 39 = .ok (.aload_n 0, 1) := by decide +kernel
theorem dX6_numberTo_40 : decode cX6_numberTo 40 = .ok (.getfield 87, 3) := by decide +kernel
theorem dX6_numberTo_43 : decode cX6_numberTo 43 = .ok (.ifCond .ne 13, 3) := by decide +kernel
theorem dX6_numberTo_46 : decode cX6_numberTo 46 = .ok (.aload_n 0, 1) := by decide +kernel
theorem dX6_numberTo_47 : decode cX6_numberTo 47 = .ok (.getfield 7, 3) := by decide +kernel
theorem dX6_numberTo_50 : decode cX6_numberTo 50 = .ok (.iload_n 1, 1) := by decide +kernel
theorem dX6_numberTo_51 : decode cX6_numberTo 51 = .ok (.aload_n 0, 1) := by decide +kernel
theorem dX6_numberTo_52 : decode cX6_numberTo 52 = .ok (.getfield 84, 3) := by decide +kernel
theorem dX6_numberTo_55 : decode cX6_numberTo 55 = .ok (.iastore, 1) := by decide +kernel
theorem dX6_numberTo_56 : decode cX6_numberTo 56 = .ok (.aload_n 0, 1) := by decide +kernel
theorem dX6_numberTo_57 : decode cX6_numberTo 57 = .ok (.iload_n 3, 1) := by decide +kernel
theorem dX6_numberTo_58 : decode cX6_numberTo 58 = .ok (.invokevirtual 108, 3) := by decide +kernel
theorem dX6_numberTo_61 : decode cX6_numberTo 61 = .ok (.return_, 1) := by decide +kernel
theorem dX6_isTwo_0 : decode cX6_isTwo 0 = .ok (.aload_n 0, 1) := by decide +kernel
theorem dX6_isTwo_1 : decode cX6_isTwo 1 = .ok (.getfield 81, 3) := by decide +kernel
theorem dX6_isTwo_4 : decode cX6_isTwo 4 = .ok (.iconst 1, 1) := by decide +kernel
theorem dX6_isTwo_5 : decode cX6_isTwo 5 = .ok (.if_icmp .ne 46, 3) := by decide +kernel
theorem dX6_isTwo_8 : decode cX6_isTwo 8 = .ok (.aload_n 0, 1) := by decide +kernel
theorem dX6_isTwo_9 : decode cX6_isTwo 9 = .ok (.getfield 64, 3) := by decide +kernel
theorem dX6_isTwo_12 : decode cX6_isTwo 12 = .ok (.aload_n 0, 1) := by decide +kernel
theorem dX6_isTwo_13 : decode cX6_isTwo 13 = .ok (.getfield 67, 3) := by decide +kernel
theorem dX6_isTwo_16 : decode cX6_isTwo 16 = .ok (.isub, 1) := by decide +kernel
theorem dX6_isTwo_17 : decode cX6_isTwo 17 = .ok (.iconst 2, 1) := by decide +kernel
theorem dX6_isTwo_18 : decode cX6_isTwo 18 = .ok (.if_icmp .ne 33, 3) := by decide +kernel
theorem dX6_isTwo_21 : decode cX6_isTwo 21 = .ok (.aload_n 0, 1) := by decide +kernel
theorem dX6_isTwo_22 : decode cX6_isTwo 22 = .ok (.aload_n 0, 1) := by decide +kernel
theorem dX6_isTwo_23 : decode cX6_isTwo 23 = .ok (.getfield 67, 3) := by decide +kernel
theorem dX6_isTwo_26 : decode cX6_isTwo 26 = .ok (.invokevirtual 70, 3) := by decide +kernel
theorem dX6_isTwo_29 : decode cX6_isTwo 29 = .ok (.iload_n 1, 1) := by decide +kernel
theorem dX6_isTwo_30 : decode cX6_isTwo 30 = .ok (.if_icmp .ne 21, 3) := by decide +kernel
theorem dX6_isTwo_33 : decode cX6_isTwo 33 = .ok (.aload_n 0, 1) := by decide +kernel
theorem dX6_isTwo_34 : decode cX6_isTwo 34 = .ok (.aload_n 0, 1) := by decide +kernel
theorem dX6_isTwo_35 : decode cX6_isTwo 35 = .ok (.getfield 67, 3) := by decide +kernel
theorem dX6_isTwo_38 : decode cX6_isTwo 38 = .ok (.iconst 1, 1) := by decide +kernel
theorem dX6_isTwo_39 : decode cX6_isTwo 39 = .ok (.iadd, 1) := by decide +kernel
theorem dX6_isTwo_40 : decode cX6_isTwo 40 = .ok (.invokevirtual 70, 3) := by decide +kernel
theorem dX6_isTwo_43 : decode cX6_isTwo 43 = .ok (.iload_n 2, 1) := by decide +kernel
theorem dX6_isTwo_44 : decode cX6_isTwo 44 = .ok (.if_icmp .ne 7, 3) := by decide +kernel
theorem dX6_isTwo_47 : decode cX6_isTwo 47 = .ok (.iconst 1, 1) := by decide +kernel
theorem dX6_isTwo_48 : decode cX6_isTwo 48 = .ok (.goto 4, 3) := by decide +kernel
theorem dX6_isTwo_51 : decode cX6_isTwo 51 = .ok (.iconst 0, 1) := by decide +kernel
theorem dX6_isTwo_52 : decode cX6_isTwo 52 = .ok (.ireturn, 1) := by decide +kernel
theorem dX6_taleHere_0 : decode cX6_taleHere 0 = .ok (.bipush 31, 2) := by decide +kernel
theorem dX6_taleHere_2 : decode cX6_taleHere 2 = .ok (.iconst 4, 1) := by decide +kernel
theorem dX6_taleHere_3 : decode cX6_taleHere 3 = .ok (.aload_n 0, 1) := by decide +kernel
theorem dX6_taleHere_4 : decode cX6_taleHere 4 = .ok (.getfield 7, 3) := by decide +kernel
theorem dX6_taleHere_7 : decode cX6_taleHere 7 = .ok (.iconst 0, 1) := by decide +kernel
theorem dX6_taleHere_8 : decode cX6_taleHere 8 = .ok (.iaload, 1) := by decide +kernel
theorem dX6_taleHere_9 : decode cX6_taleHere 9 = .ok (.imul, 1) := by decide +kernel
theorem dX6_taleHere_10 : decode cX6_taleHere 10 = .ok (.iadd, 1) := by decide +kernel
theorem dX6_taleHere_11 : decode cX6_taleHere 11 = .ok (.istore_n 2, 1) := by decide +kernel
theorem dX6_taleHere_12 : decode cX6_taleHere 12 = .ok (.aload_n 0, 1) := by decide +kernel
theorem dX6_taleHere_13 : decode cX6_taleHere 13 = .ok (.aload_n 0, 1) := by decide +kernel
theorem dX6_taleHere_14 : decode cX6_taleHere 14 = .ok (.getfield 7, 3) := by decide +kernel
theorem dX6_taleHere_17 : decode cX6_taleHere 17 = .ok (.iconst 0, 1) := by decide +kernel
theorem dX6_taleHere_18 : decode cX6_taleHere 18 = .ok (.iaload, 1) := by decide +kernel
theorem dX6_taleHere_19 : decode cX6_taleHere 19 = .ok (.bipush 8, 2) := by decide +kernel
theorem dX6_taleHere_21 : decode cX6_taleHere 21 = .ok (.if_icmp .ge 7, 3) := by decide +kernel
theorem dX6_taleHere_24 : decode cX6_taleHere 24 = .ok (.iconst 1, 1) := by decide +kernel
theorem dX6_taleHere_25 : decode cX6_taleHere 25 = .ok (.goto 4, 3) := by decide +kernel
theorem dX6_taleHere_28 : decode cX6_taleHere 28 = .ok (.iconst 0, 1) := by decide +kernel
theorem dX6_taleHere_29 : decode cX6_taleHere 29 = .ok (.invokevirtual 108, 3) := by decide +kernel
theorem dX6_taleHere_32 : decode cX6_taleHere 32 = .ok (.aload_n 0, 1) := by decide +kernel
theorem dX6_taleHere_33 : decode cX6_taleHere 33 = .ok (.aload_n 0, 1) := by decide +kernel
theorem dX6_taleHere_34 : decode cX6_taleHere 34 = .ok (.bipush 97, 2) := by decide +kernel
theorem dX6_taleHere_36 : decode cX6_taleHere 36 = .ok (.bipush 116, 2) := by decide +kernel
theorem dX6_taleHere_38 : decode cX6_taleHere 38 = .ok (.invokevirtual 112, 3) := by decide +kernel
theorem dX6_taleHere_41 : decode cX6_taleHere 41 = .ok (.invokevirtual 108, 3) := by decide +kernel
theorem dX6_taleHere_44 : decode cX6_taleHere 44 = .ok (.aload_n 0, 1) := by decide +kernel
theorem dX6_taleHere_45 : decode cX6_taleHere 45 = .ok (.getfield 84, 3) := by decide +kernel
theorem dX6_taleHere_48 : decode cX6_taleHere 48 = .ok (.istore_n 3, 1) := by decide +kernel
theorem dX6_taleHere_49 : decode cX6_taleHere 49 = .ok (.aload_n 0, 1) := by decide +kernel
theorem dX6_taleHere_50 : decode cX6_taleHere 50 = .ok (.aload_n 0, 1) := by decide +kernel
theorem dX6_taleHere_51 : decode cX6_taleHere 51 = .ok (.getfield 81, 3) := by decide +kernel
theorem dX6_taleHere_54 : decode cX6_taleHere 54 = .ok (.iconst 2, 1) := by decide +kernel
theorem dX6_taleHere_55 : decode cX6_taleHere 55 = .ok (.if_icmp .ne 29, 3) := by decide +kernel
theorem dX6_taleHere_58 : decode cX6_taleHere 58 = .ok (.aload_n 0, 1) := by decide +kernel
theorem dX6_taleHere_59 : decode cX6_taleHere 59 = .ok (.getfield 64, 3) := by decide +kernel
theorem dX6_taleHere_62 : decode cX6_taleHere 62 = .ok (.aload_n 0, 1) := by decide +kernel
theorem dX6_taleHere_63 : decode cX6_taleHere 63 = .ok (.getfield 67, 3) := by decide +kernel
theorem dX6_taleHere_66 : decode cX6_taleHere 66 = .ok (.isub, 1) := by decide +kernel
theorem dX6_taleHere_67 : decode cX6_taleHere 67 = .ok (.iconst 3, 1) := by decide +kernel
theorem dX6_taleHere_68 : decode cX6_taleHere 68 = .ok (.if_icmp .gt 16, 3) := by decide +kernel
theorem dX6_taleHere_71 : decode cX6_taleHere 71 = .ok (.aload_n 0, 1) := by decide +kernel
theorem dX6_taleHere_72 : decode cX6_taleHere 72 = .ok (.getfield 84, 3) := by decide +kernel
theorem dX6_taleHere_75 : decode cX6_taleHere 75 = .ok (.bipush 8, 2) := by decide +kernel
theorem dX6_taleHere_77 : decode cX6_taleHere 77 = .ok (.if_icmp .ge 7, 3) := by decide +kernel
theorem dX6_taleHere_80 : decode cX6_taleHere 80 = .ok (.iconst 1, 1) := by decide +kernel
theorem dX6_taleHere_81 : decode cX6_taleHere 81 = .ok (.goto 4, 3) := by decide +kernel
theorem dX6_taleHere_84 : decode cX6_taleHere 84 = .ok (.iconst 0, 1) := by decide +kernel
theorem dX6_taleHere_85 : decode cX6_taleHere 85 = .ok (.invokevirtual 108, 3) := by decide +kernel
theorem dX6_taleHere_88 : decode cX6_taleHere 88 = .ok (.aload_n 0, 1) := by decide +kernel
theorem dX6_taleHere_89 : decode cX6_taleHere 89 = .ok (.getfield 87, 3) := by decide +kernel
theorem dX6_taleHere_92 : decode cX6_taleHere 92 = .ok (.ifCond .ne 11, 3) := by decide +kernel
theorem dX6_taleHere_95 : decode cX6_taleHere 95 = .ok (.aload_n 0, 1) := by decide +kernel
theorem dX6_taleHere_96 : decode cX6_taleHere 96 = .ok (.iload_n 1, 1) := by decide +kernel
theorem dX6_taleHere_97 : decode cX6_taleHere 97 = .ok (.bipush 50, 2) := by decide +kernel
theorem dX6_taleHere_99 : decode cX6_taleHere 99 = .ok (.iload_n 3, 1) := by decide +kernel
theorem dX6_taleHere_100 : decode cX6_taleHere 100 = .ok (.invokevirtual 116, 3) := by decide +kernel
theorem dX6_taleHere_103 : decode cX6_taleHere 103 = .ok (.aload_n 0, 1) := by decide +kernel
theorem dX6_taleHere_104 : decode cX6_taleHere 104 = .ok (.getfield 87, 3) := by decide +kernel
theorem dX6_taleHere_107 : decode cX6_taleHere 107 = .ok (.ifCond .ne 31, 3) := by decide +kernel
theorem dX6_taleHere_110 : decode cX6_taleHere 110 = .ok (.aload_n 0, 1) := by decide +kernel
theorem dX6_taleHere_111 : decode cX6_taleHere 111 = .ok (.bipush 104, 2) := by decide +kernel
theorem dX6_taleHere_113 : decode cX6_taleHere 113 = .ok (.bipush 101, 2) := by decide +kernel
theorem dX6_taleHere_115 : decode cX6_taleHere 115 = .ok (.bipush 97, 2) := by decide +kernel
theorem dX6_taleHere_117 : decode cX6_taleHere 117 = .ok (.bipush 116, 2) := by decide +kernel
theorem dX6_taleHere_119 : decode cX6_taleHere 119 = .ok (.invokevirtual 98, 3) := by decide +kernel
theorem dX6_taleHere_122 : decode cX6_taleHere 122 = .ok (.ifCond .eq 16, 3) := by decide +kernel
theorem dX6_taleHere_125 : decode cX6_taleHere 125 = .ok (.aload_n 0, 1) := by decide +kernel
theorem dX6_taleHere_126 : decode cX6_taleHere 126 = .ok (.invokevirtual 91, 3) := by decide +kernel
theorem dX6_taleHere_129 : decode cX6_taleHere 129 = .ok (.aload_n 0, 1) := by decide +kernel
theorem dX6_taleHere_130 : decode cX6_taleHere 130 = .ok (.iload_n 2, 1) := by decide +kernel
theorem dX6_taleHere_131 : decode cX6_taleHere 131 = .ok (.iconst 1, 1) := by decide +kernel
theorem dX6_taleHere_132 : decode cX6_taleHere 132 = .ok (.iadd, 1) := by decide +kernel
theorem dX6_taleHere_133 : decode cX6_taleHere 133 = .ok (.bipush 99, 2) := by decide +kernel
theorem dX6_taleHere_135 : decode cX6_taleHere 135 = .ok (.invokevirtual 120, 3) := by decide +kernel
theorem dX6_taleHere_138 : decode cX6_taleHere 138 = .ok (.return_, 1) := by decide +kernel
theorem dX6_ofHouse_0 : decode cX6_ofHouse 0 = .ok (.aload_n 0, 1) := by decide +kernel
theorem dX6_ofHouse_1 : decode cX6_ofHouse 1 = .ok (.invokevirtual 91, 3) := by decide +kernel
theorem dX6_ofHouse_4 : decode cX6_ofHouse 4 = .ok (.aload_n 0, 1) := by decide +kernel
theorem dX6_ofHouse_5 : decode cX6_ofHouse 5 = .ok (.getfield 84, 3) := by decide +kernel
theorem dX6_ofHouse_8 : decode cX6_ofHouse 8 = .ok (.istore_n 3, 1) := by decide +kernel
theorem dX6_ofHouse_9 : decode cX6_ofHouse 9 = .ok (.aload_n 0, 1) := by decide +kernel
theorem dX6_ofHouse_10 : decode cX6_ofHouse 10 = .ok (.aload_n 0, 1) := by decide +kernel
theorem dX6_ofHouse_11 : decode cX6_ofHouse 11 = .ok (.getfield 81, 3) := by decide +kernel
theorem dX6_ofHouse_14 : decode cX6_ofHouse 14 = .ok (.iconst 2, 1) := by decide +kernel
theorem dX6_ofHouse_15 : decode cX6_ofHouse 15 = .ok (.if_icmp .ne 29, 3) := by decide +kernel
theorem dX6_ofHouse_18 : decode cX6_ofHouse 18 = .ok (.aload_n 0, 1) := by decide +kernel
theorem dX6_ofHouse_19 : decode cX6_ofHouse 19 = .ok (.getfield 64, 3) := by decide +kernel
theorem dX6_ofHouse_22 : decode cX6_ofHouse 22 = .ok (.aload_n 0, 1) := by decide +kernel
theorem dX6_ofHouse_23 : decode cX6_ofHouse 23 = .ok (.getfield 67, 3) := by decide +kernel
theorem dX6_ofHouse_26 : decode cX6_ofHouse 26 = .ok (.isub, 1) := by decide +kernel
theorem dX6_ofHouse_27 : decode cX6_ofHouse 27 = .ok (.iconst 3, 1) := by decide +kernel
theorem dX6_ofHouse_28 : decode cX6_ofHouse 28 = .ok (.if_icmp .gt 16, 3) := by decide +kernel
theorem dX6_ofHouse_31 : decode cX6_ofHouse 31 = .ok (.aload_n 0, 1) := by decide +kernel
theorem dX6_ofHouse_32 : decode cX6_ofHouse 32 = .ok (.getfield 84, 3) := by decide +kernel
theorem dX6_ofHouse_35 : decode cX6_ofHouse 35 = .ok (.bipush 8, 2) := by decide +kernel
theorem dX6_ofHouse_37 : decode cX6_ofHouse 37 = .ok (.if_icmp .ge 7, 3) := by decide +kernel
theorem dX6_ofHouse_40 : decode cX6_ofHouse 40 = .ok (.iconst 1, 1) := by decide +kernel
theorem dX6_ofHouse_41 : decode cX6_ofHouse 41 = .ok (.goto 4, 3) := by decide +kernel
theorem dX6_ofHouse_44 : decode cX6_ofHouse 44 = .ok (.iconst 0, 1) := by decide +kernel
theorem dX6_ofHouse_45 : decode cX6_ofHouse 45 = .ok (.invokevirtual 108, 3) := by decide +kernel
theorem dX6_ofHouse_48 : decode cX6_ofHouse 48 = .ok (.aload_n 0, 1) := by decide +kernel
theorem dX6_ofHouse_49 : decode cX6_ofHouse 49 = .ok (.aload_n 0, 1) := by decide +kernel
theorem dX6_ofHouse_50 : decode cX6_ofHouse 50 = .ok (.bipush 105, 2) := by decide +kernel
theorem dX6_ofHouse_52 : decode cX6_ofHouse 52 = .ok (.bipush 115, 2) := by decide +kernel
theorem dX6_ofHouse_54 : decode cX6_ofHouse 54 = .ok (.invokevirtual 112, 3) := by decide +kernel
theorem dX6_ofHouse_57 : decode cX6_ofHouse 57 = .ok (.invokevirtual 108, 3) := by decide +kernel
theorem dX6_ofHouse_60 : decode cX6_ofHouse 60 = .ok (.aload_n 0, 1) := by decide +kernel
theorem dX6_ofHouse_61 : decode cX6_ofHouse 61 = .ok (.aload_n 0, 1) := by decide +kernel
theorem dX6_ofHouse_62 : decode cX6_ofHouse 62 = .ok (.getfield 87, 3) := by decide +kernel
theorem dX6_ofHouse_65 : decode cX6_ofHouse 65 = .ok (.ifCond .eq 7, 3) := by decide +kernel
theorem dX6_ofHouse_68 : decode cX6_ofHouse 68 = .ok (.iconst 0, 1) := by decide +kernel
theorem dX6_ofHouse_69 : decode cX6_ofHouse 69 = .ok (.goto 6, 3) := by decide +kernel
theorem dX6_ofHouse_72 : decode cX6_ofHouse 72 = .ok (.iload_n 1, 1) := by decide +kernel
theorem dX6_ofHouse_73 : decode cX6_ofHouse 73 = .ok (.iload_n 3, 1) := by decide +kernel
theorem dX6_ofHouse_74 : decode cX6_ofHouse 74 = .ok (.iadd, 1) := by decide +kernel
theorem dX6_ofHouse_75 : decode cX6_ofHouse 75 = .ok (.iload_n 2, 1) := by decide +kernel
theorem dX6_ofHouse_76 : decode cX6_ofHouse 76 = .ok (.invokevirtual 120, 3) := by decide +kernel
theorem dX6_ofHouse_79 : decode cX6_ofHouse 79 = .ok (.return_, 1) := by decide +kernel
theorem dX6_boxHere_0 : decode cX6_boxHere 0 = .ok (.aload_n 0, 1) := by decide +kernel
theorem dX6_boxHere_1 : decode cX6_boxHere 1 = .ok (.invokevirtual 91, 3) := by decide +kernel
theorem dX6_boxHere_4 : decode cX6_boxHere 4 = .ok (.aload_n 0, 1) := by decide +kernel
theorem dX6_boxHere_5 : decode cX6_boxHere 5 = .ok (.getfield 84, 3) := by decide +kernel
theorem dX6_boxHere_8 : decode cX6_boxHere 8 = .ok (.istore_n 1, 1) := by decide +kernel
theorem dX6_boxHere_9 : decode cX6_boxHere 9 = .ok (.aload_n 0, 1) := by decide +kernel
theorem dX6_boxHere_10 : decode cX6_boxHere 10 = .ok (.aload_n 0, 1) := by decide +kernel
theorem dX6_boxHere_11 : decode cX6_boxHere 11 = .ok (.getfield 81, 3) := by decide +kernel
theorem dX6_boxHere_14 : decode cX6_boxHere 14 = .ok (.iconst 2, 1) := by decide +kernel
theorem dX6_boxHere_15 : decode cX6_boxHere 15 = .ok (.if_icmp .ne 29, 3) := by decide +kernel
theorem dX6_boxHere_18 : decode cX6_boxHere 18 = .ok (.aload_n 0, 1) := by decide +kernel
theorem dX6_boxHere_19 : decode cX6_boxHere 19 = .ok (.getfield 64, 3) := by decide +kernel
theorem dX6_boxHere_22 : decode cX6_boxHere 22 = .ok (.aload_n 0, 1) := by decide +kernel
theorem dX6_boxHere_23 : decode cX6_boxHere 23 = .ok (.getfield 67, 3) := by decide +kernel
theorem dX6_boxHere_26 : decode cX6_boxHere 26 = .ok (.isub, 1) := by decide +kernel
theorem dX6_boxHere_27 : decode cX6_boxHere 27 = .ok (.iconst 3, 1) := by decide +kernel
theorem dX6_boxHere_28 : decode cX6_boxHere 28 = .ok (.if_icmp .gt 16, 3) := by decide +kernel
theorem dX6_boxHere_31 : decode cX6_boxHere 31 = .ok (.aload_n 0, 1) := by decide +kernel
theorem dX6_boxHere_32 : decode cX6_boxHere 32 = .ok (.getfield 84, 3) := by decide +kernel
theorem dX6_boxHere_35 : decode cX6_boxHere 35 = .ok (.bipush 8, 2) := by decide +kernel
theorem dX6_boxHere_37 : decode cX6_boxHere 37 = .ok (.if_icmp .ge 7, 3) := by decide +kernel
theorem dX6_boxHere_40 : decode cX6_boxHere 40 = .ok (.iconst 1, 1) := by decide +kernel
theorem dX6_boxHere_41 : decode cX6_boxHere 41 = .ok (.goto 4, 3) := by decide +kernel
theorem dX6_boxHere_44 : decode cX6_boxHere 44 = .ok (.iconst 0, 1) := by decide +kernel
theorem dX6_boxHere_45 : decode cX6_boxHere 45 = .ok (.invokevirtual 108, 3) := by decide +kernel
theorem dX6_boxHere_48 : decode cX6_boxHere 48 = .ok (.aload_n 0, 1) := by decide +kernel
theorem dX6_boxHere_49 : decode cX6_boxHere 49 = .ok (.getfield 87, 3) := by decide +kernel
theorem dX6_boxHere_52 : decode cX6_boxHere 52 = .ok (.ifCond .ne 13, 3) := by decide +kernel
theorem dX6_boxHere_55 : decode cX6_boxHere 55 = .ok (.aload_n 0, 1) := by decide +kernel
theorem dX6_boxHere_56 : decode cX6_boxHere 56 = .ok (.getfield 7, 3) := by decide +kernel
theorem dX6_boxHere_59 : decode cX6_boxHere 59 = .ok (.bipush 23, 2) := by decide +kernel
theorem dX6_boxHere_61 : decode cX6_boxHere 61 = .ok (.iload_n 1, 1) := by decide +kernel
theorem dX6_boxHere_62 : decode cX6_boxHere 62 = .ok (.iadd, 1) := by decide +kernel
theorem dX6_boxHere_63 : decode cX6_boxHere 63 = .ok (.iconst 1, 1) := by decide +kernel
theorem dX6_boxHere_64 : decode cX6_boxHere 64 = .ok (.iastore, 1) := by decide +kernel
theorem dX6_boxHere_65 : decode cX6_boxHere 65 = .ok (.return_, 1) := by decide +kernel
theorem dX6_lawHere_0 : decode cX6_lawHere 0 = .ok (.aload_n 0, 1) := by decide +kernel
theorem dX6_lawHere_1 : decode cX6_lawHere 1 = .ok (.iconst 3, 1) := by decide +kernel
theorem dX6_lawHere_2 : decode cX6_lawHere 2 = .ok (.bipush 97, 2) := by decide +kernel
theorem dX6_lawHere_4 : decode cX6_lawHere 4 = .ok (.bipush 105, 2) := by decide +kernel
theorem dX6_lawHere_6 : decode cX6_lawHere 6 = .ok (.bipush 114, 2) := by decide +kernel
theorem dX6_lawHere_8 : decode cX6_lawHere 8 = .ok (.bipush 114, 2) := by decide +kernel
theorem dX6_lawHere_10 : decode cX6_lawHere 10 = .ok (.invokevirtual 94, 3) := by decide +kernel
theorem dX6_lawHere_13 : decode cX6_lawHere 13 = .ok (.ifCond .eq 5, 3) := by decide +kernel
theorem dX6_lawHere_16 : decode cX6_lawHere 16 = .ok (.iconst 3, 1) := by decide +kernel
theorem dX6_lawHere_17 : decode cX6_lawHere 17 = .ok (.ireturn, 1) := by decide +kernel
theorem dX6_lawHere_18 : decode cX6_lawHere 18 = .ok (.aload_n 0, 1) := by decide +kernel
theorem dX6_lawHere_19 : decode cX6_lawHere 19 = .ok (.bipush 115, 2) := by decide +kernel
theorem dX6_lawHere_21 : decode cX6_lawHere 21 = .ok (.bipush 112, 2) := by decide +kernel
theorem dX6_lawHere_23 : decode cX6_lawHere 23 = .ok (.bipush 105, 2) := by decide +kernel
theorem dX6_lawHere_25 : decode cX6_lawHere 25 = .ok (.bipush 99, 2) := by decide +kernel
theorem dX6_lawHere_27 : decode cX6_lawHere 27 = .ok (.bipush 101, 2) := by decide +kernel
theorem dX6_lawHere_29 : decode cX6_lawHere 29 = .ok (.invokevirtual 105, 3) := by decide +kernel
theorem dX6_lawHere_32 : decode cX6_lawHere 32 = .ok (.ifCond .eq 5, 3) := by decide +kernel
theorem dX6_lawHere_35 : decode cX6_lawHere 35 = .ok (.iconst 4, 1) := by decide +kernel
theorem dX6_lawHere_36 : decode cX6_lawHere 36 = .ok (.ireturn, 1) := by decide +kernel
theorem dX6_lawHere_37 : decode cX6_lawHere 37 = .ok (.aload_n 0, 1) := by decide +kernel
theorem dX6_lawHere_38 : decode cX6_lawHere 38 = .ok (.bipush 99, 2) := by decide +kernel
theorem dX6_lawHere_40 : decode cX6_lawHere 40 = .ok (.bipush 114, 2) := by decide +kernel
theorem dX6_lawHere_42 : decode cX6_lawHere 42 = .ok (.bipush 117, 2) := by decide +kernel
theorem dX6_lawHere_44 : decode cX6_lawHere 44 = .ok (.bipush 115, 2) := by decide +kernel
theorem dX6_lawHere_46 : decode cX6_lawHere 46 = .ok (.bipush 116, 2) := by decide +kernel
theorem dX6_lawHere_48 : decode cX6_lawHere 48 = .ok (.invokevirtual 105, 3) := by decide +kernel
theorem dX6_lawHere_51 : decode cX6_lawHere 51 = .ok (.ifCond .eq 5, 3) := by decide +kernel
theorem dX6_lawHere_54 : decode cX6_lawHere 54 = .ok (.iconst 5, 1) := by decide +kernel
theorem dX6_lawHere_55 : decode cX6_lawHere 55 = .ok (.ireturn, 1) := by decide +kernel
theorem dX6_lawHere_56 : decode cX6_lawHere 56 = .ok (.aload_n 0, 1) := by decide +kernel
theorem dX6_lawHere_57 : decode cX6_lawHere 57 = .ok (.bipush 7, 2) := by decide +kernel
theorem dX6_lawHere_59 : decode cX6_lawHere 59 = .ok (.bipush 109, 2) := by decide +kernel
theorem dX6_lawHere_61 : decode cX6_lawHere 61 = .ok (.bipush 101, 2) := by decide +kernel
theorem dX6_lawHere_63 : decode cX6_lawHere 63 = .ok (.bipush 101, 2) := by decide +kernel
theorem dX6_lawHere_65 : decode cX6_lawHere 65 = .ok (.bipush 103, 2) := by decide +kernel
theorem dX6_lawHere_67 : decode cX6_lawHere 67 = .ok (.invokevirtual 94, 3) := by decide +kernel
theorem dX6_lawHere_70 : decode cX6_lawHere 70 = .ok (.ifCond .eq 22, 3) := by decide +kernel
theorem dX6_lawHere_73 : decode cX6_lawHere 73 = .ok (.aload_n 0, 1) := by decide +kernel
theorem dX6_lawHere_74 : decode cX6_lawHere 74 = .ok (.iconst 3, 1) := by decide +kernel
theorem dX6_lawHere_75 : decode cX6_lawHere 75 = .ok (.bipush 116, 2) := by decide +kernel
theorem dX6_lawHere_77 : decode cX6_lawHere 77 = .ok (.bipush 105, 2) := by decide +kernel
theorem dX6_lawHere_79 : decode cX6_lawHere 79 = .ok (.bipush 110, 2) := by decide +kernel
theorem dX6_lawHere_81 : decode cX6_lawHere 81 = .ok (.invokevirtual 102, 3) := by decide +kernel
theorem dX6_lawHere_84 : decode cX6_lawHere 84 = .ok (.ifCond .eq 8, 3) := by decide +kernel
theorem dX6_lawHere_87 : decode cX6_lawHere 87 = .ok (.bipush 6, 2) := by decide +kernel
theorem dX6_lawHere_89 : decode cX6_lawHere 89 = .ok (.goto 4, 3) := by decide +kernel
theorem dX6_lawHere_92 : decode cX6_lawHere 92 = .ok (.iconst (-1), 1) := by decide +kernel
theorem dX6_lawHere_93 : decode cX6_lawHere 93 = .ok (.ireturn, 1) := by decide +kernel
theorem dX6_mostOf_0 : decode cX6_mostOf 0 = .ok (.iload_n 0, 1) := by decide +kernel
theorem dX6_mostOf_1 : decode cX6_mostOf 1 = .ok (.iconst 2, 1) := by decide +kernel
theorem dX6_mostOf_2 : decode cX6_mostOf 2 = .ok (.if_icmp .ge 8, 3) := by decide +kernel
theorem dX6_mostOf_5 : decode cX6_mostOf 5 = .ok (.bipush 9, 2) := by decide +kernel
theorem dX6_mostOf_7 : decode cX6_mostOf 7 = .ok (.goto 5, 3) := by decide +kernel
theorem dX6_mostOf_10 : decode cX6_mostOf 10 = .ok (.bipush 99, 2) := by decide +kernel
theorem dX6_mostOf_12 : decode cX6_mostOf 12 = .ok (.ireturn, 1) := by decide +kernel
theorem dX6_itemHere_0 : decode cX6_itemHere 0 = .ok (.aload_n 0, 1) := by decide +kernel
theorem dX6_itemHere_1 : decode cX6_itemHere 1 = .ok (.invokevirtual 124, 3) := by decide +kernel
theorem dX6_itemHere_4 : decode cX6_itemHere 4 = .ok (.istore_n 1, 1) := by decide +kernel
theorem dX6_itemHere_5 : decode cX6_itemHere 5 = .ok (.aload_n 0, 1) := by decide +kernel
theorem dX6_itemHere_6 : decode cX6_itemHere 6 = .ok (.invokevirtual 128, 3) := by decide +kernel
theorem dX6_itemHere_9 : decode cX6_itemHere 9 = .ok (.istore_n 2, 1) := by decide +kernel
theorem dX6_itemHere_10 : decode cX6_itemHere 10 = .ok (.iload_n 1, 1) := by decide +kernel
theorem dX6_itemHere_11 : decode cX6_itemHere 11 = .ok (.ifCond .lt 11, 3) := by decide +kernel
theorem dX6_itemHere_14 : decode cX6_itemHere 14 = .ok (.aload_n 0, 1) := by decide +kernel
theorem dX6_itemHere_15 : decode cX6_itemHere 15 = .ok (.iload_n 1, 1) := by decide +kernel
theorem dX6_itemHere_16 : decode cX6_itemHere 16 = .ok (.invokevirtual 131, 3) := by decide +kernel
theorem dX6_itemHere_19 : decode cX6_itemHere 19 = .ok (.goto 123, 3) := by decide +kernel
theorem dX6_itemHere_22 : decode cX6_itemHere 22 = .ok (.iload_n 2, 1) := by decide +kernel
theorem dX6_itemHere_23 : decode cX6_itemHere 23 = .ok (.ifCond .lt 21, 3) := by decide +kernel
theorem dX6_itemHere_26 : decode cX6_itemHere 26 = .ok (.aload_n 0, 1) := by decide +kernel
theorem dX6_itemHere_27 : decode cX6_itemHere 27 = .ok (.invokevirtual 91, 3) := by decide +kernel
theorem dX6_itemHere_30 : decode cX6_itemHere 30 = .ok (.aload_n 0, 1) := by decide +kernel
theorem dX6_itemHere_31 : decode cX6_itemHere 31 = .ok (.iload_n 2, 1) := by decide +kernel
theorem dX6_itemHere_32 : decode cX6_itemHere 32 = .ok (.iload_n 2, 1) := by decide +kernel
theorem dX6_itemHere_33 : decode cX6_itemHere 33 = .ok (.iconst 3, 1) := by decide +kernel
theorem dX6_itemHere_34 : decode cX6_itemHere 34 = .ok (.isub, 1) := by decide +kernel
theorem dX6_itemHere_35 : decode cX6_itemHere 35 = .ok (.invokestatic 135, 3) := by decide +kernel
theorem dX6_itemHere_38 : decode cX6_itemHere 38 = .ok (.invokevirtual 120, 3) := by decide +kernel
theorem dX6_itemHere_41 : decode cX6_itemHere 41 = .ok (.goto 101, 3) := by decide +kernel
theorem dX6_itemHere_44 : decode cX6_itemHere 44 = .ok (.aload_n 0, 1) := by decide +kernel
theorem dX6_itemHere_45 : decode cX6_itemHere 45 = .ok (.bipush 6, 2) := by decide +kernel
theorem dX6_itemHere_47 : decode cX6_itemHere 47 = .ok (.bipush 102, 2) := by decide +kernel
theorem dX6_itemHere_49 : decode cX6_itemHere 49 = .ok (.bipush 114, 2) := by decide +kernel
theorem dX6_itemHere_51 : decode cX6_itemHere 51 = .ok (.bipush 105, 2) := by decide +kernel
theorem dX6_itemHere_53 : decode cX6_itemHere 53 = .ok (.bipush 100, 2) := by decide +kernel
theorem dX6_itemHere_55 : decode cX6_itemHere 55 = .ok (.invokevirtual 94, 3) := by decide +kernel
theorem dX6_itemHere_58 : decode cX6_itemHere 58 = .ok (.ifCond .eq 28, 3) := by decide +kernel
theorem dX6_itemHere_61 : decode cX6_itemHere 61 = .ok (.aload_n 0, 1) := by decide +kernel
theorem dX6_itemHere_62 : decode cX6_itemHere 62 = .ok (.iconst 3, 1) := by decide +kernel
theorem dX6_itemHere_63 : decode cX6_itemHere 63 = .ok (.bipush 101, 2) := by decide +kernel
theorem dX6_itemHere_65 : decode cX6_itemHere 65 = .ok (.bipush 110, 2) := by decide +kernel
theorem dX6_itemHere_67 : decode cX6_itemHere 67 = .ok (.bipush 100, 2) := by decide +kernel
theorem dX6_itemHere_69 : decode cX6_itemHere 69 = .ok (.invokevirtual 102, 3) := by decide +kernel
theorem dX6_itemHere_72 : decode cX6_itemHere 72 = .ok (.ifCond .eq 14, 3) := by decide +kernel
theorem dX6_itemHere_75 : decode cX6_itemHere 75 = .ok (.aload_n 0, 1) := by decide +kernel
theorem dX6_itemHere_76 : decode cX6_itemHere 76 = .ok (.bipush 7, 2) := by decide +kernel
theorem dX6_itemHere_78 : decode cX6_itemHere 78 = .ok (.bipush 7, 2) := by decide +kernel
theorem dX6_itemHere_80 : decode cX6_itemHere 80 = .ok (.invokevirtual 138, 3) := by decide +kernel
theorem dX6_itemHere_83 : decode cX6_itemHere 83 = .ok (.goto 59, 3) := by decide +kernel
theorem dX6_itemHere_86 : decode cX6_itemHere 86 = .ok (.aload_n 0, 1) := by decide +kernel
theorem dX6_itemHere_87 : decode cX6_itemHere 87 = .ok (.bipush 116, 2) := by decide +kernel
theorem dX6_itemHere_89 : decode cX6_itemHere 89 = .ok (.bipush 97, 2) := by decide +kernel
theorem dX6_itemHere_91 : decode cX6_itemHere 91 = .ok (.bipush 115, 2) := by decide +kernel
theorem dX6_itemHere_93 : decode cX6_itemHere 93 = .ok (.bipush 116, 2) := by decide +kernel
theorem dX6_itemHere_95 : decode cX6_itemHere 95 = .ok (.bipush 101, 2) := by decide +kernel
theorem dX6_itemHere_97 : decode cX6_itemHere 97 = .ok (.invokevirtual 105, 3) := by decide +kernel
theorem dX6_itemHere_100 : decode cX6_itemHere 100 = .ok (.ifCond .eq 14, 3) := by decide +kernel
theorem dX6_itemHere_103 : decode cX6_itemHere 103 = .ok (.aload_n 0, 1) := by decide +kernel
theorem dX6_itemHere_104 : decode cX6_itemHere 104 = .ok (.bipush 15, 2) := by decide +kernel
theorem dX6_itemHere_106 : decode cX6_itemHere 106 = .ok (.bipush 99, 2) := by decide +kernel
theorem dX6_itemHere_108 : decode cX6_itemHere 108 = .ok (.invokevirtual 138, 3) := by decide +kernel
theorem dX6_itemHere_111 : decode cX6_itemHere 111 = .ok (.goto 31, 3) := by decide +kernel
theorem dX6_itemHere_114 : decode cX6_itemHere 114 = .ok (.aload_n 0, 1) := by decide +kernel
theorem dX6_itemHere_115 : decode cX6_itemHere 115 = .ok (.iconst 3, 1) := by decide +kernel
theorem dX6_itemHere_116 : decode cX6_itemHere 116 = .ok (.bipush 98, 2) := by decide +kernel
theorem dX6_itemHere_118 : decode cX6_itemHere 118 = .ok (.bipush 111, 2) := by decide +kernel
theorem dX6_itemHere_120 : decode cX6_itemHere 120 = .ok (.bipush 120, 2) := by decide +kernel
theorem dX6_itemHere_122 : decode cX6_itemHere 122 = .ok (.bipush 120, 2) := by decide +kernel
theorem dX6_itemHere_124 : decode cX6_itemHere 124 = .ok (.invokevirtual 94, 3) := by decide +kernel
theorem dX6_itemHere_127 : decode cX6_itemHere 127 = .ok (.ifCond .eq 10, 3) := by decide +kernel
theorem dX6_itemHere_130 : decode cX6_itemHere 130 = .ok (.aload_n 0, 1) := by decide +kernel
theorem dX6_itemHere_131 : decode cX6_itemHere 131 = .ok (.invokevirtual 141, 3) := by decide +kernel
theorem dX6_itemHere_134 : decode cX6_itemHere 134 = .ok (.goto 8, 3) := by decide +kernel
theorem dX6_itemHere_137 : decode cX6_itemHere 137 = .ok (.aload_n 0, 1) := by decide +kernel
theorem dX6_itemHere_138 : decode cX6_itemHere 138 = .ok (.iconst 0, 1) := by decide +kernel
theorem dX6_itemHere_139 : decode cX6_itemHere 139 = .ok (.invokevirtual 108, 3) := by decide +kernel
theorem dX6_itemHere_142 : decode cX6_itemHere 142 = .ok (.aload_n 0, 1) := by decide +kernel
theorem dX6_itemHere_143 : decode cX6_itemHere 143 = .ok (.aload_n 0, 1) := by decide +kernel
theorem dX6_itemHere_144 : decode cX6_itemHere 144 = .ok (.getfield 81, 3) := by decide +kernel
theorem dX6_itemHere_147 : decode cX6_itemHere 147 = .ok (.iconst 3, 1) := by decide +kernel
theorem dX6_itemHere_148 : decode cX6_itemHere 148 = .ok (.if_icmp .ne 20, 3) := by decide +kernel
theorem dX6_itemHere_151 : decode cX6_itemHere 151 = .ok (.aload_n 0, 1) := by decide +kernel
theorem dX6_itemHere_152 : decode cX6_itemHere 152 = .ok (.aload_n 0, 1) := by decide +kernel
theorem dX6_itemHere_153 : decode cX6_itemHere 153 = .ok (.getfield 67, 3) := by decide +kernel
theorem dX6_itemHere_156 : decode cX6_itemHere 156 = .ok (.invokevirtual 70, 3) := by decide +kernel
theorem dX6_itemHere_159 : decode cX6_itemHere 159 = .ok (.bipush 59, 2) := by decide +kernel
theorem dX6_itemHere_161 : decode cX6_itemHere 161 = .ok (.if_icmp .ne 7, 3) := by decide +kernel
theorem dX6_itemHere_164 : decode cX6_itemHere 164 = .ok (.iconst 1, 1) := by decide +kernel
theorem dX6_itemHere_165 : decode cX6_itemHere 165 = .ok (.goto 4, 3) := by decide +kernel
theorem dX6_itemHere_168 : decode cX6_itemHere 168 = .ok (.iconst 0, 1) := by decide +kernel
theorem dX6_itemHere_169 : decode cX6_itemHere 169 = .ok (.invokevirtual 108, 3) := by decide +kernel
theorem dX6_itemHere_172 : decode cX6_itemHere 172 = .ok (.return_, 1) := by decide +kernel
theorem dX6_parish_0 : decode cX6_parish 0 = .ok (.aload_n 0, 1) := by decide +kernel
theorem dX6_parish_1 : decode cX6_parish 1 = .ok (.getfield 7, 3) := by decide +kernel
theorem dX6_parish_4 : decode cX6_parish 4 = .ok (.aload_n 0, 1) := by decide +kernel
theorem dX6_parish_5 : decode cX6_parish 5 = .ok (.getfield 19, 3) := by decide +kernel
theorem dX6_parish_8 : decode cX6_parish 8 = .ok (.invokestatic 144, 3) := by decide +kernel
theorem dX6_parish_11 : decode cX6_parish 11 = .ok (.aload_n 0, 1) := by decide +kernel
theorem dX6_parish_12 : decode cX6_parish 12 = .ok (.invokevirtual 49, 3) := by decide +kernel
theorem dX6_parish_15 : decode cX6_parish 15 = .ok (.aload_n 0, 1) := by decide +kernel
theorem dX6_parish_16 : decode cX6_parish 16 = .ok (.iconst 0, 1) := by decide +kernel
theorem dX6_parish_17 : decode cX6_parish 17 = .ok (.putfield 64, 3) := by decide +kernel
theorem dX6_parish_20 : decode cX6_parish 20 = .ok (.aload_n 0, 1) := by decide +kernel
theorem dX6_parish_21 : decode cX6_parish 21 = .ok (.iconst 0, 1) := by decide +kernel
theorem dX6_parish_22 : decode cX6_parish 22 = .ok (.putfield 87, 3) := by decide +kernel
theorem dX6_parish_25 : decode cX6_parish 25 = .ok (.aload_n 0, 1) := by decide +kernel
theorem dX6_parish_26 : decode cX6_parish 26 = .ok (.invokevirtual 91, 3) := by decide +kernel
theorem dX6_parish_29 : decode cX6_parish 29 = .ok (.aload_n 0, 1) := by decide +kernel
theorem dX6_parish_30 : decode cX6_parish 30 = .ok (.getfield 87, 3) := by decide +kernel
theorem dX6_parish_33 : decode cX6_parish 33 = .ok (.ifCond .ne 17, 3) := by decide +kernel
theorem dX6_parish_36 : decode cX6_parish 36 = .ok (.aload_n 0, 1) := by decide +kernel
theorem dX6_parish_37 : decode cX6_parish 37 = .ok (.getfield 81, 3) := by decide +kernel
theorem dX6_parish_40 : decode cX6_parish 40 = .ok (.ifCond .eq 10, 3) := by decide +kernel
theorem dX6_parish_43 : decode cX6_parish 43 = .ok (.aload_n 0, 1) := by decide +kernel
theorem dX6_parish_44 : decode cX6_parish 44 = .ok (.invokevirtual 148, 3) := by decide +kernel
theorem dX6_parish_47 : decode cX6_parish 47 = .ok (.goto (-18), 3) := by decide +kernel
theorem dX6_parish_50 : decode cX6_parish 50 = .ok (.aload_n 0, 1) := by decide +kernel
theorem dX6_parish_51 : decode cX6_parish 51 = .ok (.iconst 0, 1) := by decide +kernel
theorem dX6_parish_52 : decode cX6_parish 52 = .ok (.putfield 58, 3) := by decide +kernel
theorem dX6_parish_55 : decode cX6_parish 55 = .ok (.aload_n 0, 1) := by decide +kernel
theorem dX6_parish_56 : decode cX6_parish 56 = .ok (.getfield 87, 3) := by decide +kernel
theorem dX6_parish_59 : decode cX6_parish 59 = .ok (.ifCond .eq 22, 3) := by decide +kernel
theorem dX6_parish_62 : decode cX6_parish 62 = .ok (.aload_n 0, 1) := by decide +kernel
theorem dX6_parish_63 : decode cX6_parish 63 = .ok (.getfield 19, 3) := by decide +kernel
theorem dX6_parish_66 : decode cX6_parish 66 = .ok (.aload_n 0, 1) := by decide +kernel
theorem dX6_parish_67 : decode cX6_parish 67 = .ok (.getfield 7, 3) := by decide +kernel
theorem dX6_parish_70 : decode cX6_parish 70 = .ok (.invokestatic 144, 3) := by decide +kernel
theorem dX6_parish_73 : decode cX6_parish 73 = .ok (.bipush (-100), 2) := by decide +kernel
theorem dX6_parish_75 : decode cX6_parish 75 = .ok (.aload_n 0, 1) := by decide +kernel
theorem dX6_parish_76 : decode cX6_parish 76 = .ok (.getfield 67, 3) := by decide +kernel
theorem dX6_parish_79 : decode cX6_parish 79 = .ok (.isub, 1) := by decide +kernel
theorem dX6_parish_80 : decode cX6_parish 80 = .ok (.ireturn, 1) := by decide +kernel
theorem dX6_parish_81 : decode cX6_parish 81 = .ok (.aload_n 0, 1) := by decide +kernel
theorem dX6_parish_82 : decode cX6_parish 82 = .ok (.iconst 0, 1) := by decide +kernel
theorem dX6_parish_83 : decode cX6_parish 83 = .ok (.putfield 151, 3) := by decide +kernel
theorem dX6_parish_86 : decode cX6_parish 86 = .ok (.aload_n 0, 1) := by decide +kernel
theorem dX6_parish_87 : decode cX6_parish 87 = .ok (.getfield 7, 3) := by decide +kernel
theorem dX6_parish_90 : decode cX6_parish 90 = .ok (.iconst 0, 1) := by decide +kernel
theorem dX6_parish_91 : decode cX6_parish 91 = .ok (.iaload, 1) := by decide +kernel
theorem dX6_parish_92 : decode cX6_parish 92 = .ok (.ireturn, 1) := by decide +kernel
theorem dX6_set_0 : decode cX6_set 0 = .ok (.iload_n 1, 1) := by decide +kernel
theorem dX6_set_1 : decode cX6_set 1 = .ok (.i2l, 1) := by decide +kernel
theorem dX6_set_2 : decode cX6_set 2 = .ok (.lconst 0, 1) := by decide +kernel
theorem dX6_set_3 : decode cX6_set 3 = .ok (.ldc2_w 154, 3) := by decide +kernel
theorem dX6_set_6 : decode cX6_set 6 = .ok (.invokestatic 54, 3) := by decide +kernel
theorem dX6_set_9 : decode cX6_set 9 = .ok (.ifCond .eq 28, 3) := by decide +kernel
theorem dX6_set_12 : decode cX6_set 12 = .ok (.iload_n 2, 1) := by decide +kernel
theorem dX6_set_13 : decode cX6_set 13 = .ok (.i2l, 1) := by decide +kernel
theorem dX6_set_14 : decode cX6_set 14 = .ok (.lconst 0, 1) := by decide +kernel
theorem dX6_set_15 : decode cX6_set 15 = .ok (.iload_n 1, 1) := by decide +kernel
theorem dX6_set_16 : decode cX6_set 16 = .ok (.invokestatic 135, 3) := by decide +kernel
theorem dX6_set_19 : decode cX6_set 19 = .ok (.i2l, 1) := by decide +kernel
theorem dX6_set_20 : decode cX6_set 20 = .ok (.invokestatic 54, 3) := by decide +kernel
theorem dX6_set_23 : decode cX6_set 23 = .ok (.ifCond .eq 14, 3) := by decide +kernel
theorem dX6_set_26 : decode cX6_set 26 = .ok (.aload_n 0, 1) := by decide +kernel
theorem dX6_set_27 : decode cX6_set 27 = .ok (.iconst 3, 1) := by decide +kernel
theorem dX6_set_28 : decode cX6_set 28 = .ok (.iload_n 1, 1) := by decide +kernel
theorem dX6_set_29 : decode cX6_set 29 = .ok (.iadd, 1) := by decide +kernel
theorem dX6_set_30 : decode cX6_set 30 = .ok (.iload_n 2, 1) := by decide +kernel
theorem dX6_set_31 : decode cX6_set 31 = .ok (.invokevirtual 156, 3) := by decide +kernel
theorem dX6_set_34 : decode cX6_set 34 = .ok (.goto 4, 3) := by decide +kernel
theorem dX6_set_37 : decode cX6_set 37 = .ok (.iconst (-1), 1) := by decide +kernel
theorem dX6_set_38 : decode cX6_set 38 = .ok (.ireturn, 1) := by decide +kernel
theorem dX6_lawOf_0 : decode cX6_lawOf 0 = .ok (.iload_n 1, 1) := by decide +kernel
theorem dX6_lawOf_1 : decode cX6_lawOf 1 = .ok (.i2l, 1) := by decide +kernel
theorem dX6_lawOf_2 : decode cX6_lawOf 2 = .ok (.lconst 0, 1) := by decide +kernel
theorem dX6_lawOf_3 : decode cX6_lawOf 3 = .ok (.ldc2_w 154, 3) := by decide +kernel
theorem dX6_lawOf_6 : decode cX6_lawOf 6 = .ok (.invokestatic 54, 3) := by decide +kernel
theorem dX6_lawOf_9 : decode cX6_lawOf 9 = .ok (.ifCond .eq 14, 3) := by decide +kernel
theorem dX6_lawOf_12 : decode cX6_lawOf 12 = .ok (.aload_n 0, 1) := by decide +kernel
theorem dX6_lawOf_13 : decode cX6_lawOf 13 = .ok (.getfield 7, 3) := by decide +kernel
theorem dX6_lawOf_16 : decode cX6_lawOf 16 = .ok (.iconst 3, 1) := by decide +kernel
theorem dX6_lawOf_17 : decode cX6_lawOf 17 = .ok (.iload_n 1, 1) := by decide +kernel
theorem dX6_lawOf_18 : decode cX6_lawOf 18 = .ok (.iadd, 1) := by decide +kernel
theorem dX6_lawOf_19 : decode cX6_lawOf 19 = .ok (.iaload, 1) := by decide +kernel
theorem dX6_lawOf_20 : decode cX6_lawOf 20 = .ok (.goto 4, 3) := by decide +kernel
theorem dX6_lawOf_23 : decode cX6_lawOf 23 = .ok (.iconst (-1), 1) := by decide +kernel
theorem dX6_lawOf_24 : decode cX6_lawOf 24 = .ok (.ireturn, 1) := by decide +kernel
theorem dX6_arrives_0 : decode cX6_arrives 0 = .ok (.bipush 31, 2) := by decide +kernel
theorem dX6_arrives_2 : decode cX6_arrives 2 = .ok (.iconst 4, 1) := by decide +kernel
theorem dX6_arrives_3 : decode cX6_arrives 3 = .ok (.aload_n 0, 1) := by decide +kernel
theorem dX6_arrives_4 : decode cX6_arrives 4 = .ok (.getfield 7, 3) := by decide +kernel
theorem dX6_arrives_7 : decode cX6_arrives 7 = .ok (.iconst 0, 1) := by decide +kernel
theorem dX6_arrives_8 : decode cX6_arrives 8 = .ok (.iaload, 1) := by decide +kernel
theorem dX6_arrives_9 : decode cX6_arrives 9 = .ok (.imul, 1) := by decide +kernel
theorem dX6_arrives_10 : decode cX6_arrives 10 = .ok (.iadd, 1) := by decide +kernel
theorem dX6_arrives_11 : decode cX6_arrives 11 = .ok (.istore 4, 2) := by decide +kernel
theorem dX6_arrives_13 : decode cX6_arrives 13 = .ok (.aload_n 0, 1) := by decide +kernel
theorem dX6_arrives_14 : decode cX6_arrives 14 = .ok (.getfield 7, 3) := by decide +kernel
theorem dX6_arrives_17 : decode cX6_arrives 17 = .ok (.iload 4, 2) := by decide +kernel
theorem dX6_arrives_19 : decode cX6_arrives 19 = .ok (.iload_n 1, 1) := by decide +kernel
theorem dX6_arrives_20 : decode cX6_arrives 20 = .ok (.iastore, 1) := by decide +kernel
theorem dX6_arrives_21 : decode cX6_arrives 21 = .ok (.aload_n 0, 1) := by decide +kernel
theorem dX6_arrives_22 : decode cX6_arrives 22 = .ok (.getfield 7, 3) := by decide +kernel
theorem dX6_arrives_25 : decode cX6_arrives 25 = .ok (.iload 4, 2) := by decide +kernel
theorem dX6_arrives_27 : decode cX6_arrives 27 = .ok (.iconst 1, 1) := by decide +kernel
theorem dX6_arrives_28 : decode cX6_arrives 28 = .ok (.iadd, 1) := by decide +kernel
theorem dX6_arrives_29 : decode cX6_arrives 29 = .ok (.iload_n 2, 1) := by decide +kernel
theorem dX6_arrives_30 : decode cX6_arrives 30 = .ok (.iastore, 1) := by decide +kernel
theorem dX6_arrives_31 : decode cX6_arrives 31 = .ok (.aload_n 0, 1) := by decide +kernel
theorem dX6_arrives_32 : decode cX6_arrives 32 = .ok (.getfield 7, 3) := by decide +kernel
theorem dX6_arrives_35 : decode cX6_arrives 35 = .ok (.iload 4, 2) := by decide +kernel
theorem dX6_arrives_37 : decode cX6_arrives 37 = .ok (.iconst 2, 1) := by decide +kernel
theorem dX6_arrives_38 : decode cX6_arrives 38 = .ok (.iadd, 1) := by decide +kernel
theorem dX6_arrives_39 : decode cX6_arrives 39 = .ok (.iload_n 3, 1) := by decide +kernel
theorem dX6_arrives_40 : decode cX6_arrives 40 = .ok (.iastore, 1) := by decide +kernel
theorem dX6_arrives_41 : decode cX6_arrives 41 = .ok (.aload_n 0, 1) := by decide +kernel
theorem dX6_arrives_42 : decode cX6_arrives 42 = .ok (.getfield 7, 3) := by decide +kernel
theorem dX6_arrives_45 : decode cX6_arrives 45 = .ok (.iload 4, 2) := by decide +kernel
theorem dX6_arrives_47 : decode cX6_arrives 47 = .ok (.iconst 3, 1) := by decide +kernel
theorem dX6_arrives_48 : decode cX6_arrives 48 = .ok (.iadd, 1) := by decide +kernel
theorem dX6_arrives_49 : decode cX6_arrives 49 = .ok (.iconst 1, 1) := by decide +kernel
theorem dX6_arrives_50 : decode cX6_arrives 50 = .ok (.iload_n 3, 1) := by decide +kernel
theorem dX6_arrives_51 : decode cX6_arrives 51 = .ok (.ishl, 1) := by decide +kernel
theorem dX6_arrives_52 : decode cX6_arrives 52 = .ok (.iastore, 1) := by decide +kernel
theorem dX6_arrives_53 : decode cX6_arrives 53 = .ok (.aload_n 0, 1) := by decide +kernel
theorem dX6_arrives_54 : decode cX6_arrives 54 = .ok (.getfield 7, 3) := by decide +kernel
theorem dX6_arrives_57 : decode cX6_arrives 57 = .ok (.iconst 0, 1) := by decide +kernel
theorem dX6_arrives_58 : decode cX6_arrives 58 = .ok (.dup2, 1) := by decide +kernel
theorem dX6_arrives_59 : decode cX6_arrives 59 = .ok (.iaload, 1) := by decide +kernel
theorem dX6_arrives_60 : decode cX6_arrives 60 = .ok (.iconst 1, 1) := by decide +kernel
theorem dX6_arrives_61 : decode cX6_arrives 61 = .ok (.iadd, 1) := by decide +kernel
theorem dX6_arrives_62 : decode cX6_arrives 62 = .ok (.iastore, 1) := by decide +kernel
theorem dX6_arrives_63 : decode cX6_arrives 63 = .ok (.return_, 1) := by decide +kernel
theorem dX6_tale_0 : decode cX6_tale 0 = .ok (.iload_n 1, 1) := by decide +kernel
theorem dX6_tale_1 : decode cX6_tale 1 = .ok (.i2l, 1) := by decide +kernel
theorem dX6_tale_2 : decode cX6_tale 2 = .ok (.lconst 0, 1) := by decide +kernel
theorem dX6_tale_3 : decode cX6_tale 3 = .ok (.ldc2_w 160, 3) := by decide +kernel
theorem dX6_tale_6 : decode cX6_tale 6 = .ok (.invokestatic 54, 3) := by decide +kernel
theorem dX6_tale_9 : decode cX6_tale 9 = .ok (.ifCond .eq 22, 3) := by decide +kernel
theorem dX6_tale_12 : decode cX6_tale 12 = .ok (.iload_n 2, 1) := by decide +kernel
theorem dX6_tale_13 : decode cX6_tale 13 = .ok (.i2l, 1) := by decide +kernel
theorem dX6_tale_14 : decode cX6_tale 14 = .ok (.lconst 0, 1) := by decide +kernel
theorem dX6_tale_15 : decode cX6_tale 15 = .ok (.ldc2_w 162, 3) := by decide +kernel
theorem dX6_tale_18 : decode cX6_tale 18 = .ok (.invokestatic 54, 3) := by decide +kernel
theorem dX6_tale_21 : decode cX6_tale 21 = .ok (.ifCond .eq 10, 3) := by decide +kernel
theorem dX6_tale_24 : decode cX6_tale 24 = .ok (.iload_n 3, 1) := by decide +kernel
theorem dX6_tale_25 : decode cX6_tale 25 = .ok (.invokestatic 164, 3) := by decide +kernel
theorem dX6_tale_28 : decode cX6_tale 28 = .ok (.ifCond .ne 5, 3) := by decide +kernel
theorem dX6_tale_31 : decode cX6_tale 31 = .ok (.iconst (-1), 1) := by decide +kernel
theorem dX6_tale_32 : decode cX6_tale 32 = .ok (.ireturn, 1) := by decide +kernel
theorem dX6_tale_33 : decode cX6_tale 33 = .ok (.aload_n 0, 1) := by decide +kernel
theorem dX6_tale_34 : decode cX6_tale 34 = .ok (.getfield 7, 3) := by decide +kernel
theorem dX6_tale_37 : decode cX6_tale 37 = .ok (.iconst 0, 1) := by decide +kernel
theorem dX6_tale_38 : decode cX6_tale 38 = .ok (.iaload, 1) := by decide +kernel
theorem dX6_tale_39 : decode cX6_tale 39 = .ok (.bipush 8, 2) := by decide +kernel
theorem dX6_tale_41 : decode cX6_tale 41 = .ok (.if_icmp .ne 6, 3) := by decide +kernel
theorem dX6_tale_44 : decode cX6_tale 44 = .ok (.bipush (-2), 2) := by decide +kernel
theorem dX6_tale_46 : decode cX6_tale 46 = .ok (.ireturn, 1) := by decide +kernel
theorem dX6_tale_47 : decode cX6_tale 47 = .ok (.aload_n 0, 1) := by decide +kernel
theorem dX6_tale_48 : decode cX6_tale 48 = .ok (.iload_n 1, 1) := by decide +kernel
theorem dX6_tale_49 : decode cX6_tale 49 = .ok (.iload_n 2, 1) := by decide +kernel
theorem dX6_tale_50 : decode cX6_tale 50 = .ok (.iload_n 3, 1) := by decide +kernel
theorem dX6_tale_51 : decode cX6_tale 51 = .ok (.invokevirtual 116, 3) := by decide +kernel
theorem dX6_tale_54 : decode cX6_tale 54 = .ok (.aload_n 0, 1) := by decide +kernel
theorem dX6_tale_55 : decode cX6_tale 55 = .ok (.getfield 7, 3) := by decide +kernel
theorem dX6_tale_58 : decode cX6_tale 58 = .ok (.iconst 0, 1) := by decide +kernel
theorem dX6_tale_59 : decode cX6_tale 59 = .ok (.iaload, 1) := by decide +kernel
theorem dX6_tale_60 : decode cX6_tale 60 = .ok (.iconst 1, 1) := by decide +kernel
theorem dX6_tale_61 : decode cX6_tale 61 = .ok (.isub, 1) := by decide +kernel
theorem dX6_tale_62 : decode cX6_tale 62 = .ok (.ireturn, 1) := by decide +kernel
theorem dX6_cools_0 : decode cX6_cools 0 = .ok (.aload_n 0, 1) := by decide +kernel
theorem dX6_cools_1 : decode cX6_cools 1 = .ok (.getfield 7, 3) := by decide +kernel
theorem dX6_cools_4 : decode cX6_cools 4 = .ok (.iconst 3, 1) := by decide +kernel
theorem dX6_cools_5 : decode cX6_cools 5 = .ok (.iaload, 1) := by decide +kernel
theorem dX6_cools_6 : decode cX6_cools 6 = .ok (.istore_n 2, 1) := by decide +kernel
theorem dX6_cools_7 : decode cX6_cools 7 = .ok (.aload_n 0, 1) := by decide +kernel
theorem dX6_cools_8 : decode cX6_cools 8 = .ok (.iload_n 1, 1) := by decide +kernel
theorem dX6_cools_9 : decode cX6_cools 9 = .ok (.iconst 0, 1) := by decide +kernel
theorem dX6_cools_10 : decode cX6_cools 10 = .ok (.invokevirtual 167, 3) := by decide +kernel
theorem dX6_cools_13 : decode cX6_cools 13 = .ok (.tableswitch 89 1 5 #[35, 39, 43, 54, 68], 35) := by decide +kernel
theorem dX6_cools_48 : decode cX6_cools 48 = .ok (.iload_n 2, 1) := by decide +kernel
theorem dX6_cools_49 : decode cX6_cools 49 = .ok (.iconst 1, 1) := by decide +kernel
theorem dX6_cools_50 : decode cX6_cools 50 = .ok (.isub, 1) := by decide +kernel
theorem dX6_cools_51 : decode cX6_cools 51 = .ok (.ireturn, 1) := by decide +kernel
theorem dX6_cools_52 : decode cX6_cools 52 = .ok (.iconst 2, 1) := by decide +kernel
theorem dX6_cools_53 : decode cX6_cools 53 = .ok (.iload_n 2, 1) := by decide +kernel
theorem dX6_cools_54 : decode cX6_cools 54 = .ok (.imul, 1) := by decide +kernel
theorem dX6_cools_55 : decode cX6_cools 55 = .ok (.ireturn, 1) := by decide +kernel
theorem dX6_cools_56 : decode cX6_cools 56 = .ok (.iload_n 2, 1) := by decide +kernel
theorem dX6_cools_57 : decode cX6_cools 57 = .ok (.iconst 1, 1) := by decide +kernel
theorem dX6_cools_58 : decode cX6_cools 58 = .ok (.isub, 1) := by decide +kernel
theorem dX6_cools_59 : decode cX6_cools 59 = .ok (.aload_n 0, 1) := by decide +kernel
theorem dX6_cools_60 : decode cX6_cools 60 = .ok (.getfield 7, 3) := by decide +kernel
theorem dX6_cools_63 : decode cX6_cools 63 = .ok (.iconst 4, 1) := by decide +kernel
theorem dX6_cools_64 : decode cX6_cools 64 = .ok (.iaload, 1) := by decide +kernel
theorem dX6_cools_65 : decode cX6_cools 65 = .ok (.isub, 1) := by decide +kernel
theorem dX6_cools_66 : decode cX6_cools 66 = .ok (.ireturn, 1) := by decide +kernel
theorem dX6_cools_67 : decode cX6_cools 67 = .ok (.iconst 2, 1) := by decide +kernel
theorem dX6_cools_68 : decode cX6_cools 68 = .ok (.iload_n 2, 1) := by decide +kernel
theorem dX6_cools_69 : decode cX6_cools 69 = .ok (.imul, 1) := by decide +kernel
theorem dX6_cools_70 : decode cX6_cools 70 = .ok (.aload_n 0, 1) := by decide +kernel
theorem dX6_cools_71 : decode cX6_cools 71 = .ok (.iload_n 1, 1) := by decide +kernel
theorem dX6_cools_72 : decode cX6_cools 72 = .ok (.iconst 3, 1) := by decide +kernel
theorem dX6_cools_73 : decode cX6_cools 73 = .ok (.invokevirtual 167, 3) := by decide +kernel
theorem dX6_cools_76 : decode cX6_cools 76 = .ok (.invokestatic 170, 3) := by decide +kernel
theorem dX6_cools_79 : decode cX6_cools 79 = .ok (.iadd, 1) := by decide +kernel
theorem dX6_cools_80 : decode cX6_cools 80 = .ok (.ireturn, 1) := by decide +kernel
theorem dX6_cools_81 : decode cX6_cools 81 = .ok (.aload_n 0, 1) := by decide +kernel
theorem dX6_cools_82 : decode cX6_cools 82 = .ok (.iload_n 1, 1) := by decide +kernel
theorem dX6_cools_83 : decode cX6_cools 83 = .ok (.iconst 1, 1) := by decide +kernel
theorem dX6_cools_84 : decode cX6_cools 84 = .ok (.invokevirtual 167, 3) := by decide +kernel
theorem dX6_cools_87 : decode cX6_cools 87 = .ok (.aload_n 0, 1) := by decide +kernel
theorem dX6_cools_88 : decode cX6_cools 88 = .ok (.getfield 7, 3) := by decide +kernel
theorem dX6_cools_91 : decode cX6_cools 91 = .ok (.iconst 5, 1) := by decide +kernel
theorem dX6_cools_92 : decode cX6_cools 92 = .ok (.iaload, 1) := by decide +kernel
theorem dX6_cools_93 : decode cX6_cools 93 = .ok (.if_icmp .le 7, 3) := by decide +kernel
theorem dX6_cools_96 : decode cX6_cools 96 = .ok (.iconst (-1), 1) := by decide +kernel
theorem dX6_cools_97 : decode cX6_cools 97 = .ok (.goto 4, 3) := by decide +kernel
theorem dX6_cools_100 : decode cX6_cools 100 = .ok (.iload_n 2, 1) := by decide +kernel
theorem dX6_cools_101 : decode cX6_cools 101 = .ok (.ireturn, 1) := by decide +kernel
theorem dX6_cools_102 : decode cX6_cools 102 = .ok (.iload_n 2, 1) := by decide +kernel
theorem dX6_cools_103 : decode cX6_cools 103 = .ok (.ireturn, 1) := by decide +kernel
theorem dX6_doors_0 : decode cX6_doors 0 = .ok (.aload_n 0, 1) := by decide +kernel
theorem dX6_doors_1 : decode cX6_doors 1 = .ok (.iload_n 1, 1) := by decide +kernel
theorem dX6_doors_2 : decode cX6_doors 2 = .ok (.iconst 0, 1) := by decide +kernel
theorem dX6_doors_3 : decode cX6_doors 3 = .ok (.invokevirtual 167, 3) := by decide +kernel
theorem dX6_doors_6 : decode cX6_doors 6 = .ok (.tableswitch 66 2 5 #[30, 30, 32, 49], 30) := by decide +kernel
theorem dX6_doors_36 : decode cX6_doors 36 = .ok (.iconst 2, 1) := by decide +kernel
theorem dX6_doors_37 : decode cX6_doors 37 = .ok (.ireturn, 1) := by decide +kernel
theorem dX6_doors_38 : decode cX6_doors 38 = .ok (.aload_n 0, 1) := by decide +kernel
theorem dX6_doors_39 : decode cX6_doors 39 = .ok (.getfield 7, 3) := by decide +kernel
theorem dX6_doors_42 : decode cX6_doors 42 = .ok (.iconst 1, 1) := by decide +kernel
theorem dX6_doors_43 : decode cX6_doors 43 = .ok (.iaload, 1) := by decide +kernel
theorem dX6_doors_44 : decode cX6_doors 44 = .ok (.iconst 2, 1) := by decide +kernel
theorem dX6_doors_45 : decode cX6_doors 45 = .ok (.irem, 1) := by decide +kernel
theorem dX6_doors_46 : decode cX6_doors 46 = .ok (.ifCond .ne 7, 3) := by decide +kernel
theorem dX6_doors_49 : decode cX6_doors 49 = .ok (.iconst 2, 1) := by decide +kernel
theorem dX6_doors_50 : decode cX6_doors 50 = .ok (.goto 4, 3) := by decide +kernel
theorem dX6_doors_53 : decode cX6_doors 53 = .ok (.iconst 1, 1) := by decide +kernel
theorem dX6_doors_54 : decode cX6_doors 54 = .ok (.ireturn, 1) := by decide +kernel
theorem dX6_doors_55 : decode cX6_doors 55 = .ok (.aload_n 0, 1) := by decide +kernel
theorem dX6_doors_56 : decode cX6_doors 56 = .ok (.getfield 7, 3) := by decide +kernel
theorem dX6_doors_59 : decode cX6_doors 59 = .ok (.iconst 1, 1) := by decide +kernel
theorem dX6_doors_60 : decode cX6_doors 60 = .ok (.iaload, 1) := by decide +kernel
theorem dX6_doors_61 : decode cX6_doors 61 = .ok (.iconst 3, 1) := by decide +kernel
theorem dX6_doors_62 : decode cX6_doors 62 = .ok (.irem, 1) := by decide +kernel
theorem dX6_doors_63 : decode cX6_doors 63 = .ok (.ifCond .ne 7, 3) := by decide +kernel
theorem dX6_doors_66 : decode cX6_doors 66 = .ok (.iconst 1, 1) := by decide +kernel
theorem dX6_doors_67 : decode cX6_doors 67 = .ok (.goto 4, 3) := by decide +kernel
theorem dX6_doors_70 : decode cX6_doors 70 = .ok (.iconst 0, 1) := by decide +kernel
theorem dX6_doors_71 : decode cX6_doors 71 = .ok (.ireturn, 1) := by decide +kernel
theorem dX6_doors_72 : decode cX6_doors 72 = .ok (.iconst 1, 1) := by decide +kernel
theorem dX6_doors_73 : decode cX6_doors 73 = .ok (.ireturn, 1) := by decide +kernel
theorem dX6_of_0 : decode cX6_of 0 = .ok (.aload_n 0, 1) := by decide +kernel
theorem dX6_of_1 : decode cX6_of 1 = .ok (.iload_n 1, 1) := by decide +kernel
theorem dX6_of_2 : decode cX6_of 2 = .ok (.invokevirtual 173, 3) := by decide +kernel
theorem dX6_of_5 : decode cX6_of 5 = .ok (.ifCond .eq 24, 3) := by decide +kernel
theorem dX6_of_8 : decode cX6_of 8 = .ok (.iload_n 2, 1) := by decide +kernel
theorem dX6_of_9 : decode cX6_of 9 = .ok (.i2l, 1) := by decide +kernel
theorem dX6_of_10 : decode cX6_of 10 = .ok (.lconst 0, 1) := by decide +kernel
theorem dX6_of_11 : decode cX6_of 11 = .ok (.ldc2_w 154, 3) := by decide +kernel
theorem dX6_of_14 : decode cX6_of 14 = .ok (.invokestatic 54, 3) := by decide +kernel
theorem dX6_of_17 : decode cX6_of 17 = .ok (.ifCond .eq 12, 3) := by decide +kernel
theorem dX6_of_20 : decode cX6_of 20 = .ok (.aload_n 0, 1) := by decide +kernel
theorem dX6_of_21 : decode cX6_of 21 = .ok (.iload_n 1, 1) := by decide +kernel
theorem dX6_of_22 : decode cX6_of 22 = .ok (.iload_n 2, 1) := by decide +kernel
theorem dX6_of_23 : decode cX6_of 23 = .ok (.invokevirtual 167, 3) := by decide +kernel
theorem dX6_of_26 : decode cX6_of 26 = .ok (.goto 4, 3) := by decide +kernel
theorem dX6_of_29 : decode cX6_of 29 = .ok (.iconst (-1), 1) := by decide +kernel
theorem dX6_of_30 : decode cX6_of 30 = .ok (.ireturn, 1) := by decide +kernel
theorem dX6_does_0 : decode cX6_does 0 = .ok (.aload_n 0, 1) := by decide +kernel
theorem dX6_does_1 : decode cX6_does 1 = .ok (.iload_n 1, 1) := by decide +kernel
theorem dX6_does_2 : decode cX6_does 2 = .ok (.invokevirtual 173, 3) := by decide +kernel
theorem dX6_does_5 : decode cX6_does 5 = .ok (.ifCond .eq 13, 3) := by decide +kernel
theorem dX6_does_8 : decode cX6_does 8 = .ok (.iload_n 2, 1) := by decide +kernel
theorem dX6_does_9 : decode cX6_does 9 = .ok (.i2l, 1) := by decide +kernel
theorem dX6_does_10 : decode cX6_does 10 = .ok (.lconst 0, 1) := by decide +kernel
theorem dX6_does_11 : decode cX6_does 11 = .ok (.lconst 1, 1) := by decide +kernel
theorem dX6_does_12 : decode cX6_does 12 = .ok (.invokestatic 54, 3) := by decide +kernel
theorem dX6_does_15 : decode cX6_does 15 = .ok (.ifCond .ne 5, 3) := by decide +kernel
theorem dX6_does_18 : decode cX6_does 18 = .ok (.iconst (-1), 1) := by decide +kernel
theorem dX6_does_19 : decode cX6_does 19 = .ok (.ireturn, 1) := by decide +kernel
theorem dX6_does_20 : decode cX6_does 20 = .ok (.sipush 1000, 3) := by decide +kernel
theorem dX6_does_23 : decode cX6_does 23 = .ok (.iload_n 2, 1) := by decide +kernel
theorem dX6_does_24 : decode cX6_does 24 = .ok (.ifCond .ne 11, 3) := by decide +kernel
theorem dX6_does_27 : decode cX6_does 27 = .ok (.aload_n 0, 1) := by decide +kernel
theorem dX6_does_28 : decode cX6_does 28 = .ok (.iload_n 1, 1) := by decide +kernel
theorem dX6_does_29 : decode cX6_does 29 = .ok (.invokevirtual 176, 3) := by decide +kernel
theorem dX6_does_32 : decode cX6_does 32 = .ok (.goto 8, 3) := by decide +kernel
theorem dX6_does_35 : decode cX6_does 35 = .ok (.aload_n 0, 1) := by decide +kernel
theorem dX6_does_36 : decode cX6_does 36 = .ok (.iload_n 1, 1) := by decide +kernel
theorem dX6_does_37 : decode cX6_does 37 = .ok (.invokevirtual 179, 3) := by decide +kernel
theorem dX6_does_40 : decode cX6_does 40 = .ok (.iadd, 1) := by decide +kernel
theorem dX6_does_41 : decode cX6_does 41 = .ok (.ireturn, 1) := by decide +kernel
theorem dX6_mind_0 : decode cX6_mind 0 = .ok (.aload_n 0, 1) := by decide +kernel
theorem dX6_mind_1 : decode cX6_mind 1 = .ok (.iload_n 1, 1) := by decide +kernel
theorem dX6_mind_2 : decode cX6_mind 2 = .ok (.invokevirtual 173, 3) := by decide +kernel
theorem dX6_mind_5 : decode cX6_mind 5 = .ok (.ifCond .eq 29, 3) := by decide +kernel
theorem dX6_mind_8 : decode cX6_mind 8 = .ok (.iload_n 2, 1) := by decide +kernel
theorem dX6_mind_9 : decode cX6_mind 9 = .ok (.i2l, 1) := by decide +kernel
theorem dX6_mind_10 : decode cX6_mind 10 = .ok (.lconst 0, 1) := by decide +kernel
theorem dX6_mind_11 : decode cX6_mind 11 = .ok (.ldc2_w 160, 3) := by decide +kernel
theorem dX6_mind_14 : decode cX6_mind 14 = .ok (.invokestatic 54, 3) := by decide +kernel
theorem dX6_mind_17 : decode cX6_mind 17 = .ok (.ifCond .eq 17, 3) := by decide +kernel
theorem dX6_mind_20 : decode cX6_mind 20 = .ok (.aload_n 0, 1) := by decide +kernel
theorem dX6_mind_21 : decode cX6_mind 21 = .ok (.bipush 31, 2) := by decide +kernel
theorem dX6_mind_23 : decode cX6_mind 23 = .ok (.iconst 4, 1) := by decide +kernel
theorem dX6_mind_24 : decode cX6_mind 24 = .ok (.iload_n 1, 1) := by decide +kernel
theorem dX6_mind_25 : decode cX6_mind 25 = .ok (.imul, 1) := by decide +kernel
theorem dX6_mind_26 : decode cX6_mind 26 = .ok (.iadd, 1) := by decide +kernel
theorem dX6_mind_27 : decode cX6_mind 27 = .ok (.iload_n 2, 1) := by decide +kernel
theorem dX6_mind_28 : decode cX6_mind 28 = .ok (.invokevirtual 156, 3) := by decide +kernel
theorem dX6_mind_31 : decode cX6_mind 31 = .ok (.goto 4, 3) := by decide +kernel
theorem dX6_mind_34 : decode cX6_mind 34 = .ok (.iconst (-1), 1) := by decide +kernel
theorem dX6_mind_35 : decode cX6_mind 35 = .ok (.ireturn, 1) := by decide +kernel
theorem dX6_warm_0 : decode cX6_warm 0 = .ok (.aload_n 0, 1) := by decide +kernel
theorem dX6_warm_1 : decode cX6_warm 1 = .ok (.iload_n 1, 1) := by decide +kernel
theorem dX6_warm_2 : decode cX6_warm 2 = .ok (.invokevirtual 173, 3) := by decide +kernel
theorem dX6_warm_5 : decode cX6_warm 5 = .ok (.ifCond .eq 31, 3) := by decide +kernel
theorem dX6_warm_8 : decode cX6_warm 8 = .ok (.iload_n 2, 1) := by decide +kernel
theorem dX6_warm_9 : decode cX6_warm 9 = .ok (.i2l, 1) := by decide +kernel
theorem dX6_warm_10 : decode cX6_warm 10 = .ok (.lconst 0, 1) := by decide +kernel
theorem dX6_warm_11 : decode cX6_warm 11 = .ok (.ldc2_w 162, 3) := by decide +kernel
theorem dX6_warm_14 : decode cX6_warm 14 = .ok (.invokestatic 54, 3) := by decide +kernel
theorem dX6_warm_17 : decode cX6_warm 17 = .ok (.ifCond .eq 19, 3) := by decide +kernel
theorem dX6_warm_20 : decode cX6_warm 20 = .ok (.aload_n 0, 1) := by decide +kernel
theorem dX6_warm_21 : decode cX6_warm 21 = .ok (.bipush 31, 2) := by decide +kernel
theorem dX6_warm_23 : decode cX6_warm 23 = .ok (.iconst 4, 1) := by decide +kernel
theorem dX6_warm_24 : decode cX6_warm 24 = .ok (.iload_n 1, 1) := by decide +kernel
theorem dX6_warm_25 : decode cX6_warm 25 = .ok (.imul, 1) := by decide +kernel
theorem dX6_warm_26 : decode cX6_warm 26 = .ok (.iadd, 1) := by decide +kernel
theorem dX6_warm_27 : decode cX6_warm 27 = .ok (.iconst 1, 1) := by decide +kernel
theorem dX6_warm_28 : decode cX6_warm 28 = .ok (.iadd, 1) := by decide +kernel
theorem dX6_warm_29 : decode cX6_warm 29 = .ok (.iload_n 2, 1) := by decide +kernel
theorem dX6_warm_30 : decode cX6_warm 30 = .ok (.invokevirtual 156, 3) := by decide +kernel
theorem dX6_warm_33 : decode cX6_warm 33 = .ok (.goto 4, 3) := by decide +kernel
theorem dX6_warm_36 : decode cX6_warm 36 = .ok (.iconst (-1), 1) := by decide +kernel
theorem dX6_warm_37 : decode cX6_warm 37 = .ok (.ireturn, 1) := by decide +kernel
theorem dX6_reaches_0 : decode cX6_reaches 0 = .ok (.aload_n 0, 1) := by decide +kernel
theorem dX6_reaches_1 : decode cX6_reaches 1 = .ok (.getfield 7, 3) := by decide +kernel
theorem dX6_reaches_4 : decode cX6_reaches 4 = .ok (.bipush 31, 2) := by decide +kernel
theorem dX6_reaches_6 : decode cX6_reaches 6 = .ok (.iconst 4, 1) := by decide +kernel
theorem dX6_reaches_7 : decode cX6_reaches 7 = .ok (.iload_n 1, 1) := by decide +kernel
theorem dX6_reaches_8 : decode cX6_reaches 8 = .ok (.imul, 1) := by decide +kernel
theorem dX6_reaches_9 : decode cX6_reaches 9 = .ok (.iadd, 1) := by decide +kernel
theorem dX6_reaches_10 : decode cX6_reaches 10 = .ok (.iconst 2, 1) := by decide +kernel
theorem dX6_reaches_11 : decode cX6_reaches 11 = .ok (.iadd, 1) := by decide +kernel
theorem dX6_reaches_12 : decode cX6_reaches 12 = .ok (.iload_n 2, 1) := by decide +kernel
theorem dX6_reaches_13 : decode cX6_reaches 13 = .ok (.iastore, 1) := by decide +kernel
theorem dX6_reaches_14 : decode cX6_reaches 14 = .ok (.aload_n 0, 1) := by decide +kernel
theorem dX6_reaches_15 : decode cX6_reaches 15 = .ok (.getfield 7, 3) := by decide +kernel
theorem dX6_reaches_18 : decode cX6_reaches 18 = .ok (.bipush 31, 2) := by decide +kernel
theorem dX6_reaches_20 : decode cX6_reaches 20 = .ok (.iconst 4, 1) := by decide +kernel
theorem dX6_reaches_21 : decode cX6_reaches 21 = .ok (.iload_n 1, 1) := by decide +kernel
theorem dX6_reaches_22 : decode cX6_reaches 22 = .ok (.imul, 1) := by decide +kernel
theorem dX6_reaches_23 : decode cX6_reaches 23 = .ok (.iadd, 1) := by decide +kernel
theorem dX6_reaches_24 : decode cX6_reaches 24 = .ok (.iconst 3, 1) := by decide +kernel
theorem dX6_reaches_25 : decode cX6_reaches 25 = .ok (.iadd, 1) := by decide +kernel
theorem dX6_reaches_26 : decode cX6_reaches 26 = .ok (.dup2, 1) := by decide +kernel
theorem dX6_reaches_27 : decode cX6_reaches 27 = .ok (.iaload, 1) := by decide +kernel
theorem dX6_reaches_28 : decode cX6_reaches 28 = .ok (.iconst 1, 1) := by decide +kernel
theorem dX6_reaches_29 : decode cX6_reaches 29 = .ok (.iload_n 2, 1) := by decide +kernel
theorem dX6_reaches_30 : decode cX6_reaches 30 = .ok (.ishl, 1) := by decide +kernel
theorem dX6_reaches_31 : decode cX6_reaches 31 = .ok (.ior, 1) := by decide +kernel
theorem dX6_reaches_32 : decode cX6_reaches 32 = .ok (.iastore, 1) := by decide +kernel
theorem dX6_reaches_33 : decode cX6_reaches 33 = .ok (.return_, 1) := by decide +kernel
theorem dX6_carry_0 : decode cX6_carry 0 = .ok (.aload_n 0, 1) := by decide +kernel
theorem dX6_carry_1 : decode cX6_carry 1 = .ok (.iload_n 1, 1) := by decide +kernel
theorem dX6_carry_2 : decode cX6_carry 2 = .ok (.invokevirtual 173, 3) := by decide +kernel
theorem dX6_carry_5 : decode cX6_carry 5 = .ok (.ifCond .eq 10, 3) := by decide +kernel
theorem dX6_carry_8 : decode cX6_carry 8 = .ok (.iload_n 2, 1) := by decide +kernel
theorem dX6_carry_9 : decode cX6_carry 9 = .ok (.invokestatic 164, 3) := by decide +kernel
theorem dX6_carry_12 : decode cX6_carry 12 = .ok (.ifCond .ne 5, 3) := by decide +kernel
theorem dX6_carry_15 : decode cX6_carry 15 = .ok (.iconst (-1), 1) := by decide +kernel
theorem dX6_carry_16 : decode cX6_carry 16 = .ok (.ireturn, 1) := by decide +kernel
theorem dX6_carry_17 : decode cX6_carry 17 = .ok (.aload_n 0, 1) := by decide +kernel
theorem dX6_carry_18 : decode cX6_carry 18 = .ok (.iload_n 1, 1) := by decide +kernel
theorem dX6_carry_19 : decode cX6_carry 19 = .ok (.iconst 2, 1) := by decide +kernel
theorem dX6_carry_20 : decode cX6_carry 20 = .ok (.invokevirtual 167, 3) := by decide +kernel
theorem dX6_carry_23 : decode cX6_carry 23 = .ok (.istore_n 3, 1) := by decide +kernel
theorem dX6_carry_24 : decode cX6_carry 24 = .ok (.aload_n 0, 1) := by decide +kernel
theorem dX6_carry_25 : decode cX6_carry 25 = .ok (.iload_n 1, 1) := by decide +kernel
theorem dX6_carry_26 : decode cX6_carry 26 = .ok (.iload_n 2, 1) := by decide +kernel
theorem dX6_carry_27 : decode cX6_carry 27 = .ok (.invokevirtual 182, 3) := by decide +kernel
theorem dX6_carry_30 : decode cX6_carry 30 = .ok (.iload_n 3, 1) := by decide +kernel
theorem dX6_carry_31 : decode cX6_carry 31 = .ok (.ireturn, 1) := by decide +kernel
theorem dX6_house_0 : decode cX6_house 0 = .ok (.iload_n 1, 1) := by decide +kernel
theorem dX6_house_1 : decode cX6_house 1 = .ok (.invokestatic 164, 3) := by decide +kernel
theorem dX6_house_4 : decode cX6_house 4 = .ok (.ifCond .eq 46, 3) := by decide +kernel
theorem dX6_house_7 : decode cX6_house 7 = .ok (.iload_n 2, 1) := by decide +kernel
theorem dX6_house_8 : decode cX6_house 8 = .ok (.i2l, 1) := by decide +kernel
theorem dX6_house_9 : decode cX6_house 9 = .ok (.lconst 0, 1) := by decide +kernel
theorem dX6_house_10 : decode cX6_house 10 = .ok (.ldc2_w 185, 3) := by decide +kernel
theorem dX6_house_13 : decode cX6_house 13 = .ok (.invokestatic 54, 3) := by decide +kernel
theorem dX6_house_16 : decode cX6_house 16 = .ok (.ifCond .eq 34, 3) := by decide +kernel
theorem dX6_house_19 : decode cX6_house 19 = .ok (.iload_n 3, 1) := by decide +kernel
theorem dX6_house_20 : decode cX6_house 20 = .ok (.i2l, 1) := by decide +kernel
theorem dX6_house_21 : decode cX6_house 21 = .ok (.lconst 0, 1) := by decide +kernel
theorem dX6_house_22 : decode cX6_house 22 = .ok (.iload_n 2, 1) := by decide +kernel
theorem dX6_house_23 : decode cX6_house 23 = .ok (.ifCond .ne 9, 3) := by decide +kernel
theorem dX6_house_26 : decode cX6_house 26 = .ok (.ldc2_w 187, 3) := by decide +kernel
theorem dX6_house_29 : decode cX6_house 29 = .ok (.goto 15, 3) := by decide +kernel
theorem dX6_house_32 : decode cX6_house 32 = .ok (.iload_n 2, 1) := by decide +kernel
theorem dX6_house_33 : decode cX6_house 33 = .ok (.iconst 1, 1) := by decide +kernel
theorem dX6_house_34 : decode cX6_house 34 = .ok (.if_icmp .ne 9, 3) := by decide +kernel
theorem dX6_house_37 : decode cX6_house 37 = .ok (.ldc2_w 162, 3) := by decide +kernel
theorem dX6_house_40 : decode cX6_house 40 = .ok (.goto 4, 3) := by decide +kernel
theorem dX6_house_43 : decode cX6_house 43 = .ok (.lconst 1, 1) := by decide +kernel
theorem dX6_house_44 : decode cX6_house 44 = .ok (.invokestatic 54, 3) := by decide +kernel
theorem dX6_house_47 : decode cX6_house 47 = .ok (.ifCond .ne 5, 3) := by decide +kernel
theorem dX6_house_50 : decode cX6_house 50 = .ok (.iconst (-1), 1) := by decide +kernel
theorem dX6_house_51 : decode cX6_house 51 = .ok (.ireturn, 1) := by decide +kernel
theorem dX6_house_52 : decode cX6_house 52 = .ok (.aload_n 0, 1) := by decide +kernel
theorem dX6_house_53 : decode cX6_house 53 = .ok (.bipush 7, 2) := by decide +kernel
theorem dX6_house_55 : decode cX6_house 55 = .ok (.bipush 8, 2) := by decide +kernel
theorem dX6_house_57 : decode cX6_house 57 = .ok (.iload_n 2, 1) := by decide +kernel
theorem dX6_house_58 : decode cX6_house 58 = .ok (.imul, 1) := by decide +kernel
theorem dX6_house_59 : decode cX6_house 59 = .ok (.iadd, 1) := by decide +kernel
theorem dX6_house_60 : decode cX6_house 60 = .ok (.iload_n 1, 1) := by decide +kernel
theorem dX6_house_61 : decode cX6_house 61 = .ok (.iadd, 1) := by decide +kernel
theorem dX6_house_62 : decode cX6_house 62 = .ok (.iload_n 3, 1) := by decide +kernel
theorem dX6_house_63 : decode cX6_house 63 = .ok (.invokevirtual 156, 3) := by decide +kernel
theorem dX6_house_66 : decode cX6_house 66 = .ok (.ireturn, 1) := by decide +kernel
theorem dX6_talesAt_0 : decode cX6_talesAt 0 = .ok (.iconst 0, 1) := by decide +kernel
theorem dX6_talesAt_1 : decode cX6_talesAt 1 = .ok (.istore_n 2, 1) := by decide +kernel
theorem dX6_talesAt_2 : decode cX6_talesAt 2 = .ok (.iconst 0, 1) := by decide +kernel
theorem dX6_talesAt_3 : decode cX6_talesAt 3 = .ok (.istore_n 3, 1) := by decide +kernel
theorem dX6_talesAt_4 : decode cX6_talesAt 4 = .ok (.iload_n 3, 1) := by decide +kernel
theorem dX6_talesAt_5 : decode cX6_talesAt 5 = .ok (.aload_n 0, 1) := by decide +kernel
theorem dX6_talesAt_6 : decode cX6_talesAt 6 = .ok (.getfield 7, 3) := by decide +kernel
theorem dX6_talesAt_9 : decode cX6_talesAt 9 = .ok (.iconst 0, 1) := by decide +kernel
theorem dX6_talesAt_10 : decode cX6_talesAt 10 = .ok (.iaload, 1) := by decide +kernel
theorem dX6_talesAt_11 : decode cX6_talesAt 11 = .ok (.if_icmp .ge 29, 3) := by decide +kernel
theorem dX6_talesAt_14 : decode cX6_talesAt 14 = .ok (.iload_n 2, 1) := by decide +kernel
theorem dX6_talesAt_15 : decode cX6_talesAt 15 = .ok (.aload_n 0, 1) := by decide +kernel
theorem dX6_talesAt_16 : decode cX6_talesAt 16 = .ok (.iload_n 3, 1) := by decide +kernel
theorem dX6_talesAt_17 : decode cX6_talesAt 17 = .ok (.iconst 2, 1) := by decide +kernel
theorem dX6_talesAt_18 : decode cX6_talesAt 18 = .ok (.invokevirtual 167, 3) := by decide +kernel
theorem dX6_talesAt_21 : decode cX6_talesAt 21 = .ok (.iload_n 1, 1) := by decide +kernel
theorem dX6_talesAt_22 : decode cX6_talesAt 22 = .ok (.if_icmp .ne 9, 3) := by decide +kernel
theorem dX6_talesAt_25 : decode cX6_talesAt 25 = .ok (.iconst 1, 1) := by decide +kernel
theorem dX6_talesAt_26 : decode cX6_talesAt 26 = .ok (.iload_n 3, 1) := by decide +kernel
theorem dX6_talesAt_27 : decode cX6_talesAt 27 = .ok (.ishl, 1) := by decide +kernel
theorem dX6_talesAt_28 : decode cX6_talesAt 28 = .ok (.goto 4, 3) := by decide +kernel
theorem dX6_talesAt_31 : decode cX6_talesAt 31 = .ok (.iconst 0, 1) := by decide +kernel
theorem dX6_talesAt_32 : decode cX6_talesAt 32 = .ok (.ior, 1) := by decide +kernel
theorem dX6_talesAt_33 : decode cX6_talesAt 33 = .ok (.istore_n 2, 1) := by decide +kernel
theorem dX6_talesAt_34 : decode cX6_talesAt 34 = .ok (.iinc 3 1, 3) := by decide +kernel
theorem dX6_talesAt_37 : decode cX6_talesAt 37 = .ok (.goto (-33), 3) := by decide +kernel
theorem dX6_talesAt_40 : decode cX6_talesAt 40 = .ok (.iload_n 2, 1) := by decide +kernel
theorem dX6_talesAt_41 : decode cX6_talesAt 41 = .ok (.ireturn, 1) := by decide +kernel
theorem dX6_loopOf_0 : decode cX6_loopOf 0 = .ok (.iconst 0, 1) := by decide +kernel
theorem dX6_loopOf_1 : decode cX6_loopOf 1 = .ok (.istore_n 2, 1) := by decide +kernel
theorem dX6_loopOf_2 : decode cX6_loopOf 2 = .ok (.iload_n 1, 1) := by decide +kernel
theorem dX6_loopOf_3 : decode cX6_loopOf 3 = .ok (.istore_n 3, 1) := by decide +kernel
theorem dX6_loopOf_4 : decode cX6_loopOf 4 = .ok (.iload_n 2, 1) := by decide +kernel
theorem dX6_loopOf_5 : decode cX6_loopOf 5 = .ok (.iload_n 3, 1) := by decide +kernel
theorem dX6_loopOf_6 : decode cX6_loopOf 6 = .ok (.ishr, 1) := by decide +kernel
theorem dX6_loopOf_7 : decode cX6_loopOf 7 = .ok (.iconst 1, 1) := by decide +kernel
theorem dX6_loopOf_8 : decode cX6_loopOf 8 = .ok (.iand, 1) := by decide +kernel
theorem dX6_loopOf_9 : decode cX6_loopOf 9 = .ok (.ifCond .ne 22, 3) := by decide +kernel
theorem dX6_loopOf_12 : decode cX6_loopOf 12 = .ok (.iload_n 2, 1) := by decide +kernel
theorem dX6_loopOf_13 : decode cX6_loopOf 13 = .ok (.iconst 1, 1) := by decide +kernel
theorem dX6_loopOf_14 : decode cX6_loopOf 14 = .ok (.iload_n 3, 1) := by decide +kernel
theorem dX6_loopOf_15 : decode cX6_loopOf 15 = .ok (.ishl, 1) := by decide +kernel
theorem dX6_loopOf_16 : decode cX6_loopOf 16 = .ok (.ior, 1) := by decide +kernel
theorem dX6_loopOf_17 : decode cX6_loopOf 17 = .ok (.istore_n 2, 1) := by decide +kernel
theorem dX6_loopOf_18 : decode cX6_loopOf 18 = .ok (.aload_n 0, 1) := by decide +kernel
theorem dX6_loopOf_19 : decode cX6_loopOf 19 = .ok (.getfield 7, 3) := by decide +kernel
theorem dX6_loopOf_22 : decode cX6_loopOf 22 = .ok (.bipush 7, 2) := by decide +kernel
theorem dX6_loopOf_24 : decode cX6_loopOf 24 = .ok (.iload_n 3, 1) := by decide +kernel
theorem dX6_loopOf_25 : decode cX6_loopOf 25 = .ok (.iadd, 1) := by decide +kernel
theorem dX6_loopOf_26 : decode cX6_loopOf 26 = .ok (.iaload, 1) := by decide +kernel
theorem dX6_loopOf_27 : decode cX6_loopOf 27 = .ok (.istore_n 3, 1) := by decide +kernel
theorem dX6_loopOf_28 : decode cX6_loopOf 28 = .ok (.goto (-24), 3) := by decide +kernel
theorem dX6_loopOf_31 : decode cX6_loopOf 31 = .ok (.iload_n 2, 1) := by decide +kernel
theorem dX6_loopOf_32 : decode cX6_loopOf 32 = .ok (.ireturn, 1) := by decide +kernel
theorem dX6_talesHeardBy_0 : decode cX6_talesHeardBy 0 = .ok (.iconst 0, 1) := by decide +kernel
theorem dX6_talesHeardBy_1 : decode cX6_talesHeardBy 1 = .ok (.istore_n 2, 1) := by decide +kernel
theorem dX6_talesHeardBy_2 : decode cX6_talesHeardBy 2 = .ok (.iconst 0, 1) := by decide +kernel
theorem dX6_talesHeardBy_3 : decode cX6_talesHeardBy 3 = .ok (.istore_n 3, 1) := by decide +kernel
theorem dX6_talesHeardBy_4 : decode cX6_talesHeardBy 4 = .ok (.iload_n 3, 1) := by decide +kernel
theorem dX6_talesHeardBy_5 : decode cX6_talesHeardBy 5 = .ok (.aload_n 0, 1) := by decide +kernel
theorem dX6_talesHeardBy_6 : decode cX6_talesHeardBy 6 = .ok (.getfield 7, 3) := by decide +kernel
theorem dX6_talesHeardBy_9 : decode cX6_talesHeardBy 9 = .ok (.iconst 0, 1) := by decide +kernel
theorem dX6_talesHeardBy_10 : decode cX6_talesHeardBy 10 = .ok (.iaload, 1) := by decide +kernel
theorem dX6_talesHeardBy_11 : decode cX6_talesHeardBy 11 = .ok (.if_icmp .ge 24, 3) := by decide +kernel
theorem dX6_talesHeardBy_14 : decode cX6_talesHeardBy 14 = .ok (.iload_n 2, 1) := by decide +kernel
theorem dX6_talesHeardBy_15 : decode cX6_talesHeardBy 15 = .ok (.aload_n 0, 1) := by decide +kernel
theorem dX6_talesHeardBy_16 : decode cX6_talesHeardBy 16 = .ok (.iload_n 3, 1) := by decide +kernel
theorem dX6_talesHeardBy_17 : decode cX6_talesHeardBy 17 = .ok (.iconst 3, 1) := by decide +kernel
theorem dX6_talesHeardBy_18 : decode cX6_talesHeardBy 18 = .ok (.invokevirtual 167, 3) := by decide +kernel
theorem dX6_talesHeardBy_21 : decode cX6_talesHeardBy 21 = .ok (.iload_n 1, 1) := by decide +kernel
theorem dX6_talesHeardBy_22 : decode cX6_talesHeardBy 22 = .ok (.ishr, 1) := by decide +kernel
theorem dX6_talesHeardBy_23 : decode cX6_talesHeardBy 23 = .ok (.iconst 1, 1) := by decide +kernel
theorem dX6_talesHeardBy_24 : decode cX6_talesHeardBy 24 = .ok (.iand, 1) := by decide +kernel
theorem dX6_talesHeardBy_25 : decode cX6_talesHeardBy 25 = .ok (.iload_n 3, 1) := by decide +kernel
theorem dX6_talesHeardBy_26 : decode cX6_talesHeardBy 26 = .ok (.ishl, 1) := by decide +kernel
theorem dX6_talesHeardBy_27 : decode cX6_talesHeardBy 27 = .ok (.ior, 1) := by decide +kernel
theorem dX6_talesHeardBy_28 : decode cX6_talesHeardBy 28 = .ok (.istore_n 2, 1) := by decide +kernel
theorem dX6_talesHeardBy_29 : decode cX6_talesHeardBy 29 = .ok (.iinc 3 1, 3) := by decide +kernel
theorem dX6_talesHeardBy_32 : decode cX6_talesHeardBy 32 = .ok (.goto (-28), 3) := by decide +kernel
theorem dX6_talesHeardBy_35 : decode cX6_talesHeardBy 35 = .ok (.iload_n 2, 1) := by decide +kernel
theorem dX6_talesHeardBy_36 : decode cX6_talesHeardBy 36 = .ok (.ireturn, 1) := by decide +kernel
theorem dX6_houseOf_0 : decode cX6_houseOf 0 = .ok (.iload_n 1, 1) := by decide +kernel
theorem dX6_houseOf_1 : decode cX6_houseOf 1 = .ok (.invokestatic 164, 3) := by decide +kernel
theorem dX6_houseOf_4 : decode cX6_houseOf 4 = .ok (.ifCond .eq 15, 3) := by decide +kernel
theorem dX6_houseOf_7 : decode cX6_houseOf 7 = .ok (.iload_n 2, 1) := by decide +kernel
theorem dX6_houseOf_8 : decode cX6_houseOf 8 = .ok (.i2l, 1) := by decide +kernel
theorem dX6_houseOf_9 : decode cX6_houseOf 9 = .ok (.lconst 0, 1) := by decide +kernel
theorem dX6_houseOf_10 : decode cX6_houseOf 10 = .ok (.ldc2_w 160, 3) := by decide +kernel
theorem dX6_houseOf_13 : decode cX6_houseOf 13 = .ok (.invokestatic 54, 3) := by decide +kernel
theorem dX6_houseOf_16 : decode cX6_houseOf 16 = .ok (.ifCond .ne 5, 3) := by decide +kernel
theorem dX6_houseOf_19 : decode cX6_houseOf 19 = .ok (.iconst (-1), 1) := by decide +kernel
theorem dX6_houseOf_20 : decode cX6_houseOf 20 = .ok (.ireturn, 1) := by decide +kernel
theorem dX6_houseOf_21 : decode cX6_houseOf 21 = .ok (.iload_n 2, 1) := by decide +kernel
theorem dX6_houseOf_22 : decode cX6_houseOf 22 = .ok (.iconst 3, 1) := by decide +kernel
theorem dX6_houseOf_23 : decode cX6_houseOf 23 = .ok (.if_icmp .ge 18, 3) := by decide +kernel
theorem dX6_houseOf_26 : decode cX6_houseOf 26 = .ok (.aload_n 0, 1) := by decide +kernel
theorem dX6_houseOf_27 : decode cX6_houseOf 27 = .ok (.getfield 7, 3) := by decide +kernel
theorem dX6_houseOf_30 : decode cX6_houseOf 30 = .ok (.bipush 7, 2) := by decide +kernel
theorem dX6_houseOf_32 : decode cX6_houseOf 32 = .ok (.bipush 8, 2) := by decide +kernel
theorem dX6_houseOf_34 : decode cX6_houseOf 34 = .ok (.iload_n 2, 1) := by decide +kernel
theorem dX6_houseOf_35 : decode cX6_houseOf 35 = .ok (.imul, 1) := by decide +kernel
theorem dX6_houseOf_36 : decode cX6_houseOf 36 = .ok (.iadd, 1) := by decide +kernel
theorem dX6_houseOf_37 : decode cX6_houseOf 37 = .ok (.iload_n 1, 1) := by decide +kernel
theorem dX6_houseOf_38 : decode cX6_houseOf 38 = .ok (.iadd, 1) := by decide +kernel
theorem dX6_houseOf_39 : decode cX6_houseOf 39 = .ok (.iaload, 1) := by decide +kernel
theorem dX6_houseOf_40 : decode cX6_houseOf 40 = .ok (.ireturn, 1) := by decide +kernel
theorem dX6_houseOf_41 : decode cX6_houseOf 41 = .ok (.iload_n 2, 1) := by decide +kernel
theorem dX6_houseOf_42 : decode cX6_houseOf 42 = .ok (.iconst 3, 1) := by decide +kernel
theorem dX6_houseOf_43 : decode cX6_houseOf 43 = .ok (.if_icmp .ne 11, 3) := by decide +kernel
theorem dX6_houseOf_46 : decode cX6_houseOf 46 = .ok (.aload_n 0, 1) := by decide +kernel
theorem dX6_houseOf_47 : decode cX6_houseOf 47 = .ok (.iload_n 1, 1) := by decide +kernel
theorem dX6_houseOf_48 : decode cX6_houseOf 48 = .ok (.invokevirtual 189, 3) := by decide +kernel
theorem dX6_houseOf_51 : decode cX6_houseOf 51 = .ok (.goto 21, 3) := by decide +kernel
theorem dX6_houseOf_54 : decode cX6_houseOf 54 = .ok (.iload_n 2, 1) := by decide +kernel
theorem dX6_houseOf_55 : decode cX6_houseOf 55 = .ok (.iconst 4, 1) := by decide +kernel
theorem dX6_houseOf_56 : decode cX6_houseOf 56 = .ok (.if_icmp .ne 11, 3) := by decide +kernel
theorem dX6_houseOf_59 : decode cX6_houseOf 59 = .ok (.aload_n 0, 1) := by decide +kernel
theorem dX6_houseOf_60 : decode cX6_houseOf 60 = .ok (.iload_n 1, 1) := by decide +kernel
theorem dX6_houseOf_61 : decode cX6_houseOf 61 = .ok (.invokevirtual 192, 3) := by decide +kernel
theorem dX6_houseOf_64 : decode cX6_houseOf 64 = .ok (.goto 8, 3) := by decide +kernel
theorem dX6_houseOf_67 : decode cX6_houseOf 67 = .ok (.aload_n 0, 1) := by decide +kernel
theorem dX6_houseOf_68 : decode cX6_houseOf 68 = .ok (.iload_n 1, 1) := by decide +kernel
theorem dX6_houseOf_69 : decode cX6_houseOf 69 = .ok (.invokevirtual 195, 3) := by decide +kernel
theorem dX6_houseOf_72 : decode cX6_houseOf 72 = .ok (.ireturn, 1) := by decide +kernel
theorem dX6_goesOn_0 : decode cX6_goesOn 0 = .ok (.iconst 0, 1) := by decide +kernel
theorem dX6_goesOn_1 : decode cX6_goesOn 1 = .ok (.istore_n 1, 1) := by decide +kernel
theorem dX6_goesOn_2 : decode cX6_goesOn 2 = .ok (.iload_n 1, 1) := by decide +kernel
theorem dX6_goesOn_3 : decode cX6_goesOn 3 = .ok (.aload_n 0, 1) := by decide +kernel
theorem dX6_goesOn_4 : decode cX6_goesOn 4 = .ok (.getfield 7, 3) := by decide +kernel
theorem dX6_goesOn_7 : decode cX6_goesOn 7 = .ok (.iconst 0, 1) := by decide +kernel
theorem dX6_goesOn_8 : decode cX6_goesOn 8 = .ok (.iaload, 1) := by decide +kernel
theorem dX6_goesOn_9 : decode cX6_goesOn 9 = .ok (.if_icmp .ge 128, 3) := by decide +kernel
theorem dX6_goesOn_12 : decode cX6_goesOn 12 = .ok (.aload_n 0, 1) := by decide +kernel
theorem dX6_goesOn_13 : decode cX6_goesOn 13 = .ok (.iload_n 1, 1) := by decide +kernel
theorem dX6_goesOn_14 : decode cX6_goesOn 14 = .ok (.invokevirtual 179, 3) := by decide +kernel
theorem dX6_goesOn_17 : decode cX6_goesOn 17 = .ok (.istore_n 2, 1) := by decide +kernel
theorem dX6_goesOn_18 : decode cX6_goesOn 18 = .ok (.iconst 0, 1) := by decide +kernel
theorem dX6_goesOn_19 : decode cX6_goesOn 19 = .ok (.istore_n 3, 1) := by decide +kernel
theorem dX6_goesOn_20 : decode cX6_goesOn 20 = .ok (.iload_n 3, 1) := by decide +kernel
theorem dX6_goesOn_21 : decode cX6_goesOn 21 = .ok (.iload_n 2, 1) := by decide +kernel
theorem dX6_goesOn_22 : decode cX6_goesOn 22 = .ok (.if_icmp .ge 51, 3) := by decide +kernel
theorem dX6_goesOn_25 : decode cX6_goesOn 25 = .ok (.aload_n 0, 1) := by decide +kernel
theorem dX6_goesOn_26 : decode cX6_goesOn 26 = .ok (.getfield 7, 3) := by decide +kernel
theorem dX6_goesOn_29 : decode cX6_goesOn 29 = .ok (.bipush 7, 2) := by decide +kernel
theorem dX6_goesOn_31 : decode cX6_goesOn 31 = .ok (.aload_n 0, 1) := by decide +kernel
theorem dX6_goesOn_32 : decode cX6_goesOn 32 = .ok (.iload_n 1, 1) := by decide +kernel
theorem dX6_goesOn_33 : decode cX6_goesOn 33 = .ok (.iconst 2, 1) := by decide +kernel
theorem dX6_goesOn_34 : decode cX6_goesOn 34 = .ok (.invokevirtual 167, 3) := by decide +kernel
theorem dX6_goesOn_37 : decode cX6_goesOn 37 = .ok (.iadd, 1) := by decide +kernel
theorem dX6_goesOn_38 : decode cX6_goesOn 38 = .ok (.iaload, 1) := by decide +kernel
theorem dX6_goesOn_39 : decode cX6_goesOn 39 = .ok (.istore 4, 2) := by decide +kernel
theorem dX6_goesOn_41 : decode cX6_goesOn 41 = .ok (.aload_n 0, 1) := by decide +kernel
theorem dX6_goesOn_42 : decode cX6_goesOn 42 = .ok (.iload_n 1, 1) := by decide +kernel
theorem dX6_goesOn_43 : decode cX6_goesOn 43 = .ok (.iconst 1, 1) := by decide +kernel
theorem dX6_goesOn_44 : decode cX6_goesOn 44 = .ok (.invokevirtual 167, 3) := by decide +kernel
theorem dX6_goesOn_47 : decode cX6_goesOn 47 = .ok (.aload_n 0, 1) := by decide +kernel
theorem dX6_goesOn_48 : decode cX6_goesOn 48 = .ok (.getfield 7, 3) := by decide +kernel
theorem dX6_goesOn_51 : decode cX6_goesOn 51 = .ok (.bipush 15, 2) := by decide +kernel
theorem dX6_goesOn_53 : decode cX6_goesOn 53 = .ok (.iload 4, 2) := by decide +kernel
theorem dX6_goesOn_55 : decode cX6_goesOn 55 = .ok (.iadd, 1) := by decide +kernel
theorem dX6_goesOn_56 : decode cX6_goesOn 56 = .ok (.iaload, 1) := by decide +kernel
theorem dX6_goesOn_57 : decode cX6_goesOn 57 = .ok (.if_icmp .lt 10, 3) := by decide +kernel
theorem dX6_goesOn_60 : decode cX6_goesOn 60 = .ok (.aload_n 0, 1) := by decide +kernel
theorem dX6_goesOn_61 : decode cX6_goesOn 61 = .ok (.iload_n 1, 1) := by decide +kernel
theorem dX6_goesOn_62 : decode cX6_goesOn 62 = .ok (.iload 4, 2) := by decide +kernel
theorem dX6_goesOn_64 : decode cX6_goesOn 64 = .ok (.invokevirtual 182, 3) := by decide +kernel
theorem dX6_goesOn_67 : decode cX6_goesOn 67 = .ok (.iinc 3 1, 3) := by decide +kernel
theorem dX6_goesOn_70 : decode cX6_goesOn 70 = .ok (.goto (-50), 3) := by decide +kernel
theorem dX6_goesOn_73 : decode cX6_goesOn 73 = .ok (.aload_n 0, 1) := by decide +kernel
theorem dX6_goesOn_74 : decode cX6_goesOn 74 = .ok (.getfield 7, 3) := by decide +kernel
theorem dX6_goesOn_77 : decode cX6_goesOn 77 = .ok (.bipush 23, 2) := by decide +kernel
theorem dX6_goesOn_79 : decode cX6_goesOn 79 = .ok (.aload_n 0, 1) := by decide +kernel
theorem dX6_goesOn_80 : decode cX6_goesOn 80 = .ok (.iload_n 1, 1) := by decide +kernel
theorem dX6_goesOn_81 : decode cX6_goesOn 81 = .ok (.iconst 2, 1) := by decide +kernel
theorem dX6_goesOn_82 : decode cX6_goesOn 82 = .ok (.invokevirtual 167, 3) := by decide +kernel
theorem dX6_goesOn_85 : decode cX6_goesOn 85 = .ok (.iadd, 1) := by decide +kernel
theorem dX6_goesOn_86 : decode cX6_goesOn 86 = .ok (.iaload, 1) := by decide +kernel
theorem dX6_goesOn_87 : decode cX6_goesOn 87 = .ok (.iconst 1, 1) := by decide +kernel
theorem dX6_goesOn_88 : decode cX6_goesOn 88 = .ok (.if_icmp .ne 13, 3) := by decide +kernel
theorem dX6_goesOn_91 : decode cX6_goesOn 91 = .ok (.aload_n 0, 1) := by decide +kernel
theorem dX6_goesOn_92 : decode cX6_goesOn 92 = .ok (.iload_n 1, 1) := by decide +kernel
theorem dX6_goesOn_93 : decode cX6_goesOn 93 = .ok (.invokevirtual 176, 3) := by decide +kernel
theorem dX6_goesOn_96 : decode cX6_goesOn 96 = .ok (.iconst 2, 1) := by decide +kernel
theorem dX6_goesOn_97 : decode cX6_goesOn 97 = .ok (.idiv, 1) := by decide +kernel
theorem dX6_goesOn_98 : decode cX6_goesOn 98 = .ok (.goto 8, 3) := by decide +kernel
theorem dX6_goesOn_101 : decode cX6_goesOn 101 = .ok (.aload_n 0, 1) := by decide +kernel
theorem dX6_goesOn_102 : decode cX6_goesOn 102 = .ok (.iload_n 1, 1) := by decide +kernel
theorem dX6_goesOn_103 : decode cX6_goesOn 103 = .ok (.invokevirtual 176, 3) := by decide +kernel
theorem dX6_goesOn_106 : decode cX6_goesOn 106 = .ok (.istore_n 3, 1) := by decide +kernel
theorem dX6_goesOn_107 : decode cX6_goesOn 107 = .ok (.aload_n 0, 1) := by decide +kernel
theorem dX6_goesOn_108 : decode cX6_goesOn 108 = .ok (.getfield 7, 3) := by decide +kernel
theorem dX6_goesOn_111 : decode cX6_goesOn 111 = .ok (.bipush 31, 2) := by decide +kernel
theorem dX6_goesOn_113 : decode cX6_goesOn 113 = .ok (.iconst 4, 1) := by decide +kernel
theorem dX6_goesOn_114 : decode cX6_goesOn 114 = .ok (.iload_n 1, 1) := by decide +kernel
theorem dX6_goesOn_115 : decode cX6_goesOn 115 = .ok (.imul, 1) := by decide +kernel
theorem dX6_goesOn_116 : decode cX6_goesOn 116 = .ok (.iadd, 1) := by decide +kernel
theorem dX6_goesOn_117 : decode cX6_goesOn 117 = .ok (.iconst 1, 1) := by decide +kernel
theorem dX6_goesOn_118 : decode cX6_goesOn 118 = .ok (.iadd, 1) := by decide +kernel
theorem dX6_goesOn_119 : decode cX6_goesOn 119 = .ok (.aload_n 0, 1) := by decide +kernel
theorem dX6_goesOn_120 : decode cX6_goesOn 120 = .ok (.iload_n 1, 1) := by decide +kernel
theorem dX6_goesOn_121 : decode cX6_goesOn 121 = .ok (.iconst 1, 1) := by decide +kernel
theorem dX6_goesOn_122 : decode cX6_goesOn 122 = .ok (.invokevirtual 167, 3) := by decide +kernel
theorem dX6_goesOn_125 : decode cX6_goesOn 125 = .ok (.iload_n 3, 1) := by decide +kernel
theorem dX6_goesOn_126 : decode cX6_goesOn 126 = .ok (.isub, 1) := by decide +kernel
theorem dX6_goesOn_127 : decode cX6_goesOn 127 = .ok (.invokestatic 198, 3) := by decide +kernel
theorem dX6_goesOn_130 : decode cX6_goesOn 130 = .ok (.iastore, 1) := by decide +kernel
theorem dX6_goesOn_131 : decode cX6_goesOn 131 = .ok (.iinc 1 1, 3) := by decide +kernel
theorem dX6_goesOn_134 : decode cX6_goesOn 134 = .ok (.goto (-132), 3) := by decide +kernel
theorem dX6_goesOn_137 : decode cX6_goesOn 137 = .ok (.aload_n 0, 1) := by decide +kernel
theorem dX6_goesOn_138 : decode cX6_goesOn 138 = .ok (.getfield 7, 3) := by decide +kernel
theorem dX6_goesOn_141 : decode cX6_goesOn 141 = .ok (.iconst 1, 1) := by decide +kernel
theorem dX6_goesOn_142 : decode cX6_goesOn 142 = .ok (.dup2, 1) := by decide +kernel
theorem dX6_goesOn_143 : decode cX6_goesOn 143 = .ok (.iaload, 1) := by decide +kernel
theorem dX6_goesOn_144 : decode cX6_goesOn 144 = .ok (.iconst 1, 1) := by decide +kernel
theorem dX6_goesOn_145 : decode cX6_goesOn 145 = .ok (.iadd, 1) := by decide +kernel
theorem dX6_goesOn_146 : decode cX6_goesOn 146 = .ok (.iastore, 1) := by decide +kernel
theorem dX6_goesOn_147 : decode cX6_goesOn 147 = .ok (.return_, 1) := by decide +kernel
theorem dX6_goes_0 : decode cX6_goes 0 = .ok (.iconst 0, 1) := by decide +kernel
theorem dX6_goes_1 : decode cX6_goes 1 = .ok (.istore_n 2, 1) := by decide +kernel
theorem dX6_goes_2 : decode cX6_goes 2 = .ok (.iload_n 2, 1) := by decide +kernel
theorem dX6_goes_3 : decode cX6_goes 3 = .ok (.iload_n 1, 1) := by decide +kernel
theorem dX6_goes_4 : decode cX6_goes 4 = .ok (.if_icmp .ge 13, 3) := by decide +kernel
theorem dX6_goes_7 : decode cX6_goes 7 = .ok (.aload_n 0, 1) := by decide +kernel
theorem dX6_goes_8 : decode cX6_goes 8 = .ok (.invokevirtual 201, 3) := by decide +kernel
theorem dX6_goes_11 : decode cX6_goes 11 = .ok (.iinc 2 1, 3) := by decide +kernel
theorem dX6_goes_14 : decode cX6_goes 14 = .ok (.goto (-12), 3) := by decide +kernel
theorem dX6_goes_17 : decode cX6_goes 17 = .ok (.return_, 1) := by decide +kernel
theorem dX6_heatOfAll_0 : decode cX6_heatOfAll 0 = .ok (.iconst 0, 1) := by decide +kernel
theorem dX6_heatOfAll_1 : decode cX6_heatOfAll 1 = .ok (.istore_n 1, 1) := by decide +kernel
theorem dX6_heatOfAll_2 : decode cX6_heatOfAll 2 = .ok (.iconst 0, 1) := by decide +kernel
theorem dX6_heatOfAll_3 : decode cX6_heatOfAll 3 = .ok (.istore_n 2, 1) := by decide +kernel
theorem dX6_heatOfAll_4 : decode cX6_heatOfAll 4 = .ok (.iload_n 2, 1) := by decide +kernel
theorem dX6_heatOfAll_5 : decode cX6_heatOfAll 5 = .ok (.aload_n 0, 1) := by decide +kernel
theorem dX6_heatOfAll_6 : decode cX6_heatOfAll 6 = .ok (.getfield 7, 3) := by decide +kernel
theorem dX6_heatOfAll_9 : decode cX6_heatOfAll 9 = .ok (.iconst 0, 1) := by decide +kernel
theorem dX6_heatOfAll_10 : decode cX6_heatOfAll 10 = .ok (.iaload, 1) := by decide +kernel
theorem dX6_heatOfAll_11 : decode cX6_heatOfAll 11 = .ok (.if_icmp .ge 18, 3) := by decide +kernel
theorem dX6_heatOfAll_14 : decode cX6_heatOfAll 14 = .ok (.iload_n 1, 1) := by decide +kernel
theorem dX6_heatOfAll_15 : decode cX6_heatOfAll 15 = .ok (.aload_n 0, 1) := by decide +kernel
theorem dX6_heatOfAll_16 : decode cX6_heatOfAll 16 = .ok (.iload_n 2, 1) := by decide +kernel
theorem dX6_heatOfAll_17 : decode cX6_heatOfAll 17 = .ok (.iconst 1, 1) := by decide +kernel
theorem dX6_heatOfAll_18 : decode cX6_heatOfAll 18 = .ok (.invokevirtual 167, 3) := by decide +kernel
theorem dX6_heatOfAll_21 : decode cX6_heatOfAll 21 = .ok (.iadd, 1) := by decide +kernel
theorem dX6_heatOfAll_22 : decode cX6_heatOfAll 22 = .ok (.istore_n 1, 1) := by decide +kernel
theorem dX6_heatOfAll_23 : decode cX6_heatOfAll 23 = .ok (.iinc 2 1, 3) := by decide +kernel
theorem dX6_heatOfAll_26 : decode cX6_heatOfAll 26 = .ok (.goto (-22), 3) := by decide +kernel
theorem dX6_heatOfAll_29 : decode cX6_heatOfAll 29 = .ok (.iload_n 1, 1) := by decide +kernel
theorem dX6_heatOfAll_30 : decode cX6_heatOfAll 30 = .ok (.ireturn, 1) := by decide +kernel
theorem dX6_heardOfAll_0 : decode cX6_heardOfAll 0 = .ok (.iconst 0, 1) := by decide +kernel
theorem dX6_heardOfAll_1 : decode cX6_heardOfAll 1 = .ok (.istore_n 1, 1) := by decide +kernel
theorem dX6_heardOfAll_2 : decode cX6_heardOfAll 2 = .ok (.iconst 0, 1) := by decide +kernel
theorem dX6_heardOfAll_3 : decode cX6_heardOfAll 3 = .ok (.istore_n 2, 1) := by decide +kernel
theorem dX6_heardOfAll_4 : decode cX6_heardOfAll 4 = .ok (.iload_n 2, 1) := by decide +kernel
theorem dX6_heardOfAll_5 : decode cX6_heardOfAll 5 = .ok (.aload_n 0, 1) := by decide +kernel
theorem dX6_heardOfAll_6 : decode cX6_heardOfAll 6 = .ok (.getfield 7, 3) := by decide +kernel
theorem dX6_heardOfAll_9 : decode cX6_heardOfAll 9 = .ok (.iconst 0, 1) := by decide +kernel
theorem dX6_heardOfAll_10 : decode cX6_heardOfAll 10 = .ok (.iaload, 1) := by decide +kernel
theorem dX6_heardOfAll_11 : decode cX6_heardOfAll 11 = .ok (.if_icmp .ge 21, 3) := by decide +kernel
theorem dX6_heardOfAll_14 : decode cX6_heardOfAll 14 = .ok (.iload_n 1, 1) := by decide +kernel
theorem dX6_heardOfAll_15 : decode cX6_heardOfAll 15 = .ok (.aload_n 0, 1) := by decide +kernel
theorem dX6_heardOfAll_16 : decode cX6_heardOfAll 16 = .ok (.iload_n 2, 1) := by decide +kernel
theorem dX6_heardOfAll_17 : decode cX6_heardOfAll 17 = .ok (.iconst 3, 1) := by decide +kernel
theorem dX6_heardOfAll_18 : decode cX6_heardOfAll 18 = .ok (.invokevirtual 167, 3) := by decide +kernel
theorem dX6_heardOfAll_21 : decode cX6_heardOfAll 21 = .ok (.invokestatic 170, 3) := by decide +kernel
theorem dX6_heardOfAll_24 : decode cX6_heardOfAll 24 = .ok (.iadd, 1) := by decide +kernel
theorem dX6_heardOfAll_25 : decode cX6_heardOfAll 25 = .ok (.istore_n 1, 1) := by decide +kernel
theorem dX6_heardOfAll_26 : decode cX6_heardOfAll 26 = .ok (.iinc 2 1, 3) := by decide +kernel
theorem dX6_heardOfAll_29 : decode cX6_heardOfAll 29 = .ok (.goto (-25), 3) := by decide +kernel
theorem dX6_heardOfAll_32 : decode cX6_heardOfAll 32 = .ok (.iload_n 1, 1) := by decide +kernel
theorem dX6_heardOfAll_33 : decode cX6_heardOfAll 33 = .ok (.ireturn, 1) := by decide +kernel
theorem dX6_minutes_0 : decode cX6_minutes 0 = .ok (.iload_n 1, 1) := by decide +kernel
theorem dX6_minutes_1 : decode cX6_minutes 1 = .ok (.i2l, 1) := by decide +kernel
theorem dX6_minutes_2 : decode cX6_minutes 2 = .ok (.lconst 1, 1) := by decide +kernel
theorem dX6_minutes_3 : decode cX6_minutes 3 = .ok (.ldc2_w 204, 3) := by decide +kernel
theorem dX6_minutes_6 : decode cX6_minutes 6 = .ok (.invokestatic 54, 3) := by decide +kernel
theorem dX6_minutes_9 : decode cX6_minutes 9 = .ok (.ifCond .ne 5, 3) := by decide +kernel
theorem dX6_minutes_12 : decode cX6_minutes 12 = .ok (.iconst (-1), 1) := by decide +kernel
theorem dX6_minutes_13 : decode cX6_minutes 13 = .ok (.ireturn, 1) := by decide +kernel
theorem dX6_minutes_14 : decode cX6_minutes 14 = .ok (.aload_n 0, 1) := by decide +kernel
theorem dX6_minutes_15 : decode cX6_minutes 15 = .ok (.iload_n 1, 1) := by decide +kernel
theorem dX6_minutes_16 : decode cX6_minutes 16 = .ok (.invokevirtual 206, 3) := by decide +kernel
theorem dX6_minutes_19 : decode cX6_minutes 19 = .ok (.aload_n 0, 1) := by decide +kernel
theorem dX6_minutes_20 : decode cX6_minutes 20 = .ok (.invokevirtual 209, 3) := by decide +kernel
theorem dX6_minutes_23 : decode cX6_minutes 23 = .ok (.ireturn, 1) := by decide +kernel
theorem dX6_seed_0 : decode cX6_seed 0 = .ok (.aload_n 0, 1) := by decide +kernel
theorem dX6_seed_1 : decode cX6_seed 1 = .ok (.iconst 2, 1) := by decide +kernel
theorem dX6_seed_2 : decode cX6_seed 2 = .ok (.iload_n 1, 1) := by decide +kernel
theorem dX6_seed_3 : decode cX6_seed 3 = .ok (.invokevirtual 156, 3) := by decide +kernel
theorem dX6_seed_6 : decode cX6_seed 6 = .ok (.ireturn, 1) := by decide +kernel
theorem dX6_drawn_0 : decode cX6_drawn 0 = .ok (.aload_n 0, 1) := by decide +kernel
theorem dX6_drawn_1 : decode cX6_drawn 1 = .ok (.getfield 7, 3) := by decide +kernel
theorem dX6_drawn_4 : decode cX6_drawn 4 = .ok (.iconst 2, 1) := by decide +kernel
theorem dX6_drawn_5 : decode cX6_drawn 5 = .ok (.aload_n 0, 1) := by decide +kernel
theorem dX6_drawn_6 : decode cX6_drawn 6 = .ok (.getfield 7, 3) := by decide +kernel
theorem dX6_drawn_9 : decode cX6_drawn 9 = .ok (.iconst 2, 1) := by decide +kernel
theorem dX6_drawn_10 : decode cX6_drawn 10 = .ok (.iaload, 1) := by decide +kernel
theorem dX6_drawn_11 : decode cX6_drawn 11 = .ok (.ldc 212, 2) := by decide +kernel
theorem dX6_drawn_13 : decode cX6_drawn 13 = .ok (.imul, 1) := by decide +kernel
theorem dX6_drawn_14 : decode cX6_drawn 14 = .ok (.sipush 12345, 3) := by decide +kernel
theorem dX6_drawn_17 : decode cX6_drawn 17 = .ok (.iadd, 1) := by decide +kernel
theorem dX6_drawn_18 : decode cX6_drawn 18 = .ok (.iastore, 1) := by decide +kernel
theorem dX6_drawn_19 : decode cX6_drawn 19 = .ok (.aload_n 0, 1) := by decide +kernel
theorem dX6_drawn_20 : decode cX6_drawn 20 = .ok (.getfield 7, 3) := by decide +kernel
theorem dX6_drawn_23 : decode cX6_drawn 23 = .ok (.iconst 2, 1) := by decide +kernel
theorem dX6_drawn_24 : decode cX6_drawn 24 = .ok (.iaload, 1) := by decide +kernel
theorem dX6_drawn_25 : decode cX6_drawn 25 = .ok (.bipush 16, 2) := by decide +kernel
theorem dX6_drawn_27 : decode cX6_drawn 27 = .ok (.iushr, 1) := by decide +kernel
theorem dX6_drawn_28 : decode cX6_drawn 28 = .ok (.ireturn, 1) := by decide +kernel
theorem dX6_minute_0 : decode cX6_minute 0 = .ok (.aload_n 0, 1) := by decide +kernel
theorem dX6_minute_1 : decode cX6_minute 1 = .ok (.getfield 7, 3) := by decide +kernel
theorem dX6_minute_4 : decode cX6_minute 4 = .ok (.iconst 0, 1) := by decide +kernel
theorem dX6_minute_5 : decode cX6_minute 5 = .ok (.iaload, 1) := by decide +kernel
theorem dX6_minute_6 : decode cX6_minute 6 = .ok (.ifCond .le 44, 3) := by decide +kernel
theorem dX6_minute_9 : decode cX6_minute 9 = .ok (.aload_n 0, 1) := by decide +kernel
theorem dX6_minute_10 : decode cX6_minute 10 = .ok (.invokevirtual 213, 3) := by decide +kernel
theorem dX6_minute_13 : decode cX6_minute 13 = .ok (.aload_n 0, 1) := by decide +kernel
theorem dX6_minute_14 : decode cX6_minute 14 = .ok (.getfield 7, 3) := by decide +kernel
theorem dX6_minute_17 : decode cX6_minute 17 = .ok (.iconst 0, 1) := by decide +kernel
theorem dX6_minute_18 : decode cX6_minute 18 = .ok (.iaload, 1) := by decide +kernel
theorem dX6_minute_19 : decode cX6_minute 19 = .ok (.irem, 1) := by decide +kernel
theorem dX6_minute_20 : decode cX6_minute 20 = .ok (.istore_n 1, 1) := by decide +kernel
theorem dX6_minute_21 : decode cX6_minute 21 = .ok (.aload_n 0, 1) := by decide +kernel
theorem dX6_minute_22 : decode cX6_minute 22 = .ok (.invokevirtual 213, 3) := by decide +kernel
theorem dX6_minute_25 : decode cX6_minute 25 = .ok (.bipush 100, 2) := by decide +kernel
theorem dX6_minute_27 : decode cX6_minute 27 = .ok (.irem, 1) := by decide +kernel
theorem dX6_minute_28 : decode cX6_minute 28 = .ok (.aload_n 0, 1) := by decide +kernel
theorem dX6_minute_29 : decode cX6_minute 29 = .ok (.getfield 7, 3) := by decide +kernel
theorem dX6_minute_32 : decode cX6_minute 32 = .ok (.bipush 6, 2) := by decide +kernel
theorem dX6_minute_34 : decode cX6_minute 34 = .ok (.iaload, 1) := by decide +kernel
theorem dX6_minute_35 : decode cX6_minute 35 = .ok (.if_icmp .ge 15, 3) := by decide +kernel
theorem dX6_minute_38 : decode cX6_minute 38 = .ok (.aload_n 0, 1) := by decide +kernel
theorem dX6_minute_39 : decode cX6_minute 39 = .ok (.iload_n 1, 1) := by decide +kernel
theorem dX6_minute_40 : decode cX6_minute 40 = .ok (.aload_n 0, 1) := by decide +kernel
theorem dX6_minute_41 : decode cX6_minute 41 = .ok (.invokevirtual 213, 3) := by decide +kernel
theorem dX6_minute_44 : decode cX6_minute 44 = .ok (.bipush 8, 2) := by decide +kernel
theorem dX6_minute_46 : decode cX6_minute 46 = .ok (.irem, 1) := by decide +kernel
theorem dX6_minute_47 : decode cX6_minute 47 = .ok (.invokevirtual 182, 3) := by decide +kernel
theorem dX6_minute_50 : decode cX6_minute 50 = .ok (.aload_n 0, 1) := by decide +kernel
theorem dX6_minute_51 : decode cX6_minute 51 = .ok (.invokevirtual 201, 3) := by decide +kernel
theorem dX6_minute_54 : decode cX6_minute 54 = .ok (.aload_n 0, 1) := by decide +kernel
theorem dX6_minute_55 : decode cX6_minute 55 = .ok (.invokevirtual 209, 3) := by decide +kernel
theorem dX6_minute_58 : decode cX6_minute 58 = .ok (.ireturn, 1) := by decide +kernel
theorem dX6_spread_0 : decode cX6_spread 0 = .ok (.iload_n 1, 1) := by decide +kernel
theorem dX6_spread_1 : decode cX6_spread 1 = .ok (.i2l, 1) := by decide +kernel
theorem dX6_spread_2 : decode cX6_spread 2 = .ok (.lconst 1, 1) := by decide +kernel
theorem dX6_spread_3 : decode cX6_spread 3 = .ok (.ldc2_w 216, 3) := by decide +kernel
theorem dX6_spread_6 : decode cX6_spread 6 = .ok (.invokestatic 54, 3) := by decide +kernel
theorem dX6_spread_9 : decode cX6_spread 9 = .ok (.ifCond .ne 5, 3) := by decide +kernel
theorem dX6_spread_12 : decode cX6_spread 12 = .ok (.iconst (-1), 1) := by decide +kernel
theorem dX6_spread_13 : decode cX6_spread 13 = .ok (.ireturn, 1) := by decide +kernel
theorem dX6_spread_14 : decode cX6_spread 14 = .ok (.aload_n 0, 1) := by decide +kernel
theorem dX6_spread_15 : decode cX6_spread 15 = .ok (.getfield 7, 3) := by decide +kernel
theorem dX6_spread_18 : decode cX6_spread 18 = .ok (.aload_n 0, 1) := by decide +kernel
theorem dX6_spread_19 : decode cX6_spread 19 = .ok (.getfield 16, 3) := by decide +kernel
theorem dX6_spread_22 : decode cX6_spread 22 = .ok (.invokestatic 144, 3) := by decide +kernel
theorem dX6_spread_25 : decode cX6_spread 25 = .ok (.aload_n 0, 1) := by decide +kernel
theorem dX6_spread_26 : decode cX6_spread 26 = .ok (.invokevirtual 201, 3) := by decide +kernel
theorem dX6_spread_29 : decode cX6_spread 29 = .ok (.aload_n 0, 1) := by decide +kernel
theorem dX6_spread_30 : decode cX6_spread 30 = .ok (.invokevirtual 218, 3) := by decide +kernel
theorem dX6_spread_33 : decode cX6_spread 33 = .ok (.istore_n 2, 1) := by decide +kernel
theorem dX6_spread_34 : decode cX6_spread 34 = .ok (.aload_n 0, 1) := by decide +kernel
theorem dX6_spread_35 : decode cX6_spread 35 = .ok (.getfield 16, 3) := by decide +kernel
theorem dX6_spread_38 : decode cX6_spread 38 = .ok (.iconst 2, 1) := by decide +kernel
theorem dX6_spread_39 : decode cX6_spread 39 = .ok (.iaload, 1) := by decide +kernel
theorem dX6_spread_40 : decode cX6_spread 40 = .ok (.istore_n 3, 1) := by decide +kernel
theorem dX6_spread_41 : decode cX6_spread 41 = .ok (.iconst 0, 1) := by decide +kernel
theorem dX6_spread_42 : decode cX6_spread 42 = .ok (.istore 4, 2) := by decide +kernel
theorem dX6_spread_44 : decode cX6_spread 44 = .ok (.iconst 0, 1) := by decide +kernel
theorem dX6_spread_45 : decode cX6_spread 45 = .ok (.istore 5, 2) := by decide +kernel
theorem dX6_spread_47 : decode cX6_spread 47 = .ok (.iload 5, 2) := by decide +kernel
theorem dX6_spread_49 : decode cX6_spread 49 = .ok (.iload_n 1, 1) := by decide +kernel
theorem dX6_spread_50 : decode cX6_spread 50 = .ok (.if_icmp .ge 58, 3) := by decide +kernel
theorem dX6_spread_53 : decode cX6_spread 53 = .ok (.aload_n 0, 1) := by decide +kernel
theorem dX6_spread_54 : decode cX6_spread 54 = .ok (.getfield 16, 3) := by decide +kernel
theorem dX6_spread_57 : decode cX6_spread 57 = .ok (.aload_n 0, 1) := by decide +kernel
theorem dX6_spread_58 : decode cX6_spread 58 = .ok (.getfield 7, 3) := by decide +kernel
theorem dX6_spread_61 : decode cX6_spread 61 = .ok (.invokestatic 144, 3) := by decide +kernel
theorem dX6_spread_64 : decode cX6_spread 64 = .ok (.aload_n 0, 1) := by decide +kernel
theorem dX6_spread_65 : decode cX6_spread 65 = .ok (.getfield 7, 3) := by decide +kernel
theorem dX6_spread_68 : decode cX6_spread 68 = .ok (.iconst 2, 1) := by decide +kernel
theorem dX6_spread_69 : decode cX6_spread 69 = .ok (.iload_n 3, 1) := by decide +kernel
theorem dX6_spread_70 : decode cX6_spread 70 = .ok (.iastore, 1) := by decide +kernel
theorem dX6_spread_71 : decode cX6_spread 71 = .ok (.aload_n 0, 1) := by decide +kernel
theorem dX6_spread_72 : decode cX6_spread 72 = .ok (.invokevirtual 221, 3) := by decide +kernel
theorem dX6_spread_75 : decode cX6_spread 75 = .ok (.istore 6, 2) := by decide +kernel
theorem dX6_spread_77 : decode cX6_spread 77 = .ok (.iload 4, 2) := by decide +kernel
theorem dX6_spread_79 : decode cX6_spread 79 = .ok (.aload_n 0, 1) := by decide +kernel
theorem dX6_spread_80 : decode cX6_spread 80 = .ok (.invokevirtual 218, 3) := by decide +kernel
theorem dX6_spread_83 : decode cX6_spread 83 = .ok (.iload_n 2, 1) := by decide +kernel
theorem dX6_spread_84 : decode cX6_spread 84 = .ok (.if_icmp .le 7, 3) := by decide +kernel
theorem dX6_spread_87 : decode cX6_spread 87 = .ok (.iconst 1, 1) := by decide +kernel
theorem dX6_spread_88 : decode cX6_spread 88 = .ok (.goto 4, 3) := by decide +kernel
theorem dX6_spread_91 : decode cX6_spread 91 = .ok (.iconst 0, 1) := by decide +kernel
theorem dX6_spread_92 : decode cX6_spread 92 = .ok (.iadd, 1) := by decide +kernel
theorem dX6_spread_93 : decode cX6_spread 93 = .ok (.istore 4, 2) := by decide +kernel
theorem dX6_spread_95 : decode cX6_spread 95 = .ok (.aload_n 0, 1) := by decide +kernel
theorem dX6_spread_96 : decode cX6_spread 96 = .ok (.getfield 7, 3) := by decide +kernel
theorem dX6_spread_99 : decode cX6_spread 99 = .ok (.iconst 2, 1) := by decide +kernel
theorem dX6_spread_100 : decode cX6_spread 100 = .ok (.iaload, 1) := by decide +kernel
theorem dX6_spread_101 : decode cX6_spread 101 = .ok (.istore_n 3, 1) := by decide +kernel
theorem dX6_spread_102 : decode cX6_spread 102 = .ok (.iinc 5 1, 3) := by decide +kernel
theorem dX6_spread_105 : decode cX6_spread 105 = .ok (.goto (-58), 3) := by decide +kernel
theorem dX6_spread_108 : decode cX6_spread 108 = .ok (.aload_n 0, 1) := by decide +kernel
theorem dX6_spread_109 : decode cX6_spread 109 = .ok (.getfield 16, 3) := by decide +kernel
theorem dX6_spread_112 : decode cX6_spread 112 = .ok (.aload_n 0, 1) := by decide +kernel
theorem dX6_spread_113 : decode cX6_spread 113 = .ok (.getfield 7, 3) := by decide +kernel
theorem dX6_spread_116 : decode cX6_spread 116 = .ok (.invokestatic 144, 3) := by decide +kernel
theorem dX6_spread_119 : decode cX6_spread 119 = .ok (.iload 4, 2) := by decide +kernel
theorem dX6_spread_121 : decode cX6_spread 121 = .ok (.ireturn, 1) := by decide +kernel
theorem dX6_housesInUse_0 : decode cX6_housesInUse 0 = .ok (.iconst 0, 1) := by decide +kernel
theorem dX6_housesInUse_1 : decode cX6_housesInUse 1 = .ok (.istore_n 1, 1) := by decide +kernel
theorem dX6_housesInUse_2 : decode cX6_housesInUse 2 = .ok (.iconst 0, 1) := by decide +kernel
theorem dX6_housesInUse_3 : decode cX6_housesInUse 3 = .ok (.istore_n 2, 1) := by decide +kernel
theorem dX6_housesInUse_4 : decode cX6_housesInUse 4 = .ok (.iload_n 2, 1) := by decide +kernel
theorem dX6_housesInUse_5 : decode cX6_housesInUse 5 = .ok (.aload_n 0, 1) := by decide +kernel
theorem dX6_housesInUse_6 : decode cX6_housesInUse 6 = .ok (.getfield 7, 3) := by decide +kernel
theorem dX6_housesInUse_9 : decode cX6_housesInUse 9 = .ok (.iconst 0, 1) := by decide +kernel
theorem dX6_housesInUse_10 : decode cX6_housesInUse 10 = .ok (.iaload, 1) := by decide +kernel
theorem dX6_housesInUse_11 : decode cX6_housesInUse 11 = .ok (.if_icmp .ge 20, 3) := by decide +kernel
theorem dX6_housesInUse_14 : decode cX6_housesInUse 14 = .ok (.iload_n 1, 1) := by decide +kernel
theorem dX6_housesInUse_15 : decode cX6_housesInUse 15 = .ok (.iconst 1, 1) := by decide +kernel
theorem dX6_housesInUse_16 : decode cX6_housesInUse 16 = .ok (.aload_n 0, 1) := by decide +kernel
theorem dX6_housesInUse_17 : decode cX6_housesInUse 17 = .ok (.iload_n 2, 1) := by decide +kernel
theorem dX6_housesInUse_18 : decode cX6_housesInUse 18 = .ok (.iconst 2, 1) := by decide +kernel
theorem dX6_housesInUse_19 : decode cX6_housesInUse 19 = .ok (.invokevirtual 167, 3) := by decide +kernel
theorem dX6_housesInUse_22 : decode cX6_housesInUse 22 = .ok (.ishl, 1) := by decide +kernel
theorem dX6_housesInUse_23 : decode cX6_housesInUse 23 = .ok (.ior, 1) := by decide +kernel
theorem dX6_housesInUse_24 : decode cX6_housesInUse 24 = .ok (.istore_n 1, 1) := by decide +kernel
theorem dX6_housesInUse_25 : decode cX6_housesInUse 25 = .ok (.iinc 2 1, 3) := by decide +kernel
theorem dX6_housesInUse_28 : decode cX6_housesInUse 28 = .ok (.goto (-24), 3) := by decide +kernel
theorem dX6_housesInUse_31 : decode cX6_housesInUse 31 = .ok (.iload_n 1, 1) := by decide +kernel
theorem dX6_housesInUse_32 : decode cX6_housesInUse 32 = .ok (.ireturn, 1) := by decide +kernel
theorem dX6_boxes_0 : decode cX6_boxes 0 = .ok (.iconst 0, 1) := by decide +kernel
theorem dX6_boxes_1 : decode cX6_boxes 1 = .ok (.istore_n 1, 1) := by decide +kernel
theorem dX6_boxes_2 : decode cX6_boxes 2 = .ok (.iconst 0, 1) := by decide +kernel
theorem dX6_boxes_3 : decode cX6_boxes 3 = .ok (.istore_n 2, 1) := by decide +kernel
theorem dX6_boxes_4 : decode cX6_boxes 4 = .ok (.iload_n 2, 1) := by decide +kernel
theorem dX6_boxes_5 : decode cX6_boxes 5 = .ok (.bipush 8, 2) := by decide +kernel
theorem dX6_boxes_7 : decode cX6_boxes 7 = .ok (.if_icmp .ge 23, 3) := by decide +kernel
theorem dX6_boxes_10 : decode cX6_boxes 10 = .ok (.iload_n 1, 1) := by decide +kernel
theorem dX6_boxes_11 : decode cX6_boxes 11 = .ok (.aload_n 0, 1) := by decide +kernel
theorem dX6_boxes_12 : decode cX6_boxes 12 = .ok (.getfield 7, 3) := by decide +kernel
theorem dX6_boxes_15 : decode cX6_boxes 15 = .ok (.bipush 23, 2) := by decide +kernel
theorem dX6_boxes_17 : decode cX6_boxes 17 = .ok (.iload_n 2, 1) := by decide +kernel
theorem dX6_boxes_18 : decode cX6_boxes 18 = .ok (.iadd, 1) := by decide +kernel
theorem dX6_boxes_19 : decode cX6_boxes 19 = .ok (.iaload, 1) := by decide +kernel
theorem dX6_boxes_20 : decode cX6_boxes 20 = .ok (.iload_n 2, 1) := by decide +kernel
theorem dX6_boxes_21 : decode cX6_boxes 21 = .ok (.ishl, 1) := by decide +kernel
theorem dX6_boxes_22 : decode cX6_boxes 22 = .ok (.ior, 1) := by decide +kernel
theorem dX6_boxes_23 : decode cX6_boxes 23 = .ok (.istore_n 1, 1) := by decide +kernel
theorem dX6_boxes_24 : decode cX6_boxes 24 = .ok (.iinc 2 1, 3) := by decide +kernel
theorem dX6_boxes_27 : decode cX6_boxes 27 = .ok (.goto (-23), 3) := by decide +kernel
theorem dX6_boxes_30 : decode cX6_boxes 30 = .ok (.iload_n 1, 1) := by decide +kernel
theorem dX6_boxes_31 : decode cX6_boxes 31 = .ok (.ireturn, 1) := by decide +kernel
theorem dX6_coldOnes_0 : decode cX6_coldOnes 0 = .ok (.iconst 0, 1) := by decide +kernel
theorem dX6_coldOnes_1 : decode cX6_coldOnes 1 = .ok (.istore_n 1, 1) := by decide +kernel
theorem dX6_coldOnes_2 : decode cX6_coldOnes 2 = .ok (.iconst 0, 1) := by decide +kernel
theorem dX6_coldOnes_3 : decode cX6_coldOnes 3 = .ok (.istore_n 2, 1) := by decide +kernel
theorem dX6_coldOnes_4 : decode cX6_coldOnes 4 = .ok (.iload_n 2, 1) := by decide +kernel
theorem dX6_coldOnes_5 : decode cX6_coldOnes 5 = .ok (.aload_n 0, 1) := by decide +kernel
theorem dX6_coldOnes_6 : decode cX6_coldOnes 6 = .ok (.getfield 7, 3) := by decide +kernel
theorem dX6_coldOnes_9 : decode cX6_coldOnes 9 = .ok (.iconst 0, 1) := by decide +kernel
theorem dX6_coldOnes_10 : decode cX6_coldOnes 10 = .ok (.iaload, 1) := by decide +kernel
theorem dX6_coldOnes_11 : decode cX6_coldOnes 11 = .ok (.if_icmp .ge 28, 3) := by decide +kernel
theorem dX6_coldOnes_14 : decode cX6_coldOnes 14 = .ok (.iload_n 1, 1) := by decide +kernel
theorem dX6_coldOnes_15 : decode cX6_coldOnes 15 = .ok (.aload_n 0, 1) := by decide +kernel
theorem dX6_coldOnes_16 : decode cX6_coldOnes 16 = .ok (.iload_n 2, 1) := by decide +kernel
theorem dX6_coldOnes_17 : decode cX6_coldOnes 17 = .ok (.iconst 1, 1) := by decide +kernel
theorem dX6_coldOnes_18 : decode cX6_coldOnes 18 = .ok (.invokevirtual 167, 3) := by decide +kernel
theorem dX6_coldOnes_21 : decode cX6_coldOnes 21 = .ok (.ifCond .ne 9, 3) := by decide +kernel
theorem dX6_coldOnes_24 : decode cX6_coldOnes 24 = .ok (.iconst 1, 1) := by decide +kernel
theorem dX6_coldOnes_25 : decode cX6_coldOnes 25 = .ok (.iload_n 2, 1) := by decide +kernel
theorem dX6_coldOnes_26 : decode cX6_coldOnes 26 = .ok (.ishl, 1) := by decide +kernel
theorem dX6_coldOnes_27 : decode cX6_coldOnes 27 = .ok (.goto 4, 3) := by decide +kernel
theorem dX6_coldOnes_30 : decode cX6_coldOnes 30 = .ok (.iconst 0, 1) := by decide +kernel
theorem dX6_coldOnes_31 : decode cX6_coldOnes 31 = .ok (.ior, 1) := by decide +kernel
theorem dX6_coldOnes_32 : decode cX6_coldOnes 32 = .ok (.istore_n 1, 1) := by decide +kernel
theorem dX6_coldOnes_33 : decode cX6_coldOnes 33 = .ok (.iinc 2 1, 3) := by decide +kernel
theorem dX6_coldOnes_36 : decode cX6_coldOnes 36 = .ok (.goto (-32), 3) := by decide +kernel
theorem dX6_coldOnes_39 : decode cX6_coldOnes 39 = .ok (.iload_n 1, 1) := by decide +kernel
theorem dX6_coldOnes_40 : decode cX6_coldOnes 40 = .ok (.ireturn, 1) := by decide +kernel
theorem dX6_state_0 : decode cX6_state 0 = .ok (.iload_n 1, 1) := by decide +kernel
theorem dX6_state_1 : decode cX6_state 1 = .ok (.tableswitch 71 0 5 #[39, 46, 51, 56, 61, 66], 39) := by decide +kernel
theorem dX6_state_40 : decode cX6_state 40 = .ok (.aload_n 0, 1) := by decide +kernel
theorem dX6_state_41 : decode cX6_state 41 = .ok (.getfield 7, 3) := by decide +kernel
theorem dX6_state_44 : decode cX6_state 44 = .ok (.iconst 1, 1) := by decide +kernel
theorem dX6_state_45 : decode cX6_state 45 = .ok (.iaload, 1) := by decide +kernel
theorem dX6_state_46 : decode cX6_state 46 = .ok (.ireturn, 1) := by decide +kernel
theorem dX6_state_47 : decode cX6_state 47 = .ok (.aload_n 0, 1) := by decide +kernel
theorem dX6_state_48 : decode cX6_state 48 = .ok (.invokevirtual 209, 3) := by decide +kernel
theorem dX6_state_51 : decode cX6_state 51 = .ok (.ireturn, 1) := by decide +kernel
theorem dX6_state_52 : decode cX6_state 52 = .ok (.aload_n 0, 1) := by decide +kernel
theorem dX6_state_53 : decode cX6_state 53 = .ok (.invokevirtual 218, 3) := by decide +kernel
theorem dX6_state_56 : decode cX6_state 56 = .ok (.ireturn, 1) := by decide +kernel
theorem dX6_state_57 : decode cX6_state 57 = .ok (.aload_n 0, 1) := by decide +kernel
theorem dX6_state_58 : decode cX6_state 58 = .ok (.invokevirtual 224, 3) := by decide +kernel
theorem dX6_state_61 : decode cX6_state 61 = .ok (.ireturn, 1) := by decide +kernel
theorem dX6_state_62 : decode cX6_state 62 = .ok (.aload_n 0, 1) := by decide +kernel
theorem dX6_state_63 : decode cX6_state 63 = .ok (.invokevirtual 227, 3) := by decide +kernel
theorem dX6_state_66 : decode cX6_state 66 = .ok (.ireturn, 1) := by decide +kernel
theorem dX6_state_67 : decode cX6_state 67 = .ok (.aload_n 0, 1) := by decide +kernel
theorem dX6_state_68 : decode cX6_state 68 = .ok (.invokevirtual 230, 3) := by decide +kernel
theorem dX6_state_71 : decode cX6_state 71 = .ok (.ireturn, 1) := by decide +kernel
theorem dX6_state_72 : decode cX6_state 72 = .ok (.iconst (-1), 1) := by decide +kernel
theorem dX6_state_73 : decode cX6_state 73 = .ok (.ireturn, 1) := by decide +kernel
theorem dX6_where_0 : decode cX6_where 0 = .ok (.aload_n 0, 1) := by decide +kernel
theorem dX6_where_1 : decode cX6_where 1 = .ok (.iload_n 1, 1) := by decide +kernel
theorem dX6_where_2 : decode cX6_where 2 = .ok (.invokevirtual 173, 3) := by decide +kernel
theorem dX6_where_5 : decode cX6_where 5 = .ok (.ifCond .eq 15, 3) := by decide +kernel
theorem dX6_where_8 : decode cX6_where 8 = .ok (.iload_n 2, 1) := by decide +kernel
theorem dX6_where_9 : decode cX6_where 9 = .ok (.i2l, 1) := by decide +kernel
theorem dX6_where_10 : decode cX6_where 10 = .ok (.lconst 0, 1) := by decide +kernel
theorem dX6_where_11 : decode cX6_where 11 = .ok (.ldc2_w 204, 3) := by decide +kernel
theorem dX6_where_14 : decode cX6_where 14 = .ok (.invokestatic 54, 3) := by decide +kernel
theorem dX6_where_17 : decode cX6_where 17 = .ok (.ifCond .ne 5, 3) := by decide +kernel
theorem dX6_where_20 : decode cX6_where 20 = .ok (.iconst (-1), 1) := by decide +kernel
theorem dX6_where_21 : decode cX6_where 21 = .ok (.ireturn, 1) := by decide +kernel
theorem dX6_where_22 : decode cX6_where 22 = .ok (.aload_n 0, 1) := by decide +kernel
theorem dX6_where_23 : decode cX6_where 23 = .ok (.getfield 7, 3) := by decide +kernel
theorem dX6_where_26 : decode cX6_where 26 = .ok (.aload_n 0, 1) := by decide +kernel
theorem dX6_where_27 : decode cX6_where 27 = .ok (.getfield 16, 3) := by decide +kernel
theorem dX6_where_30 : decode cX6_where 30 = .ok (.invokestatic 144, 3) := by decide +kernel
theorem dX6_where_33 : decode cX6_where 33 = .ok (.aload_n 0, 1) := by decide +kernel
theorem dX6_where_34 : decode cX6_where 34 = .ok (.iload_n 2, 1) := by decide +kernel
theorem dX6_where_35 : decode cX6_where 35 = .ok (.invokevirtual 206, 3) := by decide +kernel
theorem dX6_where_38 : decode cX6_where 38 = .ok (.aload_n 0, 1) := by decide +kernel
theorem dX6_where_39 : decode cX6_where 39 = .ok (.iload_n 1, 1) := by decide +kernel
theorem dX6_where_40 : decode cX6_where 40 = .ok (.iconst 2, 1) := by decide +kernel
theorem dX6_where_41 : decode cX6_where 41 = .ok (.invokevirtual 167, 3) := by decide +kernel
theorem dX6_where_44 : decode cX6_where 44 = .ok (.istore_n 3, 1) := by decide +kernel
theorem dX6_where_45 : decode cX6_where 45 = .ok (.aload_n 0, 1) := by decide +kernel
theorem dX6_where_46 : decode cX6_where 46 = .ok (.getfield 16, 3) := by decide +kernel
theorem dX6_where_49 : decode cX6_where 49 = .ok (.aload_n 0, 1) := by decide +kernel
theorem dX6_where_50 : decode cX6_where 50 = .ok (.getfield 7, 3) := by decide +kernel
theorem dX6_where_53 : decode cX6_where 53 = .ok (.invokestatic 144, 3) := by decide +kernel
theorem dX6_where_56 : decode cX6_where 56 = .ok (.iload_n 3, 1) := by decide +kernel
theorem dX6_where_57 : decode cX6_where 57 = .ok (.ireturn, 1) := by decide +kernel
theorem dX6_heardBy_0 : decode cX6_heardBy 0 = .ok (.aload_n 0, 1) := by decide +kernel
theorem dX6_heardBy_1 : decode cX6_heardBy 1 = .ok (.getfield 7, 3) := by decide +kernel
theorem dX6_heardBy_4 : decode cX6_heardBy 4 = .ok (.aload_n 0, 1) := by decide +kernel
theorem dX6_heardBy_5 : decode cX6_heardBy 5 = .ok (.getfield 16, 3) := by decide +kernel
theorem dX6_heardBy_8 : decode cX6_heardBy 8 = .ok (.invokestatic 144, 3) := by decide +kernel
theorem dX6_heardBy_11 : decode cX6_heardBy 11 = .ok (.iconst 0, 1) := by decide +kernel
theorem dX6_heardBy_12 : decode cX6_heardBy 12 = .ok (.istore 4, 2) := by decide +kernel
theorem dX6_heardBy_14 : decode cX6_heardBy 14 = .ok (.iload 4, 2) := by decide +kernel
theorem dX6_heardBy_16 : decode cX6_heardBy 16 = .ok (.iload_n 3, 1) := by decide +kernel
theorem dX6_heardBy_17 : decode cX6_heardBy 17 = .ok (.if_icmp .gt 25, 3) := by decide +kernel
theorem dX6_heardBy_20 : decode cX6_heardBy 20 = .ok (.aload_n 0, 1) := by decide +kernel
theorem dX6_heardBy_21 : decode cX6_heardBy 21 = .ok (.iload_n 1, 1) := by decide +kernel
theorem dX6_heardBy_22 : decode cX6_heardBy 22 = .ok (.iconst 3, 1) := by decide +kernel
theorem dX6_heardBy_23 : decode cX6_heardBy 23 = .ok (.invokevirtual 167, 3) := by decide +kernel
theorem dX6_heardBy_26 : decode cX6_heardBy 26 = .ok (.iload_n 2, 1) := by decide +kernel
theorem dX6_heardBy_27 : decode cX6_heardBy 27 = .ok (.iand, 1) := by decide +kernel
theorem dX6_heardBy_28 : decode cX6_heardBy 28 = .ok (.iload_n 2, 1) := by decide +kernel
theorem dX6_heardBy_29 : decode cX6_heardBy 29 = .ok (.if_icmp .eq 13, 3) := by decide +kernel
theorem dX6_heardBy_32 : decode cX6_heardBy 32 = .ok (.aload_n 0, 1) := by decide +kernel
theorem dX6_heardBy_33 : decode cX6_heardBy 33 = .ok (.invokevirtual 201, 3) := by decide +kernel
theorem dX6_heardBy_36 : decode cX6_heardBy 36 = .ok (.iinc 4 1, 3) := by decide +kernel
theorem dX6_heardBy_39 : decode cX6_heardBy 39 = .ok (.goto (-25), 3) := by decide +kernel
theorem dX6_heardBy_42 : decode cX6_heardBy 42 = .ok (.aload_n 0, 1) := by decide +kernel
theorem dX6_heardBy_43 : decode cX6_heardBy 43 = .ok (.getfield 16, 3) := by decide +kernel
theorem dX6_heardBy_46 : decode cX6_heardBy 46 = .ok (.aload_n 0, 1) := by decide +kernel
theorem dX6_heardBy_47 : decode cX6_heardBy 47 = .ok (.getfield 7, 3) := by decide +kernel
theorem dX6_heardBy_50 : decode cX6_heardBy 50 = .ok (.invokestatic 144, 3) := by decide +kernel
theorem dX6_heardBy_53 : decode cX6_heardBy 53 = .ok (.iload 4, 2) := by decide +kernel
theorem dX6_heardBy_55 : decode cX6_heardBy 55 = .ok (.ireturn, 1) := by decide +kernel
theorem dX6_comes_0 : decode cX6_comes 0 = .ok (.aload_n 0, 1) := by decide +kernel
theorem dX6_comes_1 : decode cX6_comes 1 = .ok (.iload_n 1, 1) := by decide +kernel
theorem dX6_comes_2 : decode cX6_comes 2 = .ok (.invokevirtual 173, 3) := by decide +kernel
theorem dX6_comes_5 : decode cX6_comes 5 = .ok (.ifCond .eq 10, 3) := by decide +kernel
theorem dX6_comes_8 : decode cX6_comes 8 = .ok (.iload_n 2, 1) := by decide +kernel
theorem dX6_comes_9 : decode cX6_comes 9 = .ok (.invokestatic 164, 3) := by decide +kernel
theorem dX6_comes_12 : decode cX6_comes 12 = .ok (.ifCond .ne 5, 3) := by decide +kernel
theorem dX6_comes_15 : decode cX6_comes 15 = .ok (.iconst (-1), 1) := by decide +kernel
theorem dX6_comes_16 : decode cX6_comes 16 = .ok (.ireturn, 1) := by decide +kernel
theorem dX6_comes_17 : decode cX6_comes 17 = .ok (.aload_n 0, 1) := by decide +kernel
theorem dX6_comes_18 : decode cX6_comes 18 = .ok (.iload_n 1, 1) := by decide +kernel
theorem dX6_comes_19 : decode cX6_comes 19 = .ok (.iconst 1, 1) := by decide +kernel
theorem dX6_comes_20 : decode cX6_comes 20 = .ok (.iload_n 2, 1) := by decide +kernel
theorem dX6_comes_21 : decode cX6_comes 21 = .ok (.ishl, 1) := by decide +kernel
theorem dX6_comes_22 : decode cX6_comes 22 = .ok (.bipush 60, 2) := by decide +kernel
theorem dX6_comes_24 : decode cX6_comes 24 = .ok (.invokevirtual 233, 3) := by decide +kernel
theorem dX6_comes_27 : decode cX6_comes 27 = .ok (.istore_n 3, 1) := by decide +kernel
theorem dX6_comes_28 : decode cX6_comes 28 = .ok (.iload_n 3, 1) := by decide +kernel
theorem dX6_comes_29 : decode cX6_comes 29 = .ok (.bipush 60, 2) := by decide +kernel
theorem dX6_comes_31 : decode cX6_comes 31 = .ok (.if_icmp .gt 7, 3) := by decide +kernel
theorem dX6_comes_34 : decode cX6_comes 34 = .ok (.iload_n 3, 1) := by decide +kernel
theorem dX6_comes_35 : decode cX6_comes 35 = .ok (.goto 5, 3) := by decide +kernel
theorem dX6_comes_38 : decode cX6_comes 38 = .ok (.bipush (-3), 2) := by decide +kernel
theorem dX6_comes_40 : decode cX6_comes 40 = .ok (.ireturn, 1) := by decide +kernel
theorem dX6_whole_0 : decode cX6_whole 0 = .ok (.aload_n 0, 1) := by decide +kernel
theorem dX6_whole_1 : decode cX6_whole 1 = .ok (.iload_n 1, 1) := by decide +kernel
theorem dX6_whole_2 : decode cX6_whole 2 = .ok (.invokevirtual 173, 3) := by decide +kernel
theorem dX6_whole_5 : decode cX6_whole 5 = .ok (.ifCond .ne 5, 3) := by decide +kernel
theorem dX6_whole_8 : decode cX6_whole 8 = .ok (.iconst (-1), 1) := by decide +kernel
theorem dX6_whole_9 : decode cX6_whole 9 = .ok (.ireturn, 1) := by decide +kernel
theorem dX6_whole_10 : decode cX6_whole 10 = .ok (.aload_n 0, 1) := by decide +kernel
theorem dX6_whole_11 : decode cX6_whole 11 = .ok (.iload_n 1, 1) := by decide +kernel
theorem dX6_whole_12 : decode cX6_whole 12 = .ok (.sipush 255, 3) := by decide +kernel
theorem dX6_whole_15 : decode cX6_whole 15 = .ok (.bipush 60, 2) := by decide +kernel
theorem dX6_whole_17 : decode cX6_whole 17 = .ok (.invokevirtual 233, 3) := by decide +kernel
theorem dX6_whole_20 : decode cX6_whole 20 = .ok (.istore_n 2, 1) := by decide +kernel
theorem dX6_whole_21 : decode cX6_whole 21 = .ok (.iload_n 2, 1) := by decide +kernel
theorem dX6_whole_22 : decode cX6_whole 22 = .ok (.bipush 60, 2) := by decide +kernel
theorem dX6_whole_24 : decode cX6_whole 24 = .ok (.if_icmp .gt 7, 3) := by decide +kernel
theorem dX6_whole_27 : decode cX6_whole 27 = .ok (.iload_n 2, 1) := by decide +kernel
theorem dX6_whole_28 : decode cX6_whole 28 = .ok (.goto 5, 3) := by decide +kernel
theorem dX6_whole_31 : decode cX6_whole 31 = .ok (.bipush (-3), 2) := by decide +kernel
theorem dX6_whole_33 : decode cX6_whole 33 = .ok (.ireturn, 1) := by decide +kernel
theorem dX6_cold_0 : decode cX6_cold 0 = .ok (.aload_n 0, 1) := by decide +kernel
theorem dX6_cold_1 : decode cX6_cold 1 = .ok (.iload_n 1, 1) := by decide +kernel
theorem dX6_cold_2 : decode cX6_cold 2 = .ok (.invokevirtual 173, 3) := by decide +kernel
theorem dX6_cold_5 : decode cX6_cold 5 = .ok (.ifCond .ne 5, 3) := by decide +kernel
theorem dX6_cold_8 : decode cX6_cold 8 = .ok (.iconst (-1), 1) := by decide +kernel
theorem dX6_cold_9 : decode cX6_cold 9 = .ok (.ireturn, 1) := by decide +kernel
theorem dX6_cold_10 : decode cX6_cold 10 = .ok (.aload_n 0, 1) := by decide +kernel
theorem dX6_cold_11 : decode cX6_cold 11 = .ok (.getfield 7, 3) := by decide +kernel
theorem dX6_cold_14 : decode cX6_cold 14 = .ok (.aload_n 0, 1) := by decide +kernel
theorem dX6_cold_15 : decode cX6_cold 15 = .ok (.getfield 16, 3) := by decide +kernel
theorem dX6_cold_18 : decode cX6_cold 18 = .ok (.invokestatic 144, 3) := by decide +kernel
theorem dX6_cold_21 : decode cX6_cold 21 = .ok (.iconst 0, 1) := by decide +kernel
theorem dX6_cold_22 : decode cX6_cold 22 = .ok (.istore_n 2, 1) := by decide +kernel
theorem dX6_cold_23 : decode cX6_cold 23 = .ok (.iload_n 2, 1) := by decide +kernel
theorem dX6_cold_24 : decode cX6_cold 24 = .ok (.bipush 60, 2) := by decide +kernel
theorem dX6_cold_26 : decode cX6_cold 26 = .ok (.if_icmp .gt 22, 3) := by decide +kernel
theorem dX6_cold_29 : decode cX6_cold 29 = .ok (.aload_n 0, 1) := by decide +kernel
theorem dX6_cold_30 : decode cX6_cold 30 = .ok (.iload_n 1, 1) := by decide +kernel
theorem dX6_cold_31 : decode cX6_cold 31 = .ok (.iconst 1, 1) := by decide +kernel
theorem dX6_cold_32 : decode cX6_cold 32 = .ok (.invokevirtual 167, 3) := by decide +kernel
theorem dX6_cold_35 : decode cX6_cold 35 = .ok (.ifCond .le 13, 3) := by decide +kernel
theorem dX6_cold_38 : decode cX6_cold 38 = .ok (.aload_n 0, 1) := by decide +kernel
theorem dX6_cold_39 : decode cX6_cold 39 = .ok (.invokevirtual 201, 3) := by decide +kernel
theorem dX6_cold_42 : decode cX6_cold 42 = .ok (.iinc 2 1, 3) := by decide +kernel
theorem dX6_cold_45 : decode cX6_cold 45 = .ok (.goto (-22), 3) := by decide +kernel
theorem dX6_cold_48 : decode cX6_cold 48 = .ok (.aload_n 0, 1) := by decide +kernel
theorem dX6_cold_49 : decode cX6_cold 49 = .ok (.getfield 16, 3) := by decide +kernel
theorem dX6_cold_52 : decode cX6_cold 52 = .ok (.aload_n 0, 1) := by decide +kernel
theorem dX6_cold_53 : decode cX6_cold 53 = .ok (.getfield 7, 3) := by decide +kernel
theorem dX6_cold_56 : decode cX6_cold 56 = .ok (.invokestatic 144, 3) := by decide +kernel
theorem dX6_cold_59 : decode cX6_cold 59 = .ok (.iload_n 2, 1) := by decide +kernel
theorem dX6_cold_60 : decode cX6_cold 60 = .ok (.bipush 60, 2) := by decide +kernel
theorem dX6_cold_62 : decode cX6_cold 62 = .ok (.if_icmp .gt 7, 3) := by decide +kernel
theorem dX6_cold_65 : decode cX6_cold 65 = .ok (.iload_n 2, 1) := by decide +kernel
theorem dX6_cold_66 : decode cX6_cold 66 = .ok (.goto 5, 3) := by decide +kernel
theorem dX6_cold_69 : decode cX6_cold 69 = .ok (.bipush (-3), 2) := by decide +kernel
theorem dX6_cold_71 : decode cX6_cold 71 = .ok (.ireturn, 1) := by decide +kernel
theorem dX6_home_0 : decode cX6_home 0 = .ok (.aload_n 0, 1) := by decide +kernel
theorem dX6_home_1 : decode cX6_home 1 = .ok (.iload_n 1, 1) := by decide +kernel
theorem dX6_home_2 : decode cX6_home 2 = .ok (.invokevirtual 173, 3) := by decide +kernel
theorem dX6_home_5 : decode cX6_home 5 = .ok (.ifCond .ne 5, 3) := by decide +kernel
theorem dX6_home_8 : decode cX6_home 8 = .ok (.iconst (-1), 1) := by decide +kernel
theorem dX6_home_9 : decode cX6_home 9 = .ok (.ireturn, 1) := by decide +kernel
theorem dX6_home_10 : decode cX6_home 10 = .ok (.aload_n 0, 1) := by decide +kernel
theorem dX6_home_11 : decode cX6_home 11 = .ok (.getfield 7, 3) := by decide +kernel
theorem dX6_home_14 : decode cX6_home 14 = .ok (.aload_n 0, 1) := by decide +kernel
theorem dX6_home_15 : decode cX6_home 15 = .ok (.getfield 16, 3) := by decide +kernel
theorem dX6_home_18 : decode cX6_home 18 = .ok (.invokestatic 144, 3) := by decide +kernel
theorem dX6_home_21 : decode cX6_home 21 = .ok (.aload_n 0, 1) := by decide +kernel
theorem dX6_home_22 : decode cX6_home 22 = .ok (.iload_n 1, 1) := by decide +kernel
theorem dX6_home_23 : decode cX6_home 23 = .ok (.iconst 2, 1) := by decide +kernel
theorem dX6_home_24 : decode cX6_home 24 = .ok (.invokevirtual 167, 3) := by decide +kernel
theorem dX6_home_27 : decode cX6_home 27 = .ok (.istore_n 2, 1) := by decide +kernel
theorem dX6_home_28 : decode cX6_home 28 = .ok (.iconst 0, 1) := by decide +kernel
theorem dX6_home_29 : decode cX6_home 29 = .ok (.istore_n 3, 1) := by decide +kernel
theorem dX6_home_30 : decode cX6_home 30 = .ok (.iconst 0, 1) := by decide +kernel
theorem dX6_home_31 : decode cX6_home 31 = .ok (.istore 4, 2) := by decide +kernel
theorem dX6_home_33 : decode cX6_home 33 = .ok (.iload_n 3, 1) := by decide +kernel
theorem dX6_home_34 : decode cX6_home 34 = .ok (.bipush 60, 2) := by decide +kernel
theorem dX6_home_36 : decode cX6_home 36 = .ok (.if_icmp .ge 44, 3) := by decide +kernel
theorem dX6_home_39 : decode cX6_home 39 = .ok (.iload 4, 2) := by decide +kernel
theorem dX6_home_41 : decode cX6_home 41 = .ok (.ifCond .ne 39, 3) := by decide +kernel
theorem dX6_home_44 : decode cX6_home 44 = .ok (.aload_n 0, 1) := by decide +kernel
theorem dX6_home_45 : decode cX6_home 45 = .ok (.invokevirtual 201, 3) := by decide +kernel
theorem dX6_home_48 : decode cX6_home 48 = .ok (.aload_n 0, 1) := by decide +kernel
theorem dX6_home_49 : decode cX6_home 49 = .ok (.iload_n 1, 1) := by decide +kernel
theorem dX6_home_50 : decode cX6_home 50 = .ok (.iconst 2, 1) := by decide +kernel
theorem dX6_home_51 : decode cX6_home 51 = .ok (.invokevirtual 167, 3) := by decide +kernel
theorem dX6_home_54 : decode cX6_home 54 = .ok (.iload_n 2, 1) := by decide +kernel
theorem dX6_home_55 : decode cX6_home 55 = .ok (.if_icmp .ne 16, 3) := by decide +kernel
theorem dX6_home_58 : decode cX6_home 58 = .ok (.aload_n 0, 1) := by decide +kernel
theorem dX6_home_59 : decode cX6_home 59 = .ok (.iload_n 1, 1) := by decide +kernel
theorem dX6_home_60 : decode cX6_home 60 = .ok (.iconst 1, 1) := by decide +kernel
theorem dX6_home_61 : decode cX6_home 61 = .ok (.invokevirtual 167, 3) := by decide +kernel
theorem dX6_home_64 : decode cX6_home 64 = .ok (.ifCond .le 7, 3) := by decide +kernel
theorem dX6_home_67 : decode cX6_home 67 = .ok (.iconst 1, 1) := by decide +kernel
theorem dX6_home_68 : decode cX6_home 68 = .ok (.goto 4, 3) := by decide +kernel
theorem dX6_home_71 : decode cX6_home 71 = .ok (.iconst 0, 1) := by decide +kernel
theorem dX6_home_72 : decode cX6_home 72 = .ok (.istore 4, 2) := by decide +kernel
theorem dX6_home_74 : decode cX6_home 74 = .ok (.iinc 3 1, 3) := by decide +kernel
theorem dX6_home_77 : decode cX6_home 77 = .ok (.goto (-44), 3) := by decide +kernel
theorem dX6_home_80 : decode cX6_home 80 = .ok (.aload_n 0, 1) := by decide +kernel
theorem dX6_home_81 : decode cX6_home 81 = .ok (.getfield 16, 3) := by decide +kernel
theorem dX6_home_84 : decode cX6_home 84 = .ok (.aload_n 0, 1) := by decide +kernel
theorem dX6_home_85 : decode cX6_home 85 = .ok (.getfield 7, 3) := by decide +kernel
theorem dX6_home_88 : decode cX6_home 88 = .ok (.invokestatic 144, 3) := by decide +kernel
theorem dX6_home_91 : decode cX6_home 91 = .ok (.iload 4, 2) := by decide +kernel
theorem dX6_home_93 : decode cX6_home 93 = .ok (.ifCond .eq 7, 3) := by decide +kernel
theorem dX6_home_96 : decode cX6_home 96 = .ok (.iload_n 3, 1) := by decide +kernel
theorem dX6_home_97 : decode cX6_home 97 = .ok (.goto 5, 3) := by decide +kernel
theorem dX6_home_100 : decode cX6_home 100 = .ok (.bipush (-3), 2) := by decide +kernel
theorem dX6_home_102 : decode cX6_home 102 = .ok (.ireturn, 1) := by decide +kernel
theorem dX6_reachBy_0 : decode cX6_reachBy 0 = .ok (.aload_n 0, 1) := by decide +kernel
theorem dX6_reachBy_1 : decode cX6_reachBy 1 = .ok (.getfield 7, 3) := by decide +kernel
theorem dX6_reachBy_4 : decode cX6_reachBy 4 = .ok (.aload_n 0, 1) := by decide +kernel
theorem dX6_reachBy_5 : decode cX6_reachBy 5 = .ok (.getfield 16, 3) := by decide +kernel
theorem dX6_reachBy_8 : decode cX6_reachBy 8 = .ok (.invokestatic 144, 3) := by decide +kernel
theorem dX6_reachBy_11 : decode cX6_reachBy 11 = .ok (.aload_n 0, 1) := by decide +kernel
theorem dX6_reachBy_12 : decode cX6_reachBy 12 = .ok (.iload_n 2, 1) := by decide +kernel
theorem dX6_reachBy_13 : decode cX6_reachBy 13 = .ok (.invokevirtual 206, 3) := by decide +kernel
theorem dX6_reachBy_16 : decode cX6_reachBy 16 = .ok (.aload_n 0, 1) := by decide +kernel
theorem dX6_reachBy_17 : decode cX6_reachBy 17 = .ok (.iload_n 1, 1) := by decide +kernel
theorem dX6_reachBy_18 : decode cX6_reachBy 18 = .ok (.iconst 3, 1) := by decide +kernel
theorem dX6_reachBy_19 : decode cX6_reachBy 19 = .ok (.invokevirtual 167, 3) := by decide +kernel
theorem dX6_reachBy_22 : decode cX6_reachBy 22 = .ok (.invokestatic 170, 3) := by decide +kernel
theorem dX6_reachBy_25 : decode cX6_reachBy 25 = .ok (.istore_n 3, 1) := by decide +kernel
theorem dX6_reachBy_26 : decode cX6_reachBy 26 = .ok (.aload_n 0, 1) := by decide +kernel
theorem dX6_reachBy_27 : decode cX6_reachBy 27 = .ok (.getfield 16, 3) := by decide +kernel
theorem dX6_reachBy_30 : decode cX6_reachBy 30 = .ok (.aload_n 0, 1) := by decide +kernel
theorem dX6_reachBy_31 : decode cX6_reachBy 31 = .ok (.getfield 7, 3) := by decide +kernel
theorem dX6_reachBy_34 : decode cX6_reachBy 34 = .ok (.invokestatic 144, 3) := by decide +kernel
theorem dX6_reachBy_37 : decode cX6_reachBy 37 = .ok (.iload_n 3, 1) := by decide +kernel
theorem dX6_reachBy_38 : decode cX6_reachBy 38 = .ok (.ireturn, 1) := by decide +kernel
theorem dX6_reach_0 : decode cX6_reach 0 = .ok (.aload_n 0, 1) := by decide +kernel
theorem dX6_reach_1 : decode cX6_reach 1 = .ok (.iload_n 1, 1) := by decide +kernel
theorem dX6_reach_2 : decode cX6_reach 2 = .ok (.invokevirtual 173, 3) := by decide +kernel
theorem dX6_reach_5 : decode cX6_reach 5 = .ok (.ifCond .eq 24, 3) := by decide +kernel
theorem dX6_reach_8 : decode cX6_reach 8 = .ok (.iload_n 2, 1) := by decide +kernel
theorem dX6_reach_9 : decode cX6_reach 9 = .ok (.i2l, 1) := by decide +kernel
theorem dX6_reach_10 : decode cX6_reach 10 = .ok (.lconst 0, 1) := by decide +kernel
theorem dX6_reach_11 : decode cX6_reach 11 = .ok (.ldc2_w 204, 3) := by decide +kernel
theorem dX6_reach_14 : decode cX6_reach 14 = .ok (.invokestatic 54, 3) := by decide +kernel
theorem dX6_reach_17 : decode cX6_reach 17 = .ok (.ifCond .eq 12, 3) := by decide +kernel
theorem dX6_reach_20 : decode cX6_reach 20 = .ok (.aload_n 0, 1) := by decide +kernel
theorem dX6_reach_21 : decode cX6_reach 21 = .ok (.iload_n 1, 1) := by decide +kernel
theorem dX6_reach_22 : decode cX6_reach 22 = .ok (.iload_n 2, 1) := by decide +kernel
theorem dX6_reach_23 : decode cX6_reach 23 = .ok (.invokevirtual 237, 3) := by decide +kernel
theorem dX6_reach_26 : decode cX6_reach 26 = .ok (.goto 4, 3) := by decide +kernel
theorem dX6_reach_29 : decode cX6_reach 29 = .ok (.iconst (-1), 1) := by decide +kernel
theorem dX6_reach_30 : decode cX6_reach 30 = .ok (.ireturn, 1) := by decide +kernel
theorem dX6_isShort_0 : decode cX6_isShort 0 = .ok (.iload_n 0, 1) := by decide +kernel
theorem dX6_isShort_1 : decode cX6_isShort 1 = .ok (.i2l, 1) := by decide +kernel
theorem dX6_isShort_2 : decode cX6_isShort 2 = .ok (.lconst 1, 1) := by decide +kernel
theorem dX6_isShort_3 : decode cX6_isShort 3 = .ok (.ldc2_w 216, 3) := by decide +kernel
theorem dX6_isShort_6 : decode cX6_isShort 6 = .ok (.invokestatic 54, 3) := by decide +kernel
theorem dX6_isShort_9 : decode cX6_isShort 9 = .ok (.ireturn, 1) := by decide +kernel
theorem dX6_farthestBy_0 : decode cX6_farthestBy 0 = .ok (.aload_n 0, 1) := by decide +kernel
theorem dX6_farthestBy_1 : decode cX6_farthestBy 1 = .ok (.getfield 7, 3) := by decide +kernel
theorem dX6_farthestBy_4 : decode cX6_farthestBy 4 = .ok (.iload_n 2, 1) := by decide +kernel
theorem dX6_farthestBy_5 : decode cX6_farthestBy 5 = .ok (.iaload, 1) := by decide +kernel
theorem dX6_farthestBy_6 : decode cX6_farthestBy 6 = .ok (.istore 5, 2) := by decide +kernel
theorem dX6_farthestBy_8 : decode cX6_farthestBy 8 = .ok (.iconst 0, 1) := by decide +kernel
theorem dX6_farthestBy_9 : decode cX6_farthestBy 9 = .ok (.istore 6, 2) := by decide +kernel
theorem dX6_farthestBy_11 : decode cX6_farthestBy 11 = .ok (.iconst (-1), 1) := by decide +kernel
theorem dX6_farthestBy_12 : decode cX6_farthestBy 12 = .ok (.istore 7, 2) := by decide +kernel
theorem dX6_farthestBy_14 : decode cX6_farthestBy 14 = .ok (.iconst 0, 1) := by decide +kernel
theorem dX6_farthestBy_15 : decode cX6_farthestBy 15 = .ok (.istore 8, 2) := by decide +kernel
theorem dX6_farthestBy_17 : decode cX6_farthestBy 17 = .ok (.iload 8, 2) := by decide +kernel
theorem dX6_farthestBy_19 : decode cX6_farthestBy 19 = .ok (.iload_n 3, 1) := by decide +kernel
theorem dX6_farthestBy_20 : decode cX6_farthestBy 20 = .ok (.if_icmp .gt 51, 3) := by decide +kernel
theorem dX6_farthestBy_23 : decode cX6_farthestBy 23 = .ok (.aload_n 0, 1) := by decide +kernel
theorem dX6_farthestBy_24 : decode cX6_farthestBy 24 = .ok (.getfield 7, 3) := by decide +kernel
theorem dX6_farthestBy_27 : decode cX6_farthestBy 27 = .ok (.iload_n 2, 1) := by decide +kernel
theorem dX6_farthestBy_28 : decode cX6_farthestBy 28 = .ok (.iload 8, 2) := by decide +kernel
theorem dX6_farthestBy_30 : decode cX6_farthestBy 30 = .ok (.iastore, 1) := by decide +kernel
theorem dX6_farthestBy_31 : decode cX6_farthestBy 31 = .ok (.aload_n 0, 1) := by decide +kernel
theorem dX6_farthestBy_32 : decode cX6_farthestBy 32 = .ok (.iload_n 1, 1) := by decide +kernel
theorem dX6_farthestBy_33 : decode cX6_farthestBy 33 = .ok (.iload 4, 2) := by decide +kernel
theorem dX6_farthestBy_35 : decode cX6_farthestBy 35 = .ok (.invokevirtual 237, 3) := by decide +kernel
theorem dX6_farthestBy_38 : decode cX6_farthestBy 38 = .ok (.istore 9, 2) := by decide +kernel
theorem dX6_farthestBy_40 : decode cX6_farthestBy 40 = .ok (.iload 9, 2) := by decide +kernel
theorem dX6_farthestBy_42 : decode cX6_farthestBy 42 = .ok (.iload 7, 2) := by decide +kernel
theorem dX6_farthestBy_44 : decode cX6_farthestBy 44 = .ok (.if_icmp .le 8, 3) := by decide +kernel
theorem dX6_farthestBy_47 : decode cX6_farthestBy 47 = .ok (.iload 8, 2) := by decide +kernel
theorem dX6_farthestBy_49 : decode cX6_farthestBy 49 = .ok (.goto 5, 3) := by decide +kernel
theorem dX6_farthestBy_52 : decode cX6_farthestBy 52 = .ok (.iload 6, 2) := by decide +kernel
theorem dX6_farthestBy_54 : decode cX6_farthestBy 54 = .ok (.istore 6, 2) := by decide +kernel
theorem dX6_farthestBy_56 : decode cX6_farthestBy 56 = .ok (.iload 7, 2) := by decide +kernel
theorem dX6_farthestBy_58 : decode cX6_farthestBy 58 = .ok (.iload 9, 2) := by decide +kernel
theorem dX6_farthestBy_60 : decode cX6_farthestBy 60 = .ok (.invokestatic 240, 3) := by decide +kernel
theorem dX6_farthestBy_63 : decode cX6_farthestBy 63 = .ok (.istore 7, 2) := by decide +kernel
theorem dX6_farthestBy_65 : decode cX6_farthestBy 65 = .ok (.iinc 8 1, 3) := by decide +kernel
theorem dX6_farthestBy_68 : decode cX6_farthestBy 68 = .ok (.goto (-51), 3) := by decide +kernel
theorem dX6_farthestBy_71 : decode cX6_farthestBy 71 = .ok (.aload_n 0, 1) := by decide +kernel
theorem dX6_farthestBy_72 : decode cX6_farthestBy 72 = .ok (.getfield 7, 3) := by decide +kernel
theorem dX6_farthestBy_75 : decode cX6_farthestBy 75 = .ok (.iload_n 2, 1) := by decide +kernel
theorem dX6_farthestBy_76 : decode cX6_farthestBy 76 = .ok (.iload 5, 2) := by decide +kernel
theorem dX6_farthestBy_78 : decode cX6_farthestBy 78 = .ok (.iastore, 1) := by decide +kernel
theorem dX6_farthestBy_79 : decode cX6_farthestBy 79 = .ok (.iload 6, 2) := by decide +kernel
theorem dX6_farthestBy_81 : decode cX6_farthestBy 81 = .ok (.ireturn, 1) := by decide +kernel
theorem dX6_friendFor_0 : decode cX6_friendFor 0 = .ok (.iload_n 1, 1) := by decide +kernel
theorem dX6_friendFor_1 : decode cX6_friendFor 1 = .ok (.invokestatic 164, 3) := by decide +kernel
theorem dX6_friendFor_4 : decode cX6_friendFor 4 = .ok (.ifCond .eq 33, 3) := by decide +kernel
theorem dX6_friendFor_7 : decode cX6_friendFor 7 = .ok (.aload_n 0, 1) := by decide +kernel
theorem dX6_friendFor_8 : decode cX6_friendFor 8 = .ok (.iload_n 2, 1) := by decide +kernel
theorem dX6_friendFor_9 : decode cX6_friendFor 9 = .ok (.invokevirtual 173, 3) := by decide +kernel
theorem dX6_friendFor_12 : decode cX6_friendFor 12 = .ok (.ifCond .eq 25, 3) := by decide +kernel
theorem dX6_friendFor_15 : decode cX6_friendFor 15 = .ok (.iload_n 3, 1) := by decide +kernel
theorem dX6_friendFor_16 : decode cX6_friendFor 16 = .ok (.invokestatic 243, 3) := by decide +kernel
theorem dX6_friendFor_19 : decode cX6_friendFor 19 = .ok (.ifCond .eq 18, 3) := by decide +kernel
theorem dX6_friendFor_22 : decode cX6_friendFor 22 = .ok (.aload_n 0, 1) := by decide +kernel
theorem dX6_friendFor_23 : decode cX6_friendFor 23 = .ok (.iload_n 2, 1) := by decide +kernel
theorem dX6_friendFor_24 : decode cX6_friendFor 24 = .ok (.bipush 7, 2) := by decide +kernel
theorem dX6_friendFor_26 : decode cX6_friendFor 26 = .ok (.iload_n 1, 1) := by decide +kernel
theorem dX6_friendFor_27 : decode cX6_friendFor 27 = .ok (.iadd, 1) := by decide +kernel
theorem dX6_friendFor_28 : decode cX6_friendFor 28 = .ok (.bipush 7, 2) := by decide +kernel
theorem dX6_friendFor_30 : decode cX6_friendFor 30 = .ok (.iload_n 3, 1) := by decide +kernel
theorem dX6_friendFor_31 : decode cX6_friendFor 31 = .ok (.invokevirtual 246, 3) := by decide +kernel
theorem dX6_friendFor_34 : decode cX6_friendFor 34 = .ok (.goto 4, 3) := by decide +kernel
theorem dX6_friendFor_37 : decode cX6_friendFor 37 = .ok (.iconst (-1), 1) := by decide +kernel
theorem dX6_friendFor_38 : decode cX6_friendFor 38 = .ok (.ireturn, 1) := by decide +kernel
theorem dX6_kindFor_0 : decode cX6_kindFor 0 = .ok (.aload_n 0, 1) := by decide +kernel
theorem dX6_kindFor_1 : decode cX6_kindFor 1 = .ok (.iload_n 1, 1) := by decide +kernel
theorem dX6_kindFor_2 : decode cX6_kindFor 2 = .ok (.invokevirtual 173, 3) := by decide +kernel
theorem dX6_kindFor_5 : decode cX6_kindFor 5 = .ok (.ifCond .eq 26, 3) := by decide +kernel
theorem dX6_kindFor_8 : decode cX6_kindFor 8 = .ok (.iload_n 2, 1) := by decide +kernel
theorem dX6_kindFor_9 : decode cX6_kindFor 9 = .ok (.invokestatic 243, 3) := by decide +kernel
theorem dX6_kindFor_12 : decode cX6_kindFor 12 = .ok (.ifCond .eq 19, 3) := by decide +kernel
theorem dX6_kindFor_15 : decode cX6_kindFor 15 = .ok (.aload_n 0, 1) := by decide +kernel
theorem dX6_kindFor_16 : decode cX6_kindFor 16 = .ok (.iload_n 1, 1) := by decide +kernel
theorem dX6_kindFor_17 : decode cX6_kindFor 17 = .ok (.bipush 31, 2) := by decide +kernel
theorem dX6_kindFor_19 : decode cX6_kindFor 19 = .ok (.iconst 4, 1) := by decide +kernel
theorem dX6_kindFor_20 : decode cX6_kindFor 20 = .ok (.iload_n 1, 1) := by decide +kernel
theorem dX6_kindFor_21 : decode cX6_kindFor 21 = .ok (.imul, 1) := by decide +kernel
theorem dX6_kindFor_22 : decode cX6_kindFor 22 = .ok (.iadd, 1) := by decide +kernel
theorem dX6_kindFor_23 : decode cX6_kindFor 23 = .ok (.iconst 5, 1) := by decide +kernel
theorem dX6_kindFor_24 : decode cX6_kindFor 24 = .ok (.iload_n 2, 1) := by decide +kernel
theorem dX6_kindFor_25 : decode cX6_kindFor 25 = .ok (.invokevirtual 246, 3) := by decide +kernel
theorem dX6_kindFor_28 : decode cX6_kindFor 28 = .ok (.goto 4, 3) := by decide +kernel
theorem dX6_kindFor_31 : decode cX6_kindFor 31 = .ok (.iconst (-1), 1) := by decide +kernel
theorem dX6_kindFor_32 : decode cX6_kindFor 32 = .ok (.ireturn, 1) := by decide +kernel
theorem dX6_heatBehind_0 : decode cX6_heatBehind 0 = .ok (.aload_n 0, 1) := by decide +kernel
theorem dX6_heatBehind_1 : decode cX6_heatBehind 1 = .ok (.getfield 7, 3) := by decide +kernel
theorem dX6_heatBehind_4 : decode cX6_heatBehind 4 = .ok (.aload_n 0, 1) := by decide +kernel
theorem dX6_heatBehind_5 : decode cX6_heatBehind 5 = .ok (.getfield 16, 3) := by decide +kernel
theorem dX6_heatBehind_8 : decode cX6_heatBehind 8 = .ok (.invokestatic 144, 3) := by decide +kernel
theorem dX6_heatBehind_11 : decode cX6_heatBehind 11 = .ok (.aload_n 0, 1) := by decide +kernel
theorem dX6_heatBehind_12 : decode cX6_heatBehind 12 = .ok (.iload_n 2, 1) := by decide +kernel
theorem dX6_heatBehind_13 : decode cX6_heatBehind 13 = .ok (.invokevirtual 206, 3) := by decide +kernel
theorem dX6_heatBehind_16 : decode cX6_heatBehind 16 = .ok (.aload_n 0, 1) := by decide +kernel
theorem dX6_heatBehind_17 : decode cX6_heatBehind 17 = .ok (.iload_n 1, 1) := by decide +kernel
theorem dX6_heatBehind_18 : decode cX6_heatBehind 18 = .ok (.iconst 1, 1) := by decide +kernel
theorem dX6_heatBehind_19 : decode cX6_heatBehind 19 = .ok (.invokevirtual 167, 3) := by decide +kernel
theorem dX6_heatBehind_22 : decode cX6_heatBehind 22 = .ok (.istore_n 3, 1) := by decide +kernel
theorem dX6_heatBehind_23 : decode cX6_heatBehind 23 = .ok (.aload_n 0, 1) := by decide +kernel
theorem dX6_heatBehind_24 : decode cX6_heatBehind 24 = .ok (.getfield 16, 3) := by decide +kernel
theorem dX6_heatBehind_27 : decode cX6_heatBehind 27 = .ok (.aload_n 0, 1) := by decide +kernel
theorem dX6_heatBehind_28 : decode cX6_heatBehind 28 = .ok (.getfield 7, 3) := by decide +kernel
theorem dX6_heatBehind_31 : decode cX6_heatBehind 31 = .ok (.invokestatic 144, 3) := by decide +kernel
theorem dX6_heatBehind_34 : decode cX6_heatBehind 34 = .ok (.iload_n 3, 1) := by decide +kernel
theorem dX6_heatBehind_35 : decode cX6_heatBehind 35 = .ok (.ireturn, 1) := by decide +kernel
theorem dX6_boxFor_0 : decode cX6_boxFor 0 = .ok (.aload_n 0, 1) := by decide +kernel
theorem dX6_boxFor_1 : decode cX6_boxFor 1 = .ok (.iload_n 1, 1) := by decide +kernel
theorem dX6_boxFor_2 : decode cX6_boxFor 2 = .ok (.invokevirtual 173, 3) := by decide +kernel
theorem dX6_boxFor_5 : decode cX6_boxFor 5 = .ok (.ifCond .eq 10, 3) := by decide +kernel
theorem dX6_boxFor_8 : decode cX6_boxFor 8 = .ok (.iload_n 2, 1) := by decide +kernel
theorem dX6_boxFor_9 : decode cX6_boxFor 9 = .ok (.invokestatic 243, 3) := by decide +kernel
theorem dX6_boxFor_12 : decode cX6_boxFor 12 = .ok (.ifCond .ne 5, 3) := by decide +kernel
theorem dX6_boxFor_15 : decode cX6_boxFor 15 = .ok (.iconst (-1), 1) := by decide +kernel
theorem dX6_boxFor_16 : decode cX6_boxFor 16 = .ok (.ireturn, 1) := by decide +kernel
theorem dX6_boxFor_17 : decode cX6_boxFor 17 = .ok (.aload_n 0, 1) := by decide +kernel
theorem dX6_boxFor_18 : decode cX6_boxFor 18 = .ok (.iload_n 1, 1) := by decide +kernel
theorem dX6_boxFor_19 : decode cX6_boxFor 19 = .ok (.iload_n 2, 1) := by decide +kernel
theorem dX6_boxFor_20 : decode cX6_boxFor 20 = .ok (.invokevirtual 250, 3) := by decide +kernel
theorem dX6_boxFor_23 : decode cX6_boxFor 23 = .ok (.istore_n 3, 1) := by decide +kernel
theorem dX6_boxFor_24 : decode cX6_boxFor 24 = .ok (.bipush (-3), 2) := by decide +kernel
theorem dX6_boxFor_26 : decode cX6_boxFor 26 = .ok (.istore 4, 2) := by decide +kernel
theorem dX6_boxFor_28 : decode cX6_boxFor 28 = .ok (.iconst 0, 1) := by decide +kernel
theorem dX6_boxFor_29 : decode cX6_boxFor 29 = .ok (.istore 5, 2) := by decide +kernel
theorem dX6_boxFor_31 : decode cX6_boxFor 31 = .ok (.iload 5, 2) := by decide +kernel
theorem dX6_boxFor_33 : decode cX6_boxFor 33 = .ok (.bipush 8, 2) := by decide +kernel
theorem dX6_boxFor_35 : decode cX6_boxFor 35 = .ok (.if_icmp .ge 74, 3) := by decide +kernel
theorem dX6_boxFor_38 : decode cX6_boxFor 38 = .ok (.aload_n 0, 1) := by decide +kernel
theorem dX6_boxFor_39 : decode cX6_boxFor 39 = .ok (.getfield 7, 3) := by decide +kernel
theorem dX6_boxFor_42 : decode cX6_boxFor 42 = .ok (.bipush 23, 2) := by decide +kernel
theorem dX6_boxFor_44 : decode cX6_boxFor 44 = .ok (.iload 5, 2) := by decide +kernel
theorem dX6_boxFor_46 : decode cX6_boxFor 46 = .ok (.iadd, 1) := by decide +kernel
theorem dX6_boxFor_47 : decode cX6_boxFor 47 = .ok (.iaload, 1) := by decide +kernel
theorem dX6_boxFor_48 : decode cX6_boxFor 48 = .ok (.ifCond .ne 55, 3) := by decide +kernel
theorem dX6_boxFor_51 : decode cX6_boxFor 51 = .ok (.aload_n 0, 1) := by decide +kernel
theorem dX6_boxFor_52 : decode cX6_boxFor 52 = .ok (.getfield 7, 3) := by decide +kernel
theorem dX6_boxFor_55 : decode cX6_boxFor 55 = .ok (.bipush 23, 2) := by decide +kernel
theorem dX6_boxFor_57 : decode cX6_boxFor 57 = .ok (.iload 5, 2) := by decide +kernel
theorem dX6_boxFor_59 : decode cX6_boxFor 59 = .ok (.iadd, 1) := by decide +kernel
theorem dX6_boxFor_60 : decode cX6_boxFor 60 = .ok (.iconst 1, 1) := by decide +kernel
theorem dX6_boxFor_61 : decode cX6_boxFor 61 = .ok (.iastore, 1) := by decide +kernel
theorem dX6_boxFor_62 : decode cX6_boxFor 62 = .ok (.aload_n 0, 1) := by decide +kernel
theorem dX6_boxFor_63 : decode cX6_boxFor 63 = .ok (.iload_n 1, 1) := by decide +kernel
theorem dX6_boxFor_64 : decode cX6_boxFor 64 = .ok (.iload_n 2, 1) := by decide +kernel
theorem dX6_boxFor_65 : decode cX6_boxFor 65 = .ok (.invokevirtual 250, 3) := by decide +kernel
theorem dX6_boxFor_68 : decode cX6_boxFor 68 = .ok (.istore 6, 2) := by decide +kernel
theorem dX6_boxFor_70 : decode cX6_boxFor 70 = .ok (.aload_n 0, 1) := by decide +kernel
theorem dX6_boxFor_71 : decode cX6_boxFor 71 = .ok (.getfield 7, 3) := by decide +kernel
theorem dX6_boxFor_74 : decode cX6_boxFor 74 = .ok (.bipush 23, 2) := by decide +kernel
theorem dX6_boxFor_76 : decode cX6_boxFor 76 = .ok (.iload 5, 2) := by decide +kernel
theorem dX6_boxFor_78 : decode cX6_boxFor 78 = .ok (.iadd, 1) := by decide +kernel
theorem dX6_boxFor_79 : decode cX6_boxFor 79 = .ok (.iconst 0, 1) := by decide +kernel
theorem dX6_boxFor_80 : decode cX6_boxFor 80 = .ok (.iastore, 1) := by decide +kernel
theorem dX6_boxFor_81 : decode cX6_boxFor 81 = .ok (.iload 6, 2) := by decide +kernel
theorem dX6_boxFor_83 : decode cX6_boxFor 83 = .ok (.iload_n 3, 1) := by decide +kernel
theorem dX6_boxFor_84 : decode cX6_boxFor 84 = .ok (.if_icmp .le 8, 3) := by decide +kernel
theorem dX6_boxFor_87 : decode cX6_boxFor 87 = .ok (.iload 5, 2) := by decide +kernel
theorem dX6_boxFor_89 : decode cX6_boxFor 89 = .ok (.goto 5, 3) := by decide +kernel
theorem dX6_boxFor_92 : decode cX6_boxFor 92 = .ok (.iload 4, 2) := by decide +kernel
theorem dX6_boxFor_94 : decode cX6_boxFor 94 = .ok (.istore 4, 2) := by decide +kernel
theorem dX6_boxFor_96 : decode cX6_boxFor 96 = .ok (.iload_n 3, 1) := by decide +kernel
theorem dX6_boxFor_97 : decode cX6_boxFor 97 = .ok (.iload 6, 2) := by decide +kernel
theorem dX6_boxFor_99 : decode cX6_boxFor 99 = .ok (.invokestatic 240, 3) := by decide +kernel
theorem dX6_boxFor_102 : decode cX6_boxFor 102 = .ok (.istore_n 3, 1) := by decide +kernel
theorem dX6_boxFor_103 : decode cX6_boxFor 103 = .ok (.iinc 5 1, 3) := by decide +kernel
theorem dX6_boxFor_106 : decode cX6_boxFor 106 = .ok (.goto (-75), 3) := by decide +kernel
theorem dX6_boxFor_109 : decode cX6_boxFor 109 = .ok (.iload 4, 2) := by decide +kernel
theorem dX6_boxFor_111 : decode cX6_boxFor 111 = .ok (.ireturn, 1) := by decide +kernel
theorem dX6_heatFor_0 : decode cX6_heatFor 0 = .ok (.aload_n 0, 1) := by decide +kernel
theorem dX6_heatFor_1 : decode cX6_heatFor 1 = .ok (.iload_n 1, 1) := by decide +kernel
theorem dX6_heatFor_2 : decode cX6_heatFor 2 = .ok (.invokevirtual 173, 3) := by decide +kernel
theorem dX6_heatFor_5 : decode cX6_heatFor 5 = .ok (.ifCond .eq 22, 3) := by decide +kernel
theorem dX6_heatFor_8 : decode cX6_heatFor 8 = .ok (.iload_n 2, 1) := by decide +kernel
theorem dX6_heatFor_9 : decode cX6_heatFor 9 = .ok (.invokestatic 164, 3) := by decide +kernel
theorem dX6_heatFor_12 : decode cX6_heatFor 12 = .ok (.ifCond .eq 15, 3) := by decide +kernel
theorem dX6_heatFor_15 : decode cX6_heatFor 15 = .ok (.iload_n 3, 1) := by decide +kernel
theorem dX6_heatFor_16 : decode cX6_heatFor 16 = .ok (.i2l, 1) := by decide +kernel
theorem dX6_heatFor_17 : decode cX6_heatFor 17 = .ok (.lconst 0, 1) := by decide +kernel
theorem dX6_heatFor_18 : decode cX6_heatFor 18 = .ok (.ldc2_w 216, 3) := by decide +kernel
theorem dX6_heatFor_21 : decode cX6_heatFor 21 = .ok (.invokestatic 54, 3) := by decide +kernel
theorem dX6_heatFor_24 : decode cX6_heatFor 24 = .ok (.ifCond .ne 5, 3) := by decide +kernel
theorem dX6_heatFor_27 : decode cX6_heatFor 27 = .ok (.iconst (-1), 1) := by decide +kernel
theorem dX6_heatFor_28 : decode cX6_heatFor 28 = .ok (.ireturn, 1) := by decide +kernel
theorem dX6_heatFor_29 : decode cX6_heatFor 29 = .ok (.bipush 31, 2) := by decide +kernel
theorem dX6_heatFor_31 : decode cX6_heatFor 31 = .ok (.iconst 4, 1) := by decide +kernel
theorem dX6_heatFor_32 : decode cX6_heatFor 32 = .ok (.iload_n 1, 1) := by decide +kernel
theorem dX6_heatFor_33 : decode cX6_heatFor 33 = .ok (.imul, 1) := by decide +kernel
theorem dX6_heatFor_34 : decode cX6_heatFor 34 = .ok (.iadd, 1) := by decide +kernel
theorem dX6_heatFor_35 : decode cX6_heatFor 35 = .ok (.iconst 1, 1) := by decide +kernel
theorem dX6_heatFor_36 : decode cX6_heatFor 36 = .ok (.iadd, 1) := by decide +kernel
theorem dX6_heatFor_37 : decode cX6_heatFor 37 = .ok (.istore 4, 2) := by decide +kernel
theorem dX6_heatFor_39 : decode cX6_heatFor 39 = .ok (.aload_n 0, 1) := by decide +kernel
theorem dX6_heatFor_40 : decode cX6_heatFor 40 = .ok (.getfield 7, 3) := by decide +kernel
theorem dX6_heatFor_43 : decode cX6_heatFor 43 = .ok (.iload 4, 2) := by decide +kernel
theorem dX6_heatFor_45 : decode cX6_heatFor 45 = .ok (.iaload, 1) := by decide +kernel
theorem dX6_heatFor_46 : decode cX6_heatFor 46 = .ok (.istore 5, 2) := by decide +kernel
theorem dX6_heatFor_48 : decode cX6_heatFor 48 = .ok (.bipush (-3), 2) := by decide +kernel
theorem dX6_heatFor_50 : decode cX6_heatFor 50 = .ok (.istore 6, 2) := by decide +kernel
theorem dX6_heatFor_52 : decode cX6_heatFor 52 = .ok (.iconst 0, 1) := by decide +kernel
theorem dX6_heatFor_53 : decode cX6_heatFor 53 = .ok (.istore 7, 2) := by decide +kernel
theorem dX6_heatFor_55 : decode cX6_heatFor 55 = .ok (.iload 7, 2) := by decide +kernel
theorem dX6_heatFor_57 : decode cX6_heatFor 57 = .ok (.bipush 99, 2) := by decide +kernel
theorem dX6_heatFor_59 : decode cX6_heatFor 59 = .ok (.if_icmp .gt 45, 3) := by decide +kernel
theorem dX6_heatFor_62 : decode cX6_heatFor 62 = .ok (.iload 6, 2) := by decide +kernel
theorem dX6_heatFor_64 : decode cX6_heatFor 64 = .ok (.ifCond .ge 40, 3) := by decide +kernel
theorem dX6_heatFor_67 : decode cX6_heatFor 67 = .ok (.aload_n 0, 1) := by decide +kernel
theorem dX6_heatFor_68 : decode cX6_heatFor 68 = .ok (.getfield 7, 3) := by decide +kernel
theorem dX6_heatFor_71 : decode cX6_heatFor 71 = .ok (.iload 4, 2) := by decide +kernel
theorem dX6_heatFor_73 : decode cX6_heatFor 73 = .ok (.iload 7, 2) := by decide +kernel
theorem dX6_heatFor_75 : decode cX6_heatFor 75 = .ok (.iastore, 1) := by decide +kernel
theorem dX6_heatFor_76 : decode cX6_heatFor 76 = .ok (.aload_n 0, 1) := by decide +kernel
theorem dX6_heatFor_77 : decode cX6_heatFor 77 = .ok (.iload_n 1, 1) := by decide +kernel
theorem dX6_heatFor_78 : decode cX6_heatFor 78 = .ok (.iconst 1, 1) := by decide +kernel
theorem dX6_heatFor_79 : decode cX6_heatFor 79 = .ok (.iload_n 2, 1) := by decide +kernel
theorem dX6_heatFor_80 : decode cX6_heatFor 80 = .ok (.ishl, 1) := by decide +kernel
theorem dX6_heatFor_81 : decode cX6_heatFor 81 = .ok (.iload_n 3, 1) := by decide +kernel
theorem dX6_heatFor_82 : decode cX6_heatFor 82 = .ok (.invokevirtual 233, 3) := by decide +kernel
theorem dX6_heatFor_85 : decode cX6_heatFor 85 = .ok (.iload_n 3, 1) := by decide +kernel
theorem dX6_heatFor_86 : decode cX6_heatFor 86 = .ok (.if_icmp .gt 8, 3) := by decide +kernel
theorem dX6_heatFor_89 : decode cX6_heatFor 89 = .ok (.iload 7, 2) := by decide +kernel
theorem dX6_heatFor_91 : decode cX6_heatFor 91 = .ok (.goto 5, 3) := by decide +kernel
theorem dX6_heatFor_94 : decode cX6_heatFor 94 = .ok (.bipush (-3), 2) := by decide +kernel
theorem dX6_heatFor_96 : decode cX6_heatFor 96 = .ok (.istore 6, 2) := by decide +kernel
theorem dX6_heatFor_98 : decode cX6_heatFor 98 = .ok (.iinc 7 1, 3) := by decide +kernel
theorem dX6_heatFor_101 : decode cX6_heatFor 101 = .ok (.goto (-46), 3) := by decide +kernel
theorem dX6_heatFor_104 : decode cX6_heatFor 104 = .ok (.aload_n 0, 1) := by decide +kernel
theorem dX6_heatFor_105 : decode cX6_heatFor 105 = .ok (.getfield 7, 3) := by decide +kernel
theorem dX6_heatFor_108 : decode cX6_heatFor 108 = .ok (.iload 4, 2) := by decide +kernel
theorem dX6_heatFor_110 : decode cX6_heatFor 110 = .ok (.iload 5, 2) := by decide +kernel
theorem dX6_heatFor_112 : decode cX6_heatFor 112 = .ok (.iastore, 1) := by decide +kernel
theorem dX6_heatFor_113 : decode cX6_heatFor 113 = .ok (.iload 6, 2) := by decide +kernel
theorem dX6_heatFor_115 : decode cX6_heatFor 115 = .ok (.ireturn, 1) := by decide +kernel
theorem dX6_keptFor_0 : decode cX6_keptFor 0 = .ok (.aload_n 0, 1) := by decide +kernel
theorem dX6_keptFor_1 : decode cX6_keptFor 1 = .ok (.iload_n 1, 1) := by decide +kernel
theorem dX6_keptFor_2 : decode cX6_keptFor 2 = .ok (.invokevirtual 173, 3) := by decide +kernel
theorem dX6_keptFor_5 : decode cX6_keptFor 5 = .ok (.ifCond .eq 27, 3) := by decide +kernel
theorem dX6_keptFor_8 : decode cX6_keptFor 8 = .ok (.iload_n 2, 1) := by decide +kernel
theorem dX6_keptFor_9 : decode cX6_keptFor 9 = .ok (.i2l, 1) := by decide +kernel
theorem dX6_keptFor_10 : decode cX6_keptFor 10 = .ok (.lconst 1, 1) := by decide +kernel
theorem dX6_keptFor_11 : decode cX6_keptFor 11 = .ok (.ldc2_w 253, 3) := by decide +kernel
theorem dX6_keptFor_14 : decode cX6_keptFor 14 = .ok (.invokestatic 54, 3) := by decide +kernel
theorem dX6_keptFor_17 : decode cX6_keptFor 17 = .ok (.ifCond .eq 15, 3) := by decide +kernel
theorem dX6_keptFor_20 : decode cX6_keptFor 20 = .ok (.iload_n 3, 1) := by decide +kernel
theorem dX6_keptFor_21 : decode cX6_keptFor 21 = .ok (.i2l, 1) := by decide +kernel
theorem dX6_keptFor_22 : decode cX6_keptFor 22 = .ok (.lconst 0, 1) := by decide +kernel
theorem dX6_keptFor_23 : decode cX6_keptFor 23 = .ok (.ldc2_w 162, 3) := by decide +kernel
theorem dX6_keptFor_26 : decode cX6_keptFor 26 = .ok (.invokestatic 54, 3) := by decide +kernel
theorem dX6_keptFor_29 : decode cX6_keptFor 29 = .ok (.ifCond .ne 5, 3) := by decide +kernel
theorem dX6_keptFor_32 : decode cX6_keptFor 32 = .ok (.iconst (-1), 1) := by decide +kernel
theorem dX6_keptFor_33 : decode cX6_keptFor 33 = .ok (.ireturn, 1) := by decide +kernel
theorem dX6_keptFor_34 : decode cX6_keptFor 34 = .ok (.aload_n 0, 1) := by decide +kernel
theorem dX6_keptFor_35 : decode cX6_keptFor 35 = .ok (.invokevirtual 227, 3) := by decide +kernel
theorem dX6_keptFor_38 : decode cX6_keptFor 38 = .ok (.istore 4, 2) := by decide +kernel
theorem dX6_keptFor_40 : decode cX6_keptFor 40 = .ok (.bipush (-3), 2) := by decide +kernel
theorem dX6_keptFor_42 : decode cX6_keptFor 42 = .ok (.istore 5, 2) := by decide +kernel
theorem dX6_keptFor_44 : decode cX6_keptFor 44 = .ok (.iconst 0, 1) := by decide +kernel
theorem dX6_keptFor_45 : decode cX6_keptFor 45 = .ok (.istore 6, 2) := by decide +kernel
theorem dX6_keptFor_47 : decode cX6_keptFor 47 = .ok (.iload 6, 2) := by decide +kernel
theorem dX6_keptFor_49 : decode cX6_keptFor 49 = .ok (.sipush 255, 3) := by decide +kernel
theorem dX6_keptFor_52 : decode cX6_keptFor 52 = .ok (.if_icmp .gt 52, 3) := by decide +kernel
theorem dX6_keptFor_55 : decode cX6_keptFor 55 = .ok (.iload 5, 2) := by decide +kernel
theorem dX6_keptFor_57 : decode cX6_keptFor 57 = .ok (.ifCond .lt 16, 3) := by decide +kernel
theorem dX6_keptFor_60 : decode cX6_keptFor 60 = .ok (.iload 6, 2) := by decide +kernel
theorem dX6_keptFor_62 : decode cX6_keptFor 62 = .ok (.invokestatic 170, 3) := by decide +kernel
theorem dX6_keptFor_65 : decode cX6_keptFor 65 = .ok (.iload 5, 2) := by decide +kernel
theorem dX6_keptFor_67 : decode cX6_keptFor 67 = .ok (.invokestatic 170, 3) := by decide +kernel
theorem dX6_keptFor_70 : decode cX6_keptFor 70 = .ok (.if_icmp .ge 28, 3) := by decide +kernel
theorem dX6_keptFor_73 : decode cX6_keptFor 73 = .ok (.aload_n 0, 1) := by decide +kernel
theorem dX6_keptFor_74 : decode cX6_keptFor 74 = .ok (.iload 6, 2) := by decide +kernel
theorem dX6_keptFor_76 : decode cX6_keptFor 76 = .ok (.invokevirtual 255, 3) := by decide +kernel
theorem dX6_keptFor_79 : decode cX6_keptFor 79 = .ok (.aload_n 0, 1) := by decide +kernel
theorem dX6_keptFor_80 : decode cX6_keptFor 80 = .ok (.iload_n 1, 1) := by decide +kernel
theorem dX6_keptFor_81 : decode cX6_keptFor 81 = .ok (.iload_n 2, 1) := by decide +kernel
theorem dX6_keptFor_82 : decode cX6_keptFor 82 = .ok (.invokevirtual 250, 3) := by decide +kernel
theorem dX6_keptFor_85 : decode cX6_keptFor 85 = .ok (.iload_n 3, 1) := by decide +kernel
theorem dX6_keptFor_86 : decode cX6_keptFor 86 = .ok (.if_icmp .lt 8, 3) := by decide +kernel
theorem dX6_keptFor_89 : decode cX6_keptFor 89 = .ok (.iload 6, 2) := by decide +kernel
theorem dX6_keptFor_91 : decode cX6_keptFor 91 = .ok (.goto 5, 3) := by decide +kernel
theorem dX6_keptFor_94 : decode cX6_keptFor 94 = .ok (.iload 5, 2) := by decide +kernel
theorem dX6_keptFor_96 : decode cX6_keptFor 96 = .ok (.istore 5, 2) := by decide +kernel
theorem dX6_keptFor_98 : decode cX6_keptFor 98 = .ok (.iinc 6 1, 3) := by decide +kernel
theorem dX6_keptFor_101 : decode cX6_keptFor 101 = .ok (.goto (-54), 3) := by decide +kernel
theorem dX6_keptFor_104 : decode cX6_keptFor 104 = .ok (.aload_n 0, 1) := by decide +kernel
theorem dX6_keptFor_105 : decode cX6_keptFor 105 = .ok (.iload 4, 2) := by decide +kernel
theorem dX6_keptFor_107 : decode cX6_keptFor 107 = .ok (.invokevirtual 255, 3) := by decide +kernel
theorem dX6_keptFor_110 : decode cX6_keptFor 110 = .ok (.iload 5, 2) := by decide +kernel
theorem dX6_keptFor_112 : decode cX6_keptFor 112 = .ok (.ireturn, 1) := by decide +kernel
theorem dX6_laysBoxes_0 : decode cX6_laysBoxes 0 = .ok (.iconst 0, 1) := by decide +kernel
theorem dX6_laysBoxes_1 : decode cX6_laysBoxes 1 = .ok (.istore_n 2, 1) := by decide +kernel
theorem dX6_laysBoxes_2 : decode cX6_laysBoxes 2 = .ok (.iload_n 2, 1) := by decide +kernel
theorem dX6_laysBoxes_3 : decode cX6_laysBoxes 3 = .ok (.bipush 8, 2) := by decide +kernel
theorem dX6_laysBoxes_5 : decode cX6_laysBoxes 5 = .ok (.if_icmp .ge 23, 3) := by decide +kernel
theorem dX6_laysBoxes_8 : decode cX6_laysBoxes 8 = .ok (.aload_n 0, 1) := by decide +kernel
theorem dX6_laysBoxes_9 : decode cX6_laysBoxes 9 = .ok (.getfield 7, 3) := by decide +kernel
theorem dX6_laysBoxes_12 : decode cX6_laysBoxes 12 = .ok (.bipush 23, 2) := by decide +kernel
theorem dX6_laysBoxes_14 : decode cX6_laysBoxes 14 = .ok (.iload_n 2, 1) := by decide +kernel
theorem dX6_laysBoxes_15 : decode cX6_laysBoxes 15 = .ok (.iadd, 1) := by decide +kernel
theorem dX6_laysBoxes_16 : decode cX6_laysBoxes 16 = .ok (.iload_n 1, 1) := by decide +kernel
theorem dX6_laysBoxes_17 : decode cX6_laysBoxes 17 = .ok (.iload_n 2, 1) := by decide +kernel
theorem dX6_laysBoxes_18 : decode cX6_laysBoxes 18 = .ok (.ishr, 1) := by decide +kernel
theorem dX6_laysBoxes_19 : decode cX6_laysBoxes 19 = .ok (.iconst 1, 1) := by decide +kernel
theorem dX6_laysBoxes_20 : decode cX6_laysBoxes 20 = .ok (.iand, 1) := by decide +kernel
theorem dX6_laysBoxes_21 : decode cX6_laysBoxes 21 = .ok (.iastore, 1) := by decide +kernel
theorem dX6_laysBoxes_22 : decode cX6_laysBoxes 22 = .ok (.iinc 2 1, 3) := by decide +kernel
theorem dX6_laysBoxes_25 : decode cX6_laysBoxes 25 = .ok (.goto (-23), 3) := by decide +kernel
theorem dX6_laysBoxes_28 : decode cX6_laysBoxes 28 = .ok (.return_, 1) := by decide +kernel
theorem dX6_product_0 : decode cX6_product 0 = .ok (.lconst 1, 1) := by decide +kernel
theorem dX6_product_1 : decode cX6_product 1 = .ok (.lstore_n 1, 1) := by decide +kernel
theorem dX6_product_2 : decode cX6_product 2 = .ok (.iconst 2, 1) := by decide +kernel
theorem dX6_product_3 : decode cX6_product 3 = .ok (.istore_n 3, 1) := by decide +kernel
theorem dX6_product_4 : decode cX6_product 4 = .ok (.iload_n 3, 1) := by decide +kernel
theorem dX6_product_5 : decode cX6_product 5 = .ok (.iload_n 0, 1) := by decide +kernel
theorem dX6_product_6 : decode cX6_product 6 = .ok (.if_icmp .gt 14, 3) := by decide +kernel
theorem dX6_product_9 : decode cX6_product 9 = .ok (.lload_n 1, 1) := by decide +kernel
theorem dX6_product_10 : decode cX6_product 10 = .ok (.iload_n 3, 1) := by decide +kernel
theorem dX6_product_11 : decode cX6_product 11 = .ok (.i2l, 1) := by decide +kernel
theorem dX6_product_12 : decode cX6_product 12 = .ok (.lmul, 1) := by decide +kernel
theorem dX6_product_13 : decode cX6_product 13 = .ok (.lstore_n 1, 1) := by decide +kernel
theorem dX6_product_14 : decode cX6_product 14 = .ok (.iinc 3 1, 3) := by decide +kernel
theorem dX6_product_17 : decode cX6_product 17 = .ok (.goto (-13), 3) := by decide +kernel
theorem dX6_product_20 : decode cX6_product 20 = .ok (.lload_n 1, 1) := by decide +kernel
theorem dX6_product_21 : decode cX6_product 21 = .ok (.lreturn, 1) := by decide +kernel
theorem dX6_partOf_0 : decode cX6_partOf 0 = .ok (.lload_n 2, 1) := by decide +kernel
theorem dX6_partOf_1 : decode cX6_partOf 1 = .ok (.lstore 5, 2) := by decide +kernel
theorem dX6_partOf_3 : decode cX6_partOf 3 = .ok (.lload_n 0, 1) := by decide +kernel
theorem dX6_partOf_4 : decode cX6_partOf 4 = .ok (.lstore 7, 2) := by decide +kernel
theorem dX6_partOf_6 : decode cX6_partOf 6 = .ok (.lload 7, 2) := by decide +kernel
theorem dX6_partOf_8 : decode cX6_partOf 8 = .ok (.lconst 0, 1) := by decide +kernel
theorem dX6_partOf_9 : decode cX6_partOf 9 = .ok (.lcmp, 1) := by decide +kernel
theorem dX6_partOf_10 : decode cX6_partOf 10 = .ok (.ifCond .eq 21, 3) := by decide +kernel
theorem dX6_partOf_13 : decode cX6_partOf 13 = .ok (.lload 5, 2) := by decide +kernel
theorem dX6_partOf_15 : decode cX6_partOf 15 = .ok (.lload 7, 2) := by decide +kernel
theorem dX6_partOf_17 : decode cX6_partOf 17 = .ok (.lrem, 1) := by decide +kernel
theorem dX6_partOf_18 : decode cX6_partOf 18 = .ok (.lstore 9, 2) := by decide +kernel
theorem dX6_partOf_20 : decode cX6_partOf 20 = .ok (.lload 7, 2) := by decide +kernel
theorem dX6_partOf_22 : decode cX6_partOf 22 = .ok (.lstore 5, 2) := by decide +kernel
theorem dX6_partOf_24 : decode cX6_partOf 24 = .ok (.lload 9, 2) := by decide +kernel
theorem dX6_partOf_26 : decode cX6_partOf 26 = .ok (.lstore 7, 2) := by decide +kernel
theorem dX6_partOf_28 : decode cX6_partOf 28 = .ok (.goto (-22), 3) := by decide +kernel
theorem dX6_partOf_31 : decode cX6_partOf 31 = .ok (.iload 4, 2) := by decide +kernel
theorem dX6_partOf_33 : decode cX6_partOf 33 = .ok (.ifCond .ne 10, 3) := by decide +kernel
theorem dX6_partOf_36 : decode cX6_partOf 36 = .ok (.lload_n 0, 1) := by decide +kernel
theorem dX6_partOf_37 : decode cX6_partOf 37 = .ok (.lload 5, 2) := by decide +kernel
theorem dX6_partOf_39 : decode cX6_partOf 39 = .ok (.ldiv, 1) := by decide +kernel
theorem dX6_partOf_40 : decode cX6_partOf 40 = .ok (.goto 7, 3) := by decide +kernel
theorem dX6_partOf_43 : decode cX6_partOf 43 = .ok (.lload_n 2, 1) := by decide +kernel
theorem dX6_partOf_44 : decode cX6_partOf 44 = .ok (.lload 5, 2) := by decide +kernel
theorem dX6_partOf_46 : decode cX6_partOf 46 = .ok (.ldiv, 1) := by decide +kernel
theorem dX6_partOf_47 : decode cX6_partOf 47 = .ok (.lreturn, 1) := by decide +kernel
theorem dX6_isTold_0 : decode cX6_isTold 0 = .ok (.aload_n 0, 1) := by decide +kernel
theorem dX6_isTold_1 : decode cX6_isTold 1 = .ok (.getfield 7, 3) := by decide +kernel
theorem dX6_isTold_4 : decode cX6_isTold 4 = .ok (.aload_n 0, 1) := by decide +kernel
theorem dX6_isTold_5 : decode cX6_isTold 5 = .ok (.getfield 16, 3) := by decide +kernel
theorem dX6_isTold_8 : decode cX6_isTold 8 = .ok (.invokestatic 144, 3) := by decide +kernel
theorem dX6_isTold_11 : decode cX6_isTold 11 = .ok (.iconst 1, 1) := by decide +kernel
theorem dX6_isTold_12 : decode cX6_isTold 12 = .ok (.istore_n 3, 1) := by decide +kernel
theorem dX6_isTold_13 : decode cX6_isTold 13 = .ok (.iconst 0, 1) := by decide +kernel
theorem dX6_isTold_14 : decode cX6_isTold 14 = .ok (.istore 4, 2) := by decide +kernel
theorem dX6_isTold_16 : decode cX6_isTold 16 = .ok (.iload 4, 2) := by decide +kernel
theorem dX6_isTold_18 : decode cX6_isTold 18 = .ok (.aload_n 0, 1) := by decide +kernel
theorem dX6_isTold_19 : decode cX6_isTold 19 = .ok (.getfield 31, 3) := by decide +kernel
theorem dX6_isTold_22 : decode cX6_isTold 22 = .ok (.iload_n 1, 1) := by decide +kernel
theorem dX6_isTold_23 : decode cX6_isTold 23 = .ok (.iaload, 1) := by decide +kernel
theorem dX6_isTold_24 : decode cX6_isTold 24 = .ok (.if_icmp .ge 60, 3) := by decide +kernel
theorem dX6_isTold_27 : decode cX6_isTold 27 = .ok (.iload_n 3, 1) := by decide +kernel
theorem dX6_isTold_28 : decode cX6_isTold 28 = .ok (.ifCond .eq 56, 3) := by decide +kernel
theorem dX6_isTold_31 : decode cX6_isTold 31 = .ok (.aload_n 0, 1) := by decide +kernel
theorem dX6_isTold_32 : decode cX6_isTold 32 = .ok (.invokevirtual 201, 3) := by decide +kernel
theorem dX6_isTold_35 : decode cX6_isTold 35 = .ok (.aload_n 0, 1) := by decide +kernel
theorem dX6_isTold_36 : decode cX6_isTold 36 = .ok (.getfield 34, 3) := by decide +kernel
theorem dX6_isTold_39 : decode cX6_isTold 39 = .ok (.bipush 40, 2) := by decide +kernel
theorem dX6_isTold_41 : decode cX6_isTold 41 = .ok (.iload_n 1, 1) := by decide +kernel
theorem dX6_isTold_42 : decode cX6_isTold 42 = .ok (.imul, 1) := by decide +kernel
theorem dX6_isTold_43 : decode cX6_isTold 43 = .ok (.iload 4, 2) := by decide +kernel
theorem dX6_isTold_45 : decode cX6_isTold 45 = .ok (.iadd, 1) := by decide +kernel
theorem dX6_isTold_46 : decode cX6_isTold 46 = .ok (.iaload, 1) := by decide +kernel
theorem dX6_isTold_47 : decode cX6_isTold 47 = .ok (.iconst (-1), 1) := by decide +kernel
theorem dX6_isTold_48 : decode cX6_isTold 48 = .ok (.if_icmp .eq 24, 3) := by decide +kernel
theorem dX6_isTold_51 : decode cX6_isTold 51 = .ok (.aload_n 0, 1) := by decide +kernel
theorem dX6_isTold_52 : decode cX6_isTold 52 = .ok (.getfield 34, 3) := by decide +kernel
theorem dX6_isTold_55 : decode cX6_isTold 55 = .ok (.bipush 40, 2) := by decide +kernel
theorem dX6_isTold_57 : decode cX6_isTold 57 = .ok (.iload_n 1, 1) := by decide +kernel
theorem dX6_isTold_58 : decode cX6_isTold 58 = .ok (.imul, 1) := by decide +kernel
theorem dX6_isTold_59 : decode cX6_isTold 59 = .ok (.iload 4, 2) := by decide +kernel
theorem dX6_isTold_61 : decode cX6_isTold 61 = .ok (.iadd, 1) := by decide +kernel
theorem dX6_isTold_62 : decode cX6_isTold 62 = .ok (.iaload, 1) := by decide +kernel
theorem dX6_isTold_63 : decode cX6_isTold 63 = .ok (.aload_n 0, 1) := by decide +kernel
theorem dX6_isTold_64 : decode cX6_isTold 64 = .ok (.iload_n 2, 1) := by decide +kernel
theorem dX6_isTold_65 : decode cX6_isTold 65 = .ok (.iconst 2, 1) := by decide +kernel
theorem dX6_isTold_66 : decode cX6_isTold 66 = .ok (.invokevirtual 167, 3) := by decide +kernel
theorem dX6_isTold_69 : decode cX6_isTold 69 = .ok (.if_icmp .ne 7, 3) := by decide +kernel
theorem dX6_isTold_72 : decode cX6_isTold 72 = .ok (.iconst 1, 1) := by decide +kernel
theorem dX6_isTold_73 : decode cX6_isTold 73 = .ok (.goto 4, 3) := by decide +kernel
theorem dX6_isTold_76 : decode cX6_isTold 76 = .ok (.iconst 0, 1) := by decide +kernel
theorem dX6_isTold_77 : decode cX6_isTold 77 = .ok (.istore_n 3, 1) := by decide +kernel
theorem dX6_isTold_78 : decode cX6_isTold 78 = .ok (.iinc 4 1, 3) := by decide +kernel
theorem dX6_isTold_81 : decode cX6_isTold 81 = .ok (.goto (-65), 3) := by decide +kernel
theorem dX6_isTold_84 : decode cX6_isTold 84 = .ok (.aload_n 0, 1) := by decide +kernel
theorem dX6_isTold_85 : decode cX6_isTold 85 = .ok (.getfield 16, 3) := by decide +kernel
theorem dX6_isTold_88 : decode cX6_isTold 88 = .ok (.aload_n 0, 1) := by decide +kernel
theorem dX6_isTold_89 : decode cX6_isTold 89 = .ok (.getfield 7, 3) := by decide +kernel
theorem dX6_isTold_92 : decode cX6_isTold 92 = .ok (.invokestatic 144, 3) := by decide +kernel
theorem dX6_isTold_95 : decode cX6_isTold 95 = .ok (.iload_n 3, 1) := by decide +kernel
theorem dX6_isTold_96 : decode cX6_isTold 96 = .ok (.ireturn, 1) := by decide +kernel
theorem dX6_fits_0 : decode cX6_fits 0 = .ok (.iload_n 1, 1) := by decide +kernel
theorem dX6_fits_1 : decode cX6_fits 1 = .ok (.invokestatic 258, 3) := by decide +kernel
theorem dX6_fits_4 : decode cX6_fits 4 = .ok (.ifCond .eq 21, 3) := by decide +kernel
theorem dX6_fits_7 : decode cX6_fits 7 = .ok (.aload_n 0, 1) := by decide +kernel
theorem dX6_fits_8 : decode cX6_fits 8 = .ok (.iload_n 2, 1) := by decide +kernel
theorem dX6_fits_9 : decode cX6_fits 9 = .ok (.invokevirtual 173, 3) := by decide +kernel
theorem dX6_fits_12 : decode cX6_fits 12 = .ok (.ifCond .eq 13, 3) := by decide +kernel
theorem dX6_fits_15 : decode cX6_fits 15 = .ok (.iload_n 3, 1) := by decide +kernel
theorem dX6_fits_16 : decode cX6_fits 16 = .ok (.i2l, 1) := by decide +kernel
theorem dX6_fits_17 : decode cX6_fits 17 = .ok (.lconst 0, 1) := by decide +kernel
theorem dX6_fits_18 : decode cX6_fits 18 = .ok (.lconst 1, 1) := by decide +kernel
theorem dX6_fits_19 : decode cX6_fits 19 = .ok (.invokestatic 54, 3) := by decide +kernel
theorem dX6_fits_22 : decode cX6_fits 22 = .ok (.ifCond .ne 5, 3) := by decide +kernel
theorem dX6_fits_25 : decode cX6_fits 25 = .ok (.iconst (-1), 1) := by decide +kernel
theorem dX6_fits_26 : decode cX6_fits 26 = .ok (.ireturn, 1) := by decide +kernel
theorem dX6_fits_27 : decode cX6_fits 27 = .ok (.aload_n 0, 1) := by decide +kernel
theorem dX6_fits_28 : decode cX6_fits 28 = .ok (.getfield 28, 3) := by decide +kernel
theorem dX6_fits_31 : decode cX6_fits 31 = .ok (.iload_n 1, 1) := by decide +kernel
theorem dX6_fits_32 : decode cX6_fits 32 = .ok (.iaload, 1) := by decide +kernel
theorem dX6_fits_33 : decode cX6_fits 33 = .ok (.ifCond .ge 6, 3) := by decide +kernel
theorem dX6_fits_36 : decode cX6_fits 36 = .ok (.bipush (-11), 2) := by decide +kernel
theorem dX6_fits_38 : decode cX6_fits 38 = .ok (.ireturn, 1) := by decide +kernel
theorem dX6_fits_39 : decode cX6_fits 39 = .ok (.bipush 31, 2) := by decide +kernel
theorem dX6_fits_41 : decode cX6_fits 41 = .ok (.iconst 4, 1) := by decide +kernel
theorem dX6_fits_42 : decode cX6_fits 42 = .ok (.iload_n 2, 1) := by decide +kernel
theorem dX6_fits_43 : decode cX6_fits 43 = .ok (.imul, 1) := by decide +kernel
theorem dX6_fits_44 : decode cX6_fits 44 = .ok (.iadd, 1) := by decide +kernel
theorem dX6_fits_45 : decode cX6_fits 45 = .ok (.iconst 1, 1) := by decide +kernel
theorem dX6_fits_46 : decode cX6_fits 46 = .ok (.iadd, 1) := by decide +kernel
theorem dX6_fits_47 : decode cX6_fits 47 = .ok (.istore 4, 2) := by decide +kernel
theorem dX6_fits_49 : decode cX6_fits 49 = .ok (.aload_n 0, 1) := by decide +kernel
theorem dX6_fits_50 : decode cX6_fits 50 = .ok (.getfield 7, 3) := by decide +kernel
theorem dX6_fits_53 : decode cX6_fits 53 = .ok (.iload 4, 2) := by decide +kernel
theorem dX6_fits_55 : decode cX6_fits 55 = .ok (.iaload, 1) := by decide +kernel
theorem dX6_fits_56 : decode cX6_fits 56 = .ok (.istore 5, 2) := by decide +kernel
theorem dX6_fits_58 : decode cX6_fits 58 = .ok (.iconst 0, 1) := by decide +kernel
theorem dX6_fits_59 : decode cX6_fits 59 = .ok (.istore 6, 2) := by decide +kernel
theorem dX6_fits_61 : decode cX6_fits 61 = .ok (.bipush (-3), 2) := by decide +kernel
theorem dX6_fits_63 : decode cX6_fits 63 = .ok (.istore 7, 2) := by decide +kernel
theorem dX6_fits_65 : decode cX6_fits 65 = .ok (.bipush 99, 2) := by decide +kernel
theorem dX6_fits_67 : decode cX6_fits 67 = .ok (.istore 8, 2) := by decide +kernel
theorem dX6_fits_69 : decode cX6_fits 69 = .ok (.iload 8, 2) := by decide +kernel
theorem dX6_fits_71 : decode cX6_fits 71 = .ok (.ifCond .lt 55, 3) := by decide +kernel
theorem dX6_fits_74 : decode cX6_fits 74 = .ok (.aload_n 0, 1) := by decide +kernel
theorem dX6_fits_75 : decode cX6_fits 75 = .ok (.getfield 7, 3) := by decide +kernel
theorem dX6_fits_78 : decode cX6_fits 78 = .ok (.iload 4, 2) := by decide +kernel
theorem dX6_fits_80 : decode cX6_fits 80 = .ok (.iload 8, 2) := by decide +kernel
theorem dX6_fits_82 : decode cX6_fits 82 = .ok (.iastore, 1) := by decide +kernel
theorem dX6_fits_83 : decode cX6_fits 83 = .ok (.aload_n 0, 1) := by decide +kernel
theorem dX6_fits_84 : decode cX6_fits 84 = .ok (.iload_n 1, 1) := by decide +kernel
theorem dX6_fits_85 : decode cX6_fits 85 = .ok (.iload_n 2, 1) := by decide +kernel
theorem dX6_fits_86 : decode cX6_fits 86 = .ok (.invokevirtual 261, 3) := by decide +kernel
theorem dX6_fits_89 : decode cX6_fits 89 = .ok (.istore 9, 2) := by decide +kernel
theorem dX6_fits_91 : decode cX6_fits 91 = .ok (.iload 6, 2) := by decide +kernel
theorem dX6_fits_93 : decode cX6_fits 93 = .ok (.iload 9, 2) := by decide +kernel
theorem dX6_fits_95 : decode cX6_fits 95 = .ok (.ifCond .eq 7, 3) := by decide +kernel
theorem dX6_fits_98 : decode cX6_fits 98 = .ok (.iconst 1, 1) := by decide +kernel
theorem dX6_fits_99 : decode cX6_fits 99 = .ok (.goto 4, 3) := by decide +kernel
theorem dX6_fits_102 : decode cX6_fits 102 = .ok (.iconst 0, 1) := by decide +kernel
theorem dX6_fits_103 : decode cX6_fits 103 = .ok (.iadd, 1) := by decide +kernel
theorem dX6_fits_104 : decode cX6_fits 104 = .ok (.istore 6, 2) := by decide +kernel
theorem dX6_fits_106 : decode cX6_fits 106 = .ok (.iload 9, 2) := by decide +kernel
theorem dX6_fits_108 : decode cX6_fits 108 = .ok (.ifCond .eq 8, 3) := by decide +kernel
theorem dX6_fits_111 : decode cX6_fits 111 = .ok (.iload 8, 2) := by decide +kernel
theorem dX6_fits_113 : decode cX6_fits 113 = .ok (.goto 5, 3) := by decide +kernel
theorem dX6_fits_116 : decode cX6_fits 116 = .ok (.iload 7, 2) := by decide +kernel
theorem dX6_fits_118 : decode cX6_fits 118 = .ok (.istore 7, 2) := by decide +kernel
theorem dX6_fits_120 : decode cX6_fits 120 = .ok (.iinc 8 (-1), 3) := by decide +kernel
theorem dX6_fits_123 : decode cX6_fits 123 = .ok (.goto (-54), 3) := by decide +kernel
theorem dX6_fits_126 : decode cX6_fits 126 = .ok (.aload_n 0, 1) := by decide +kernel
theorem dX6_fits_127 : decode cX6_fits 127 = .ok (.getfield 7, 3) := by decide +kernel
theorem dX6_fits_130 : decode cX6_fits 130 = .ok (.iload 4, 2) := by decide +kernel
theorem dX6_fits_132 : decode cX6_fits 132 = .ok (.iload 5, 2) := by decide +kernel
theorem dX6_fits_134 : decode cX6_fits 134 = .ok (.iastore, 1) := by decide +kernel
theorem dX6_fits_135 : decode cX6_fits 135 = .ok (.iload_n 3, 1) := by decide +kernel
theorem dX6_fits_136 : decode cX6_fits 136 = .ok (.ifCond .ne 8, 3) := by decide +kernel
theorem dX6_fits_139 : decode cX6_fits 139 = .ok (.iload 6, 2) := by decide +kernel
theorem dX6_fits_141 : decode cX6_fits 141 = .ok (.goto 5, 3) := by decide +kernel
theorem dX6_fits_144 : decode cX6_fits 144 = .ok (.iload 7, 2) := by decide +kernel
theorem dX6_fits_146 : decode cX6_fits 146 = .ok (.ireturn, 1) := by decide +kernel
theorem dX6_odds_0 : decode cX6_odds 0 = .ok (.iload_n 1, 1) := by decide +kernel
theorem dX6_odds_1 : decode cX6_odds 1 = .ok (.i2l, 1) := by decide +kernel
theorem dX6_odds_2 : decode cX6_odds 2 = .ok (.lconst 0, 1) := by decide +kernel
theorem dX6_odds_3 : decode cX6_odds 3 = .ok (.ldc2_w 52, 3) := by decide +kernel
theorem dX6_odds_6 : decode cX6_odds 6 = .ok (.invokestatic 54, 3) := by decide +kernel
theorem dX6_odds_9 : decode cX6_odds 9 = .ok (.ifCond .eq 24, 3) := by decide +kernel
theorem dX6_odds_12 : decode cX6_odds 12 = .ok (.iload_n 2, 1) := by decide +kernel
theorem dX6_odds_13 : decode cX6_odds 13 = .ok (.i2l, 1) := by decide +kernel
theorem dX6_odds_14 : decode cX6_odds 14 = .ok (.lconst 0, 1) := by decide +kernel
theorem dX6_odds_15 : decode cX6_odds 15 = .ok (.iload_n 1, 1) := by decide +kernel
theorem dX6_odds_16 : decode cX6_odds 16 = .ok (.i2l, 1) := by decide +kernel
theorem dX6_odds_17 : decode cX6_odds 17 = .ok (.invokestatic 54, 3) := by decide +kernel
theorem dX6_odds_20 : decode cX6_odds 20 = .ok (.ifCond .eq 13, 3) := by decide +kernel
theorem dX6_odds_23 : decode cX6_odds 23 = .ok (.iload_n 3, 1) := by decide +kernel
theorem dX6_odds_24 : decode cX6_odds 24 = .ok (.i2l, 1) := by decide +kernel
theorem dX6_odds_25 : decode cX6_odds 25 = .ok (.lconst 0, 1) := by decide +kernel
theorem dX6_odds_26 : decode cX6_odds 26 = .ok (.lconst 1, 1) := by decide +kernel
theorem dX6_odds_27 : decode cX6_odds 27 = .ok (.invokestatic 54, 3) := by decide +kernel
theorem dX6_odds_30 : decode cX6_odds 30 = .ok (.ifCond .ne 7, 3) := by decide +kernel
theorem dX6_odds_33 : decode cX6_odds 33 = .ok (.ldc2_w 264, 3) := by decide +kernel
theorem dX6_odds_36 : decode cX6_odds 36 = .ok (.lreturn, 1) := by decide +kernel
theorem dX6_odds_37 : decode cX6_odds 37 = .ok (.iload_n 1, 1) := by decide +kernel
theorem dX6_odds_38 : decode cX6_odds 38 = .ok (.invokestatic 266, 3) := by decide +kernel
theorem dX6_odds_41 : decode cX6_odds 41 = .ok (.iload_n 2, 1) := by decide +kernel
theorem dX6_odds_42 : decode cX6_odds 42 = .ok (.invokestatic 266, 3) := by decide +kernel
theorem dX6_odds_45 : decode cX6_odds 45 = .ok (.ldiv, 1) := by decide +kernel
theorem dX6_odds_46 : decode cX6_odds 46 = .ok (.iload_n 1, 1) := by decide +kernel
theorem dX6_odds_47 : decode cX6_odds 47 = .ok (.iload_n 2, 1) := by decide +kernel
theorem dX6_odds_48 : decode cX6_odds 48 = .ok (.isub, 1) := by decide +kernel
theorem dX6_odds_49 : decode cX6_odds 49 = .ok (.invokestatic 266, 3) := by decide +kernel
theorem dX6_odds_52 : decode cX6_odds 52 = .ok (.ldiv, 1) := by decide +kernel
theorem dX6_odds_53 : decode cX6_odds 53 = .ok (.lstore 4, 2) := by decide +kernel
theorem dX6_odds_55 : decode cX6_odds 55 = .ok (.lconst 1, 1) := by decide +kernel
theorem dX6_odds_56 : decode cX6_odds 56 = .ok (.lstore 6, 2) := by decide +kernel
theorem dX6_odds_58 : decode cX6_odds 58 = .ok (.iconst 0, 1) := by decide +kernel
theorem dX6_odds_59 : decode cX6_odds 59 = .ok (.istore 8, 2) := by decide +kernel
theorem dX6_odds_61 : decode cX6_odds 61 = .ok (.iload 8, 2) := by decide +kernel
theorem dX6_odds_63 : decode cX6_odds 63 = .ok (.iload_n 1, 1) := by decide +kernel
theorem dX6_odds_64 : decode cX6_odds 64 = .ok (.if_icmp .ge 50, 3) := by decide +kernel
theorem dX6_odds_67 : decode cX6_odds 67 = .ok (.lload 4, 2) := by decide +kernel
theorem dX6_odds_69 : decode cX6_odds 69 = .ok (.iload 8, 2) := by decide +kernel
theorem dX6_odds_71 : decode cX6_odds 71 = .ok (.iload_n 2, 1) := by decide +kernel
theorem dX6_odds_72 : decode cX6_odds 72 = .ok (.if_icmp .ge 14, 3) := by decide +kernel
theorem dX6_odds_75 : decode cX6_odds 75 = .ok (.aload_n 0, 1) := by decide +kernel
theorem dX6_odds_76 : decode cX6_odds 76 = .ok (.getfield 7, 3) := by decide +kernel
theorem dX6_odds_79 : decode cX6_odds 79 = .ok (.bipush 6, 2) := by decide +kernel
theorem dX6_odds_81 : decode cX6_odds 81 = .ok (.iaload, 1) := by decide +kernel
theorem dX6_odds_82 : decode cX6_odds 82 = .ok (.i2l, 1) := by decide +kernel
theorem dX6_odds_83 : decode cX6_odds 83 = .ok (.goto 14, 3) := by decide +kernel
theorem dX6_odds_86 : decode cX6_odds 86 = .ok (.bipush 100, 2) := by decide +kernel
theorem dX6_odds_88 : decode cX6_odds 88 = .ok (.aload_n 0, 1) := by decide +kernel
theorem dX6_odds_89 : decode cX6_odds 89 = .ok (.getfield 7, 3) := by decide +kernel
theorem dX6_odds_92 : decode cX6_odds 92 = .ok (.bipush 6, 2) := by decide +kernel
theorem dX6_odds_94 : decode cX6_odds 94 = .ok (.iaload, 1) := by decide +kernel
theorem dX6_odds_95 : decode cX6_odds 95 = .ok (.isub, 1) := by decide +kernel
theorem dX6_odds_96 : decode cX6_odds 96 = .ok (.i2l, 1) := by decide +kernel
theorem dX6_odds_97 : decode cX6_odds 97 = .ok (.lmul, 1) := by decide +kernel
theorem dX6_odds_98 : decode cX6_odds 98 = .ok (.lstore 4, 2) := by decide +kernel
theorem dX6_odds_100 : decode cX6_odds 100 = .ok (.lload 6, 2) := by decide +kernel
theorem dX6_odds_102 : decode cX6_odds 102 = .ok (.ldc2_w 270, 3) := by decide +kernel
theorem dX6_odds_105 : decode cX6_odds 105 = .ok (.lmul, 1) := by decide +kernel
theorem dX6_odds_106 : decode cX6_odds 106 = .ok (.lstore 6, 2) := by decide +kernel
theorem dX6_odds_108 : decode cX6_odds 108 = .ok (.iinc 8 1, 3) := by decide +kernel
theorem dX6_odds_111 : decode cX6_odds 111 = .ok (.goto (-50), 3) := by decide +kernel
theorem dX6_odds_114 : decode cX6_odds 114 = .ok (.lload 4, 2) := by decide +kernel
theorem dX6_odds_116 : decode cX6_odds 116 = .ok (.lload 6, 2) := by decide +kernel
theorem dX6_odds_118 : decode cX6_odds 118 = .ok (.iload_n 3, 1) := by decide +kernel
theorem dX6_odds_119 : decode cX6_odds 119 = .ok (.invokestatic 272, 3) := by decide +kernel
theorem dX6_odds_122 : decode cX6_odds 122 = .ok (.lreturn, 1) := by decide +kernel
theorem dX6_hope_0 : decode cX6_hope 0 = .ok (.iload_n 1, 1) := by decide +kernel
theorem dX6_hope_1 : decode cX6_hope 1 = .ok (.i2l, 1) := by decide +kernel
theorem dX6_hope_2 : decode cX6_hope 2 = .ok (.lconst 0, 1) := by decide +kernel
theorem dX6_hope_3 : decode cX6_hope 3 = .ok (.ldc2_w 162, 3) := by decide +kernel
theorem dX6_hope_6 : decode cX6_hope 6 = .ok (.invokestatic 54, 3) := by decide +kernel
theorem dX6_hope_9 : decode cX6_hope 9 = .ok (.ifCond .eq 34, 3) := by decide +kernel
theorem dX6_hope_12 : decode cX6_hope 12 = .ok (.iload_n 2, 1) := by decide +kernel
theorem dX6_hope_13 : decode cX6_hope 13 = .ok (.i2l, 1) := by decide +kernel
theorem dX6_hope_14 : decode cX6_hope 14 = .ok (.lconst 0, 1) := by decide +kernel
theorem dX6_hope_15 : decode cX6_hope 15 = .ok (.lconst 1, 1) := by decide +kernel
theorem dX6_hope_16 : decode cX6_hope 16 = .ok (.invokestatic 54, 3) := by decide +kernel
theorem dX6_hope_19 : decode cX6_hope 19 = .ok (.ifCond .eq 24, 3) := by decide +kernel
theorem dX6_hope_22 : decode cX6_hope 22 = .ok (.iload_n 1, 1) := by decide +kernel
theorem dX6_hope_23 : decode cX6_hope 23 = .ok (.i2l, 1) := by decide +kernel
theorem dX6_hope_24 : decode cX6_hope 24 = .ok (.aload_n 0, 1) := by decide +kernel
theorem dX6_hope_25 : decode cX6_hope 25 = .ok (.getfield 7, 3) := by decide +kernel
theorem dX6_hope_28 : decode cX6_hope 28 = .ok (.bipush 6, 2) := by decide +kernel
theorem dX6_hope_30 : decode cX6_hope 30 = .ok (.iaload, 1) := by decide +kernel
theorem dX6_hope_31 : decode cX6_hope 31 = .ok (.i2l, 1) := by decide +kernel
theorem dX6_hope_32 : decode cX6_hope 32 = .ok (.lmul, 1) := by decide +kernel
theorem dX6_hope_33 : decode cX6_hope 33 = .ok (.ldc2_w 270, 3) := by decide +kernel
theorem dX6_hope_36 : decode cX6_hope 36 = .ok (.iload_n 2, 1) := by decide +kernel
theorem dX6_hope_37 : decode cX6_hope 37 = .ok (.invokestatic 272, 3) := by decide +kernel
theorem dX6_hope_40 : decode cX6_hope 40 = .ok (.goto 6, 3) := by decide +kernel
theorem dX6_hope_43 : decode cX6_hope 43 = .ok (.ldc2_w 264, 3) := by decide +kernel
theorem dX6_hope_46 : decode cX6_hope 46 = .ok (.lreturn, 1) := by decide +kernel
theorem dX6_prove_0 : decode cX6_prove 0 = .ok (.aload_n 0, 1) := by decide +kernel
theorem dX6_prove_1 : decode cX6_prove 1 = .ok (.iload_n 1, 1) := by decide +kernel
theorem dX6_prove_2 : decode cX6_prove 2 = .ok (.invokevirtual 173, 3) := by decide +kernel
theorem dX6_prove_5 : decode cX6_prove 5 = .ok (.ifCond .eq 15, 3) := by decide +kernel
theorem dX6_prove_8 : decode cX6_prove 8 = .ok (.iload_n 2, 1) := by decide +kernel
theorem dX6_prove_9 : decode cX6_prove 9 = .ok (.i2l, 1) := by decide +kernel
theorem dX6_prove_10 : decode cX6_prove 10 = .ok (.lconst 1, 1) := by decide +kernel
theorem dX6_prove_11 : decode cX6_prove 11 = .ok (.ldc2_w 276, 3) := by decide +kernel
theorem dX6_prove_14 : decode cX6_prove 14 = .ok (.invokestatic 54, 3) := by decide +kernel
theorem dX6_prove_17 : decode cX6_prove 17 = .ok (.ifCond .ne 5, 3) := by decide +kernel
theorem dX6_prove_20 : decode cX6_prove 20 = .ok (.iconst (-1), 1) := by decide +kernel
theorem dX6_prove_21 : decode cX6_prove 21 = .ok (.ireturn, 1) := by decide +kernel
theorem dX6_prove_22 : decode cX6_prove 22 = .ok (.aload_n 0, 1) := by decide +kernel
theorem dX6_prove_23 : decode cX6_prove 23 = .ok (.getfield 7, 3) := by decide +kernel
theorem dX6_prove_26 : decode cX6_prove 26 = .ok (.aload_n 0, 1) := by decide +kernel
theorem dX6_prove_27 : decode cX6_prove 27 = .ok (.getfield 16, 3) := by decide +kernel
theorem dX6_prove_30 : decode cX6_prove 30 = .ok (.invokestatic 144, 3) := by decide +kernel
theorem dX6_prove_33 : decode cX6_prove 33 = .ok (.iconst 0, 1) := by decide +kernel
theorem dX6_prove_34 : decode cX6_prove 34 = .ok (.istore_n 3, 1) := by decide +kernel
theorem dX6_prove_35 : decode cX6_prove 35 = .ok (.iload_n 3, 1) := by decide +kernel
theorem dX6_prove_36 : decode cX6_prove 36 = .ok (.iload_n 2, 1) := by decide +kernel
theorem dX6_prove_37 : decode cX6_prove 37 = .ok (.if_icmp .ge 59, 3) := by decide +kernel
theorem dX6_prove_40 : decode cX6_prove 40 = .ok (.aload_n 0, 1) := by decide +kernel
theorem dX6_prove_41 : decode cX6_prove 41 = .ok (.invokevirtual 201, 3) := by decide +kernel
theorem dX6_prove_44 : decode cX6_prove 44 = .ok (.aload_n 0, 1) := by decide +kernel
theorem dX6_prove_45 : decode cX6_prove 45 = .ok (.getfield 25, 3) := by decide +kernel
theorem dX6_prove_48 : decode cX6_prove 48 = .ok (.iconst 3, 1) := by decide +kernel
theorem dX6_prove_49 : decode cX6_prove 49 = .ok (.iload_n 3, 1) := by decide +kernel
theorem dX6_prove_50 : decode cX6_prove 50 = .ok (.imul, 1) := by decide +kernel
theorem dX6_prove_51 : decode cX6_prove 51 = .ok (.aload_n 0, 1) := by decide +kernel
theorem dX6_prove_52 : decode cX6_prove 52 = .ok (.iload_n 1, 1) := by decide +kernel
theorem dX6_prove_53 : decode cX6_prove 53 = .ok (.iconst 2, 1) := by decide +kernel
theorem dX6_prove_54 : decode cX6_prove 54 = .ok (.invokevirtual 167, 3) := by decide +kernel
theorem dX6_prove_57 : decode cX6_prove 57 = .ok (.iastore, 1) := by decide +kernel
theorem dX6_prove_58 : decode cX6_prove 58 = .ok (.aload_n 0, 1) := by decide +kernel
theorem dX6_prove_59 : decode cX6_prove 59 = .ok (.getfield 25, 3) := by decide +kernel
theorem dX6_prove_62 : decode cX6_prove 62 = .ok (.iconst 3, 1) := by decide +kernel
theorem dX6_prove_63 : decode cX6_prove 63 = .ok (.iload_n 3, 1) := by decide +kernel
theorem dX6_prove_64 : decode cX6_prove 64 = .ok (.imul, 1) := by decide +kernel
theorem dX6_prove_65 : decode cX6_prove 65 = .ok (.iconst 1, 1) := by decide +kernel
theorem dX6_prove_66 : decode cX6_prove 66 = .ok (.iadd, 1) := by decide +kernel
theorem dX6_prove_67 : decode cX6_prove 67 = .ok (.aload_n 0, 1) := by decide +kernel
theorem dX6_prove_68 : decode cX6_prove 68 = .ok (.iload_n 1, 1) := by decide +kernel
theorem dX6_prove_69 : decode cX6_prove 69 = .ok (.iconst 1, 1) := by decide +kernel
theorem dX6_prove_70 : decode cX6_prove 70 = .ok (.invokevirtual 167, 3) := by decide +kernel
theorem dX6_prove_73 : decode cX6_prove 73 = .ok (.iastore, 1) := by decide +kernel
theorem dX6_prove_74 : decode cX6_prove 74 = .ok (.aload_n 0, 1) := by decide +kernel
theorem dX6_prove_75 : decode cX6_prove 75 = .ok (.getfield 25, 3) := by decide +kernel
theorem dX6_prove_78 : decode cX6_prove 78 = .ok (.iconst 3, 1) := by decide +kernel
theorem dX6_prove_79 : decode cX6_prove 79 = .ok (.iload_n 3, 1) := by decide +kernel
theorem dX6_prove_80 : decode cX6_prove 80 = .ok (.imul, 1) := by decide +kernel
theorem dX6_prove_81 : decode cX6_prove 81 = .ok (.iconst 2, 1) := by decide +kernel
theorem dX6_prove_82 : decode cX6_prove 82 = .ok (.iadd, 1) := by decide +kernel
theorem dX6_prove_83 : decode cX6_prove 83 = .ok (.aload_n 0, 1) := by decide +kernel
theorem dX6_prove_84 : decode cX6_prove 84 = .ok (.iload_n 1, 1) := by decide +kernel
theorem dX6_prove_85 : decode cX6_prove 85 = .ok (.iconst 3, 1) := by decide +kernel
theorem dX6_prove_86 : decode cX6_prove 86 = .ok (.invokevirtual 167, 3) := by decide +kernel
theorem dX6_prove_89 : decode cX6_prove 89 = .ok (.iastore, 1) := by decide +kernel
theorem dX6_prove_90 : decode cX6_prove 90 = .ok (.iinc 3 1, 3) := by decide +kernel
theorem dX6_prove_93 : decode cX6_prove 93 = .ok (.goto (-58), 3) := by decide +kernel
theorem dX6_prove_96 : decode cX6_prove 96 = .ok (.aload_n 0, 1) := by decide +kernel
theorem dX6_prove_97 : decode cX6_prove 97 = .ok (.getfield 16, 3) := by decide +kernel
theorem dX6_prove_100 : decode cX6_prove 100 = .ok (.aload_n 0, 1) := by decide +kernel
theorem dX6_prove_101 : decode cX6_prove 101 = .ok (.getfield 7, 3) := by decide +kernel
theorem dX6_prove_104 : decode cX6_prove 104 = .ok (.invokestatic 144, 3) := by decide +kernel
theorem dX6_prove_107 : decode cX6_prove 107 = .ok (.aload_n 0, 1) := by decide +kernel
theorem dX6_prove_108 : decode cX6_prove 108 = .ok (.iload_n 2, 1) := by decide +kernel
theorem dX6_prove_109 : decode cX6_prove 109 = .ok (.putfield 151, 3) := by decide +kernel
theorem dX6_prove_112 : decode cX6_prove 112 = .ok (.iload_n 2, 1) := by decide +kernel
theorem dX6_prove_113 : decode cX6_prove 113 = .ok (.ireturn, 1) := by decide +kernel
theorem dX6_isRow_0 : decode cX6_isRow 0 = .ok (.iload_n 1, 1) := by decide +kernel
theorem dX6_isRow_1 : decode cX6_isRow 1 = .ok (.i2l, 1) := by decide +kernel
theorem dX6_isRow_2 : decode cX6_isRow 2 = .ok (.lconst 0, 1) := by decide +kernel
theorem dX6_isRow_3 : decode cX6_isRow 3 = .ok (.aload_n 0, 1) := by decide +kernel
theorem dX6_isRow_4 : decode cX6_isRow 4 = .ok (.getfield 151, 3) := by decide +kernel
theorem dX6_isRow_7 : decode cX6_isRow 7 = .ok (.iconst 1, 1) := by decide +kernel
theorem dX6_isRow_8 : decode cX6_isRow 8 = .ok (.isub, 1) := by decide +kernel
theorem dX6_isRow_9 : decode cX6_isRow 9 = .ok (.i2l, 1) := by decide +kernel
theorem dX6_isRow_10 : decode cX6_isRow 10 = .ok (.invokestatic 54, 3) := by decide +kernel
theorem dX6_isRow_13 : decode cX6_isRow 13 = .ok (.ifCond .eq 19, 3) := by decide +kernel
theorem dX6_isRow_16 : decode cX6_isRow 16 = .ok (.iload_n 2, 1) := by decide +kernel
theorem dX6_isRow_17 : decode cX6_isRow 17 = .ok (.i2l, 1) := by decide +kernel
theorem dX6_isRow_18 : decode cX6_isRow 18 = .ok (.lconst 0, 1) := by decide +kernel
theorem dX6_isRow_19 : decode cX6_isRow 19 = .ok (.ldc2_w 185, 3) := by decide +kernel
theorem dX6_isRow_22 : decode cX6_isRow 22 = .ok (.invokestatic 54, 3) := by decide +kernel
theorem dX6_isRow_25 : decode cX6_isRow 25 = .ok (.ifCond .eq 7, 3) := by decide +kernel
theorem dX6_isRow_28 : decode cX6_isRow 28 = .ok (.iconst 1, 1) := by decide +kernel
theorem dX6_isRow_29 : decode cX6_isRow 29 = .ok (.goto 4, 3) := by decide +kernel
theorem dX6_isRow_32 : decode cX6_isRow 32 = .ok (.iconst 0, 1) := by decide +kernel
theorem dX6_isRow_33 : decode cX6_isRow 33 = .ok (.ireturn, 1) := by decide +kernel
theorem dX6_row_0 : decode cX6_row 0 = .ok (.aload_n 0, 1) := by decide +kernel
theorem dX6_row_1 : decode cX6_row 1 = .ok (.iload_n 1, 1) := by decide +kernel
theorem dX6_row_2 : decode cX6_row 2 = .ok (.iload_n 2, 1) := by decide +kernel
theorem dX6_row_3 : decode cX6_row 3 = .ok (.invokevirtual 278, 3) := by decide +kernel
theorem dX6_row_6 : decode cX6_row 6 = .ok (.ifCond .eq 16, 3) := by decide +kernel
theorem dX6_row_9 : decode cX6_row 9 = .ok (.aload_n 0, 1) := by decide +kernel
theorem dX6_row_10 : decode cX6_row 10 = .ok (.getfield 25, 3) := by decide +kernel
theorem dX6_row_13 : decode cX6_row 13 = .ok (.iconst 3, 1) := by decide +kernel
theorem dX6_row_14 : decode cX6_row 14 = .ok (.iload_n 1, 1) := by decide +kernel
theorem dX6_row_15 : decode cX6_row 15 = .ok (.imul, 1) := by decide +kernel
theorem dX6_row_16 : decode cX6_row 16 = .ok (.iload_n 2, 1) := by decide +kernel
theorem dX6_row_17 : decode cX6_row 17 = .ok (.iadd, 1) := by decide +kernel
theorem dX6_row_18 : decode cX6_row 18 = .ok (.iaload, 1) := by decide +kernel
theorem dX6_row_19 : decode cX6_row 19 = .ok (.goto 5, 3) := by decide +kernel
theorem dX6_row_22 : decode cX6_row 22 = .ok (.bipush (-9), 2) := by decide +kernel
theorem dX6_row_24 : decode cX6_row 24 = .ok (.ireturn, 1) := by decide +kernel
theorem dX6_alterRow_0 : decode cX6_alterRow 0 = .ok (.aload_n 0, 1) := by decide +kernel
theorem dX6_alterRow_1 : decode cX6_alterRow 1 = .ok (.iload_n 1, 1) := by decide +kernel
theorem dX6_alterRow_2 : decode cX6_alterRow 2 = .ok (.iload_n 2, 1) := by decide +kernel
theorem dX6_alterRow_3 : decode cX6_alterRow 3 = .ok (.invokevirtual 278, 3) := by decide +kernel
theorem dX6_alterRow_6 : decode cX6_alterRow 6 = .ok (.ifCond .ne 6, 3) := by decide +kernel
theorem dX6_alterRow_9 : decode cX6_alterRow 9 = .ok (.bipush (-9), 2) := by decide +kernel
theorem dX6_alterRow_11 : decode cX6_alterRow 11 = .ok (.ireturn, 1) := by decide +kernel
theorem dX6_alterRow_12 : decode cX6_alterRow 12 = .ok (.aload_n 0, 1) := by decide +kernel
theorem dX6_alterRow_13 : decode cX6_alterRow 13 = .ok (.getfield 25, 3) := by decide +kernel
theorem dX6_alterRow_16 : decode cX6_alterRow 16 = .ok (.iconst 3, 1) := by decide +kernel
theorem dX6_alterRow_17 : decode cX6_alterRow 17 = .ok (.iload_n 1, 1) := by decide +kernel
theorem dX6_alterRow_18 : decode cX6_alterRow 18 = .ok (.imul, 1) := by decide +kernel
theorem dX6_alterRow_19 : decode cX6_alterRow 19 = .ok (.iload_n 2, 1) := by decide +kernel
theorem dX6_alterRow_20 : decode cX6_alterRow 20 = .ok (.iadd, 1) := by decide +kernel
theorem dX6_alterRow_21 : decode cX6_alterRow 21 = .ok (.iaload, 1) := by decide +kernel
theorem dX6_alterRow_22 : decode cX6_alterRow 22 = .ok (.istore 4, 2) := by decide +kernel
theorem dX6_alterRow_24 : decode cX6_alterRow 24 = .ok (.aload_n 0, 1) := by decide +kernel
theorem dX6_alterRow_25 : decode cX6_alterRow 25 = .ok (.getfield 25, 3) := by decide +kernel
theorem dX6_alterRow_28 : decode cX6_alterRow 28 = .ok (.iconst 3, 1) := by decide +kernel
theorem dX6_alterRow_29 : decode cX6_alterRow 29 = .ok (.iload_n 1, 1) := by decide +kernel
theorem dX6_alterRow_30 : decode cX6_alterRow 30 = .ok (.imul, 1) := by decide +kernel
theorem dX6_alterRow_31 : decode cX6_alterRow 31 = .ok (.iload_n 2, 1) := by decide +kernel
theorem dX6_alterRow_32 : decode cX6_alterRow 32 = .ok (.iadd, 1) := by decide +kernel
theorem dX6_alterRow_33 : decode cX6_alterRow 33 = .ok (.iload_n 3, 1) := by decide +kernel
theorem dX6_alterRow_34 : decode cX6_alterRow 34 = .ok (.iastore, 1) := by decide +kernel
theorem dX6_alterRow_35 : decode cX6_alterRow 35 = .ok (.iload 4, 2) := by decide +kernel
theorem dX6_alterRow_37 : decode cX6_alterRow 37 = .ok (.ireturn, 1) := by decide +kernel
theorem dX6_judge_0 : decode cX6_judge 0 = .ok (.aload_n 0, 1) := by decide +kernel
theorem dX6_judge_1 : decode cX6_judge 1 = .ok (.iload_n 1, 1) := by decide +kernel
theorem dX6_judge_2 : decode cX6_judge 2 = .ok (.invokevirtual 173, 3) := by decide +kernel
theorem dX6_judge_5 : decode cX6_judge 5 = .ok (.ifCond .ne 5, 3) := by decide +kernel
theorem dX6_judge_8 : decode cX6_judge 8 = .ok (.iconst (-1), 1) := by decide +kernel
theorem dX6_judge_9 : decode cX6_judge 9 = .ok (.ireturn, 1) := by decide +kernel
theorem dX6_judge_10 : decode cX6_judge 10 = .ok (.aload_n 0, 1) := by decide +kernel
theorem dX6_judge_11 : decode cX6_judge 11 = .ok (.getfield 7, 3) := by decide +kernel
theorem dX6_judge_14 : decode cX6_judge 14 = .ok (.aload_n 0, 1) := by decide +kernel
theorem dX6_judge_15 : decode cX6_judge 15 = .ok (.getfield 16, 3) := by decide +kernel
theorem dX6_judge_18 : decode cX6_judge 18 = .ok (.invokestatic 144, 3) := by decide +kernel
theorem dX6_judge_21 : decode cX6_judge 21 = .ok (.iconst 0, 1) := by decide +kernel
theorem dX6_judge_22 : decode cX6_judge 22 = .ok (.istore_n 2, 1) := by decide +kernel
theorem dX6_judge_23 : decode cX6_judge 23 = .ok (.iconst 1, 1) := by decide +kernel
theorem dX6_judge_24 : decode cX6_judge 24 = .ok (.istore_n 3, 1) := by decide +kernel
theorem dX6_judge_25 : decode cX6_judge 25 = .ok (.iload_n 2, 1) := by decide +kernel
theorem dX6_judge_26 : decode cX6_judge 26 = .ok (.aload_n 0, 1) := by decide +kernel
theorem dX6_judge_27 : decode cX6_judge 27 = .ok (.getfield 151, 3) := by decide +kernel
theorem dX6_judge_30 : decode cX6_judge 30 = .ok (.if_icmp .ge 78, 3) := by decide +kernel
theorem dX6_judge_33 : decode cX6_judge 33 = .ok (.iload_n 3, 1) := by decide +kernel
theorem dX6_judge_34 : decode cX6_judge 34 = .ok (.ifCond .eq 74, 3) := by decide +kernel
theorem dX6_judge_37 : decode cX6_judge 37 = .ok (.aload_n 0, 1) := by decide +kernel
theorem dX6_judge_38 : decode cX6_judge 38 = .ok (.invokevirtual 201, 3) := by decide +kernel
theorem dX6_judge_41 : decode cX6_judge 41 = .ok (.aload_n 0, 1) := by decide +kernel
theorem dX6_judge_42 : decode cX6_judge 42 = .ok (.getfield 25, 3) := by decide +kernel
theorem dX6_judge_45 : decode cX6_judge 45 = .ok (.iconst 3, 1) := by decide +kernel
theorem dX6_judge_46 : decode cX6_judge 46 = .ok (.iload_n 2, 1) := by decide +kernel
theorem dX6_judge_47 : decode cX6_judge 47 = .ok (.imul, 1) := by decide +kernel
theorem dX6_judge_48 : decode cX6_judge 48 = .ok (.iaload, 1) := by decide +kernel
theorem dX6_judge_49 : decode cX6_judge 49 = .ok (.aload_n 0, 1) := by decide +kernel
theorem dX6_judge_50 : decode cX6_judge 50 = .ok (.iload_n 1, 1) := by decide +kernel
theorem dX6_judge_51 : decode cX6_judge 51 = .ok (.iconst 2, 1) := by decide +kernel
theorem dX6_judge_52 : decode cX6_judge 52 = .ok (.invokevirtual 167, 3) := by decide +kernel
theorem dX6_judge_55 : decode cX6_judge 55 = .ok (.if_icmp .ne 45, 3) := by decide +kernel
theorem dX6_judge_58 : decode cX6_judge 58 = .ok (.aload_n 0, 1) := by decide +kernel
theorem dX6_judge_59 : decode cX6_judge 59 = .ok (.getfield 25, 3) := by decide +kernel
theorem dX6_judge_62 : decode cX6_judge 62 = .ok (.iconst 3, 1) := by decide +kernel
theorem dX6_judge_63 : decode cX6_judge 63 = .ok (.iload_n 2, 1) := by decide +kernel
theorem dX6_judge_64 : decode cX6_judge 64 = .ok (.imul, 1) := by decide +kernel
theorem dX6_judge_65 : decode cX6_judge 65 = .ok (.iconst 1, 1) := by decide +kernel
theorem dX6_judge_66 : decode cX6_judge 66 = .ok (.iadd, 1) := by decide +kernel
theorem dX6_judge_67 : decode cX6_judge 67 = .ok (.iaload, 1) := by decide +kernel
theorem dX6_judge_68 : decode cX6_judge 68 = .ok (.aload_n 0, 1) := by decide +kernel
theorem dX6_judge_69 : decode cX6_judge 69 = .ok (.iload_n 1, 1) := by decide +kernel
theorem dX6_judge_70 : decode cX6_judge 70 = .ok (.iconst 1, 1) := by decide +kernel
theorem dX6_judge_71 : decode cX6_judge 71 = .ok (.invokevirtual 167, 3) := by decide +kernel
theorem dX6_judge_74 : decode cX6_judge 74 = .ok (.if_icmp .ne 26, 3) := by decide +kernel
theorem dX6_judge_77 : decode cX6_judge 77 = .ok (.aload_n 0, 1) := by decide +kernel
theorem dX6_judge_78 : decode cX6_judge 78 = .ok (.getfield 25, 3) := by decide +kernel
theorem dX6_judge_81 : decode cX6_judge 81 = .ok (.iconst 3, 1) := by decide +kernel
theorem dX6_judge_82 : decode cX6_judge 82 = .ok (.iload_n 2, 1) := by decide +kernel
theorem dX6_judge_83 : decode cX6_judge 83 = .ok (.imul, 1) := by decide +kernel
theorem dX6_judge_84 : decode cX6_judge 84 = .ok (.iconst 2, 1) := by decide +kernel
theorem dX6_judge_85 : decode cX6_judge 85 = .ok (.iadd, 1) := by decide +kernel
theorem dX6_judge_86 : decode cX6_judge 86 = .ok (.iaload, 1) := by decide +kernel
theorem dX6_judge_87 : decode cX6_judge 87 = .ok (.aload_n 0, 1) := by decide +kernel
theorem dX6_judge_88 : decode cX6_judge 88 = .ok (.iload_n 1, 1) := by decide +kernel
theorem dX6_judge_89 : decode cX6_judge 89 = .ok (.iconst 3, 1) := by decide +kernel
theorem dX6_judge_90 : decode cX6_judge 90 = .ok (.invokevirtual 167, 3) := by decide +kernel
theorem dX6_judge_93 : decode cX6_judge 93 = .ok (.if_icmp .ne 7, 3) := by decide +kernel
theorem dX6_judge_96 : decode cX6_judge 96 = .ok (.iconst 1, 1) := by decide +kernel
theorem dX6_judge_97 : decode cX6_judge 97 = .ok (.goto 4, 3) := by decide +kernel
theorem dX6_judge_100 : decode cX6_judge 100 = .ok (.iconst 0, 1) := by decide +kernel
theorem dX6_judge_101 : decode cX6_judge 101 = .ok (.istore_n 3, 1) := by decide +kernel
theorem dX6_judge_102 : decode cX6_judge 102 = .ok (.iinc 2 1, 3) := by decide +kernel
theorem dX6_judge_105 : decode cX6_judge 105 = .ok (.goto (-80), 3) := by decide +kernel
theorem dX6_judge_108 : decode cX6_judge 108 = .ok (.aload_n 0, 1) := by decide +kernel
theorem dX6_judge_109 : decode cX6_judge 109 = .ok (.getfield 16, 3) := by decide +kernel
theorem dX6_judge_112 : decode cX6_judge 112 = .ok (.aload_n 0, 1) := by decide +kernel
theorem dX6_judge_113 : decode cX6_judge 113 = .ok (.getfield 7, 3) := by decide +kernel
theorem dX6_judge_116 : decode cX6_judge 116 = .ok (.invokestatic 144, 3) := by decide +kernel
theorem dX6_judge_119 : decode cX6_judge 119 = .ok (.iload_n 3, 1) := by decide +kernel
theorem dX6_judge_120 : decode cX6_judge 120 = .ok (.ifCond .eq 7, 3) := by decide +kernel
theorem dX6_judge_123 : decode cX6_judge 123 = .ok (.iconst 0, 1) := by decide +kernel
theorem dX6_judge_124 : decode cX6_judge 124 = .ok (.goto 4, 3) := by decide +kernel
theorem dX6_judge_127 : decode cX6_judge 127 = .ok (.iload_n 2, 1) := by decide +kernel
theorem dX6_judge_128 : decode cX6_judge 128 = .ok (.ireturn, 1) := by decide +kernel
theorem dX6_isSheet_0 : decode cX6_isSheet 0 = .ok (.iload_n 0, 1) := by decide +kernel
theorem dX6_isSheet_1 : decode cX6_isSheet 1 = .ok (.i2l, 1) := by decide +kernel
theorem dX6_isSheet_2 : decode cX6_isSheet 2 = .ok (.lconst 0, 1) := by decide +kernel
theorem dX6_isSheet_3 : decode cX6_isSheet 3 = .ok (.ldc2_w 154, 3) := by decide +kernel
theorem dX6_isSheet_6 : decode cX6_isSheet 6 = .ok (.invokestatic 54, 3) := by decide +kernel
theorem dX6_isSheet_9 : decode cX6_isSheet 9 = .ok (.ireturn, 1) := by decide +kernel
theorem dX6_isShelf_0 : decode cX6_isShelf 0 = .ok (.iload_n 0, 1) := by decide +kernel
theorem dX6_isShelf_1 : decode cX6_isShelf 1 = .ok (.i2l, 1) := by decide +kernel
theorem dX6_isShelf_2 : decode cX6_isShelf 2 = .ok (.lconst 0, 1) := by decide +kernel
theorem dX6_isShelf_3 : decode cX6_isShelf 3 = .ok (.ldc2_w 154, 3) := by decide +kernel
theorem dX6_isShelf_6 : decode cX6_isShelf 6 = .ok (.invokestatic 54, 3) := by decide +kernel
theorem dX6_isShelf_9 : decode cX6_isShelf 9 = .ok (.ireturn, 1) := by decide +kernel
theorem dX6_sheet_0 : decode cX6_sheet 0 = .ok (.iload_n 1, 1) := by decide +kernel
theorem dX6_sheet_1 : decode cX6_sheet 1 = .ok (.invokestatic 258, 3) := by decide +kernel
theorem dX6_sheet_4 : decode cX6_sheet 4 = .ok (.ifCond .eq 27, 3) := by decide +kernel
theorem dX6_sheet_7 : decode cX6_sheet 7 = .ok (.iload_n 2, 1) := by decide +kernel
theorem dX6_sheet_8 : decode cX6_sheet 8 = .ok (.i2l, 1) := by decide +kernel
theorem dX6_sheet_9 : decode cX6_sheet 9 = .ok (.ldc2_w 264, 3) := by decide +kernel
theorem dX6_sheet_12 : decode cX6_sheet 12 = .ok (.ldc2_w 154, 3) := by decide +kernel
theorem dX6_sheet_15 : decode cX6_sheet 15 = .ok (.invokestatic 54, 3) := by decide +kernel
theorem dX6_sheet_18 : decode cX6_sheet 18 = .ok (.ifCond .eq 13, 3) := by decide +kernel
theorem dX6_sheet_21 : decode cX6_sheet 21 = .ok (.iload_n 2, 1) := by decide +kernel
theorem dX6_sheet_22 : decode cX6_sheet 22 = .ok (.ifCond .lt 11, 3) := by decide +kernel
theorem dX6_sheet_25 : decode cX6_sheet 25 = .ok (.iload_n 3, 1) := by decide +kernel
theorem dX6_sheet_26 : decode cX6_sheet 26 = .ok (.bipush 40, 2) := by decide +kernel
theorem dX6_sheet_28 : decode cX6_sheet 28 = .ok (.if_icmp .le 5, 3) := by decide +kernel
theorem dX6_sheet_31 : decode cX6_sheet 31 = .ok (.iconst (-1), 1) := by decide +kernel
theorem dX6_sheet_32 : decode cX6_sheet 32 = .ok (.ireturn, 1) := by decide +kernel
theorem dX6_sheet_33 : decode cX6_sheet 33 = .ok (.iload_n 2, 1) := by decide +kernel
theorem dX6_sheet_34 : decode cX6_sheet 34 = .ok (.ifCond .lt 10, 3) := by decide +kernel
theorem dX6_sheet_37 : decode cX6_sheet 37 = .ok (.iload_n 3, 1) := by decide +kernel
theorem dX6_sheet_38 : decode cX6_sheet 38 = .ok (.ifCond .ge 6, 3) := by decide +kernel
theorem dX6_sheet_41 : decode cX6_sheet 41 = .ok (.bipush (-14), 2) := by decide +kernel
theorem dX6_sheet_43 : decode cX6_sheet 43 = .ok (.ireturn, 1) := by decide +kernel
theorem dX6_sheet_44 : decode cX6_sheet 44 = .ok (.aload_n 0, 1) := by decide +kernel
theorem dX6_sheet_45 : decode cX6_sheet 45 = .ok (.getfield 28, 3) := by decide +kernel
theorem dX6_sheet_48 : decode cX6_sheet 48 = .ok (.iload_n 1, 1) := by decide +kernel
theorem dX6_sheet_49 : decode cX6_sheet 49 = .ok (.iload_n 2, 1) := by decide +kernel
theorem dX6_sheet_50 : decode cX6_sheet 50 = .ok (.iastore, 1) := by decide +kernel
theorem dX6_sheet_51 : decode cX6_sheet 51 = .ok (.aload_n 0, 1) := by decide +kernel
theorem dX6_sheet_52 : decode cX6_sheet 52 = .ok (.getfield 31, 3) := by decide +kernel
theorem dX6_sheet_55 : decode cX6_sheet 55 = .ok (.iload_n 1, 1) := by decide +kernel
theorem dX6_sheet_56 : decode cX6_sheet 56 = .ok (.iload_n 2, 1) := by decide +kernel
theorem dX6_sheet_57 : decode cX6_sheet 57 = .ok (.ifCond .ge 7, 3) := by decide +kernel
theorem dX6_sheet_60 : decode cX6_sheet 60 = .ok (.iconst 0, 1) := by decide +kernel
theorem dX6_sheet_61 : decode cX6_sheet 61 = .ok (.goto 4, 3) := by decide +kernel
theorem dX6_sheet_64 : decode cX6_sheet 64 = .ok (.iload_n 3, 1) := by decide +kernel
theorem dX6_sheet_65 : decode cX6_sheet 65 = .ok (.iastore, 1) := by decide +kernel
theorem dX6_sheet_66 : decode cX6_sheet 66 = .ok (.iconst 0, 1) := by decide +kernel
theorem dX6_sheet_67 : decode cX6_sheet 67 = .ok (.istore 4, 2) := by decide +kernel
theorem dX6_sheet_69 : decode cX6_sheet 69 = .ok (.iload 4, 2) := by decide +kernel
theorem dX6_sheet_71 : decode cX6_sheet 71 = .ok (.bipush 40, 2) := by decide +kernel
theorem dX6_sheet_73 : decode cX6_sheet 73 = .ok (.if_icmp .ge 22, 3) := by decide +kernel
theorem dX6_sheet_76 : decode cX6_sheet 76 = .ok (.aload_n 0, 1) := by decide +kernel
theorem dX6_sheet_77 : decode cX6_sheet 77 = .ok (.getfield 34, 3) := by decide +kernel
theorem dX6_sheet_80 : decode cX6_sheet 80 = .ok (.bipush 40, 2) := by decide +kernel
theorem dX6_sheet_82 : decode cX6_sheet 82 = .ok (.iload_n 1, 1) := by decide +kernel
theorem dX6_sheet_83 : decode cX6_sheet 83 = .ok (.imul, 1) := by decide +kernel
theorem dX6_sheet_84 : decode cX6_sheet 84 = .ok (.iload 4, 2) := by decide +kernel
theorem dX6_sheet_86 : decode cX6_sheet 86 = .ok (.iadd, 1) := by decide +kernel
theorem dX6_sheet_87 : decode cX6_sheet 87 = .ok (.iconst 0, 1) := by decide +kernel
theorem dX6_sheet_88 : decode cX6_sheet 88 = .ok (.iastore, 1) := by decide +kernel
theorem dX6_sheet_89 : decode cX6_sheet 89 = .ok (.iinc 4 1, 3) := by decide +kernel
theorem dX6_sheet_92 : decode cX6_sheet 92 = .ok (.goto (-23), 3) := by decide +kernel
theorem dX6_sheet_95 : decode cX6_sheet 95 = .ok (.iconst 1, 1) := by decide +kernel
theorem dX6_sheet_96 : decode cX6_sheet 96 = .ok (.ireturn, 1) := by decide +kernel
theorem dX6_put_0 : decode cX6_put 0 = .ok (.iload_n 1, 1) := by decide +kernel
theorem dX6_put_1 : decode cX6_put 1 = .ok (.invokestatic 258, 3) := by decide +kernel
theorem dX6_put_4 : decode cX6_put 4 = .ok (.ifCond .ne 5, 3) := by decide +kernel
theorem dX6_put_7 : decode cX6_put 7 = .ok (.iconst (-1), 1) := by decide +kernel
theorem dX6_put_8 : decode cX6_put 8 = .ok (.ireturn, 1) := by decide +kernel
theorem dX6_put_9 : decode cX6_put 9 = .ok (.aload_n 0, 1) := by decide +kernel
theorem dX6_put_10 : decode cX6_put 10 = .ok (.getfield 28, 3) := by decide +kernel
theorem dX6_put_13 : decode cX6_put 13 = .ok (.iload_n 1, 1) := by decide +kernel
theorem dX6_put_14 : decode cX6_put 14 = .ok (.iaload, 1) := by decide +kernel
theorem dX6_put_15 : decode cX6_put 15 = .ok (.ifCond .ge 6, 3) := by decide +kernel
theorem dX6_put_18 : decode cX6_put 18 = .ok (.bipush (-11), 2) := by decide +kernel
theorem dX6_put_20 : decode cX6_put 20 = .ok (.ireturn, 1) := by decide +kernel
theorem dX6_put_21 : decode cX6_put 21 = .ok (.iload_n 2, 1) := by decide +kernel
theorem dX6_put_22 : decode cX6_put 22 = .ok (.i2l, 1) := by decide +kernel
theorem dX6_put_23 : decode cX6_put 23 = .ok (.lconst 0, 1) := by decide +kernel
theorem dX6_put_24 : decode cX6_put 24 = .ok (.aload_n 0, 1) := by decide +kernel
theorem dX6_put_25 : decode cX6_put 25 = .ok (.getfield 31, 3) := by decide +kernel
theorem dX6_put_28 : decode cX6_put 28 = .ok (.iload_n 1, 1) := by decide +kernel
theorem dX6_put_29 : decode cX6_put 29 = .ok (.iaload, 1) := by decide +kernel
theorem dX6_put_30 : decode cX6_put 30 = .ok (.iconst 1, 1) := by decide +kernel
theorem dX6_put_31 : decode cX6_put 31 = .ok (.isub, 1) := by decide +kernel
theorem dX6_put_32 : decode cX6_put 32 = .ok (.i2l, 1) := by decide +kernel
theorem dX6_put_33 : decode cX6_put 33 = .ok (.invokestatic 54, 3) := by decide +kernel
theorem dX6_put_36 : decode cX6_put 36 = .ok (.ifCond .ne 6, 3) := by decide +kernel
theorem dX6_put_39 : decode cX6_put 39 = .ok (.bipush (-12), 2) := by decide +kernel
theorem dX6_put_41 : decode cX6_put 41 = .ok (.ireturn, 1) := by decide +kernel
theorem dX6_put_42 : decode cX6_put 42 = .ok (.aload_n 0, 1) := by decide +kernel
theorem dX6_put_43 : decode cX6_put 43 = .ok (.getfield 34, 3) := by decide +kernel
theorem dX6_put_46 : decode cX6_put 46 = .ok (.bipush 40, 2) := by decide +kernel
theorem dX6_put_48 : decode cX6_put 48 = .ok (.iload_n 1, 1) := by decide +kernel
theorem dX6_put_49 : decode cX6_put 49 = .ok (.imul, 1) := by decide +kernel
theorem dX6_put_50 : decode cX6_put 50 = .ok (.iload_n 2, 1) := by decide +kernel
theorem dX6_put_51 : decode cX6_put 51 = .ok (.iadd, 1) := by decide +kernel
theorem dX6_put_52 : decode cX6_put 52 = .ok (.aload_n 0, 1) := by decide +kernel
theorem dX6_put_53 : decode cX6_put 53 = .ok (.getfield 28, 3) := by decide +kernel
theorem dX6_put_56 : decode cX6_put 56 = .ok (.iload_n 1, 1) := by decide +kernel
theorem dX6_put_57 : decode cX6_put 57 = .ok (.iaload, 1) := by decide +kernel
theorem dX6_put_58 : decode cX6_put 58 = .ok (.ifCond .ne 8, 3) := by decide +kernel
theorem dX6_put_61 : decode cX6_put 61 = .ok (.iload_n 3, 1) := by decide +kernel
theorem dX6_put_62 : decode cX6_put 62 = .ok (.i2b, 1) := by decide +kernel
theorem dX6_put_63 : decode cX6_put 63 = .ok (.goto 19, 3) := by decide +kernel
theorem dX6_put_66 : decode cX6_put 66 = .ok (.aload_n 0, 1) := by decide +kernel
theorem dX6_put_67 : decode cX6_put 67 = .ok (.getfield 28, 3) := by decide +kernel
theorem dX6_put_70 : decode cX6_put 70 = .ok (.iload_n 1, 1) := by decide +kernel
theorem dX6_put_71 : decode cX6_put 71 = .ok (.iaload, 1) := by decide +kernel
theorem dX6_put_72 : decode cX6_put 72 = .ok (.iconst 1, 1) := by decide +kernel
theorem dX6_put_73 : decode cX6_put 73 = .ok (.if_icmp .ne 8, 3) := by decide +kernel
theorem dX6_put_76 : decode cX6_put 76 = .ok (.iload_n 3, 1) := by decide +kernel
theorem dX6_put_77 : decode cX6_put 77 = .ok (.i2s, 1) := by decide +kernel
theorem dX6_put_78 : decode cX6_put 78 = .ok (.goto 4, 3) := by decide +kernel
theorem dX6_put_81 : decode cX6_put 81 = .ok (.iload_n 3, 1) := by decide +kernel
theorem dX6_put_82 : decode cX6_put 82 = .ok (.iastore, 1) := by decide +kernel
theorem dX6_put_83 : decode cX6_put 83 = .ok (.iconst 1, 1) := by decide +kernel
theorem dX6_put_84 : decode cX6_put 84 = .ok (.ireturn, 1) := by decide +kernel
theorem dX6_lacks_0 : decode cX6_lacks 0 = .ok (.aload_n 0, 1) := by decide +kernel
theorem dX6_lacks_1 : decode cX6_lacks 1 = .ok (.getfield 28, 3) := by decide +kernel
theorem dX6_lacks_4 : decode cX6_lacks 4 = .ok (.iload_n 1, 1) := by decide +kernel
theorem dX6_lacks_5 : decode cX6_lacks 5 = .ok (.iaload, 1) := by decide +kernel
theorem dX6_lacks_6 : decode cX6_lacks 6 = .ok (.ifCond .ge 8, 3) := by decide +kernel
theorem dX6_lacks_9 : decode cX6_lacks 9 = .ok (.bipush (-11), 2) := by decide +kernel
theorem dX6_lacks_11 : decode cX6_lacks 11 = .ok (.goto 19, 3) := by decide +kernel
theorem dX6_lacks_14 : decode cX6_lacks 14 = .ok (.aload_n 0, 1) := by decide +kernel
theorem dX6_lacks_15 : decode cX6_lacks 15 = .ok (.getfield 28, 3) := by decide +kernel
theorem dX6_lacks_18 : decode cX6_lacks 18 = .ok (.iload_n 1, 1) := by decide +kernel
theorem dX6_lacks_19 : decode cX6_lacks 19 = .ok (.iaload, 1) := by decide +kernel
theorem dX6_lacks_20 : decode cX6_lacks 20 = .ok (.iload_n 2, 1) := by decide +kernel
theorem dX6_lacks_21 : decode cX6_lacks 21 = .ok (.if_icmp .eq 8, 3) := by decide +kernel
theorem dX6_lacks_24 : decode cX6_lacks 24 = .ok (.bipush (-13), 2) := by decide +kernel
theorem dX6_lacks_26 : decode cX6_lacks 26 = .ok (.goto 4, 3) := by decide +kernel
theorem dX6_lacks_29 : decode cX6_lacks 29 = .ok (.iconst 0, 1) := by decide +kernel
theorem dX6_lacks_30 : decode cX6_lacks 30 = .ok (.ireturn, 1) := by decide +kernel
theorem dX6_item_0 : decode cX6_item 0 = .ok (.iload_n 1, 1) := by decide +kernel
theorem dX6_item_1 : decode cX6_item 1 = .ok (.invokestatic 258, 3) := by decide +kernel
theorem dX6_item_4 : decode cX6_item 4 = .ok (.ifCond .eq 15, 3) := by decide +kernel
theorem dX6_item_7 : decode cX6_item 7 = .ok (.iload_n 2, 1) := by decide +kernel
theorem dX6_item_8 : decode cX6_item 8 = .ok (.i2l, 1) := by decide +kernel
theorem dX6_item_9 : decode cX6_item 9 = .ok (.lconst 0, 1) := by decide +kernel
theorem dX6_item_10 : decode cX6_item 10 = .ok (.ldc2_w 154, 3) := by decide +kernel
theorem dX6_item_13 : decode cX6_item 13 = .ok (.invokestatic 54, 3) := by decide +kernel
theorem dX6_item_16 : decode cX6_item 16 = .ok (.ifCond .ne 5, 3) := by decide +kernel
theorem dX6_item_19 : decode cX6_item 19 = .ok (.iconst (-1), 1) := by decide +kernel
theorem dX6_item_20 : decode cX6_item 20 = .ok (.ireturn, 1) := by decide +kernel
theorem dX6_item_21 : decode cX6_item 21 = .ok (.aload_n 0, 1) := by decide +kernel
theorem dX6_item_22 : decode cX6_item 22 = .ok (.iload_n 1, 1) := by decide +kernel
theorem dX6_item_23 : decode cX6_item 23 = .ok (.iload_n 2, 1) := by decide +kernel
theorem dX6_item_24 : decode cX6_item 24 = .ok (.invokevirtual 281, 3) := by decide +kernel
theorem dX6_item_27 : decode cX6_item 27 = .ok (.ifCond .eq 10, 3) := by decide +kernel
theorem dX6_item_30 : decode cX6_item 30 = .ok (.aload_n 0, 1) := by decide +kernel
theorem dX6_item_31 : decode cX6_item 31 = .ok (.iload_n 1, 1) := by decide +kernel
theorem dX6_item_32 : decode cX6_item 32 = .ok (.iload_n 2, 1) := by decide +kernel
theorem dX6_item_33 : decode cX6_item 33 = .ok (.invokevirtual 281, 3) := by decide +kernel
theorem dX6_item_36 : decode cX6_item 36 = .ok (.ireturn, 1) := by decide +kernel
theorem dX6_item_37 : decode cX6_item 37 = .ok (.iload_n 3, 1) := by decide +kernel
theorem dX6_item_38 : decode cX6_item 38 = .ok (.i2l, 1) := by decide +kernel
theorem dX6_item_39 : decode cX6_item 39 = .ok (.lconst 0, 1) := by decide +kernel
theorem dX6_item_40 : decode cX6_item 40 = .ok (.aload_n 0, 1) := by decide +kernel
theorem dX6_item_41 : decode cX6_item 41 = .ok (.getfield 31, 3) := by decide +kernel
theorem dX6_item_44 : decode cX6_item 44 = .ok (.iload_n 1, 1) := by decide +kernel
theorem dX6_item_45 : decode cX6_item 45 = .ok (.iaload, 1) := by decide +kernel
theorem dX6_item_46 : decode cX6_item 46 = .ok (.iconst 1, 1) := by decide +kernel
theorem dX6_item_47 : decode cX6_item 47 = .ok (.isub, 1) := by decide +kernel
theorem dX6_item_48 : decode cX6_item 48 = .ok (.i2l, 1) := by decide +kernel
theorem dX6_item_49 : decode cX6_item 49 = .ok (.invokestatic 54, 3) := by decide +kernel
theorem dX6_item_52 : decode cX6_item 52 = .ok (.ifCond .eq 17, 3) := by decide +kernel
theorem dX6_item_55 : decode cX6_item 55 = .ok (.aload_n 0, 1) := by decide +kernel
theorem dX6_item_56 : decode cX6_item 56 = .ok (.getfield 34, 3) := by decide +kernel
theorem dX6_item_59 : decode cX6_item 59 = .ok (.bipush 40, 2) := by decide +kernel
theorem dX6_item_61 : decode cX6_item 61 = .ok (.iload_n 1, 1) := by decide +kernel
theorem dX6_item_62 : decode cX6_item 62 = .ok (.imul, 1) := by decide +kernel
theorem dX6_item_63 : decode cX6_item 63 = .ok (.iload_n 3, 1) := by decide +kernel
theorem dX6_item_64 : decode cX6_item 64 = .ok (.iadd, 1) := by decide +kernel
theorem dX6_item_65 : decode cX6_item 65 = .ok (.iaload, 1) := by decide +kernel
theorem dX6_item_66 : decode cX6_item 66 = .ok (.goto 5, 3) := by decide +kernel
theorem dX6_item_69 : decode cX6_item 69 = .ok (.bipush (-12), 2) := by decide +kernel
theorem dX6_item_71 : decode cX6_item 71 = .ok (.ireturn, 1) := by decide +kernel
theorem dX6_minds_0 : decode cX6_minds 0 = .ok (.iload_n 1, 1) := by decide +kernel
theorem dX6_minds_1 : decode cX6_minds 1 = .ok (.invokestatic 258, 3) := by decide +kernel
theorem dX6_minds_4 : decode cX6_minds 4 = .ok (.ifCond .eq 37, 3) := by decide +kernel
theorem dX6_minds_7 : decode cX6_minds 7 = .ok (.aload_n 0, 1) := by decide +kernel
theorem dX6_minds_8 : decode cX6_minds 8 = .ok (.iload_n 3, 1) := by decide +kernel
theorem dX6_minds_9 : decode cX6_minds 9 = .ok (.invokevirtual 173, 3) := by decide +kernel
theorem dX6_minds_12 : decode cX6_minds 12 = .ok (.ifCond .eq 29, 3) := by decide +kernel
theorem dX6_minds_15 : decode cX6_minds 15 = .ok (.iload 4, 2) := by decide +kernel
theorem dX6_minds_17 : decode cX6_minds 17 = .ok (.i2l, 1) := by decide +kernel
theorem dX6_minds_18 : decode cX6_minds 18 = .ok (.lconst 0, 1) := by decide +kernel
theorem dX6_minds_19 : decode cX6_minds 19 = .ok (.ldc2_w 52, 3) := by decide +kernel
theorem dX6_minds_22 : decode cX6_minds 22 = .ok (.invokestatic 54, 3) := by decide +kernel
theorem dX6_minds_25 : decode cX6_minds 25 = .ok (.ifCond .eq 16, 3) := by decide +kernel
theorem dX6_minds_28 : decode cX6_minds 28 = .ok (.iload_n 3, 1) := by decide +kernel
theorem dX6_minds_29 : decode cX6_minds 29 = .ok (.iload 4, 2) := by decide +kernel
theorem dX6_minds_31 : decode cX6_minds 31 = .ok (.iadd, 1) := by decide +kernel
theorem dX6_minds_32 : decode cX6_minds 32 = .ok (.aload_n 0, 1) := by decide +kernel
theorem dX6_minds_33 : decode cX6_minds 33 = .ok (.getfield 7, 3) := by decide +kernel
theorem dX6_minds_36 : decode cX6_minds 36 = .ok (.iconst 0, 1) := by decide +kernel
theorem dX6_minds_37 : decode cX6_minds 37 = .ok (.iaload, 1) := by decide +kernel
theorem dX6_minds_38 : decode cX6_minds 38 = .ok (.if_icmp .le 5, 3) := by decide +kernel
theorem dX6_minds_41 : decode cX6_minds 41 = .ok (.iconst (-1), 1) := by decide +kernel
theorem dX6_minds_42 : decode cX6_minds 42 = .ok (.ireturn, 1) := by decide +kernel
theorem dX6_minds_43 : decode cX6_minds 43 = .ok (.aload_n 0, 1) := by decide +kernel
theorem dX6_minds_44 : decode cX6_minds 44 = .ok (.iload_n 1, 1) := by decide +kernel
theorem dX6_minds_45 : decode cX6_minds 45 = .ok (.iconst 0, 1) := by decide +kernel
theorem dX6_minds_46 : decode cX6_minds 46 = .ok (.invokevirtual 281, 3) := by decide +kernel
theorem dX6_minds_49 : decode cX6_minds 49 = .ok (.ifCond .eq 10, 3) := by decide +kernel
theorem dX6_minds_52 : decode cX6_minds 52 = .ok (.aload_n 0, 1) := by decide +kernel
theorem dX6_minds_53 : decode cX6_minds 53 = .ok (.iload_n 1, 1) := by decide +kernel
theorem dX6_minds_54 : decode cX6_minds 54 = .ok (.iconst 0, 1) := by decide +kernel
theorem dX6_minds_55 : decode cX6_minds 55 = .ok (.invokevirtual 281, 3) := by decide +kernel
theorem dX6_minds_58 : decode cX6_minds 58 = .ok (.ireturn, 1) := by decide +kernel
theorem dX6_minds_59 : decode cX6_minds 59 = .ok (.iload_n 2, 1) := by decide +kernel
theorem dX6_minds_60 : decode cX6_minds 60 = .ok (.i2l, 1) := by decide +kernel
theorem dX6_minds_61 : decode cX6_minds 61 = .ok (.lconst 0, 1) := by decide +kernel
theorem dX6_minds_62 : decode cX6_minds 62 = .ok (.aload_n 0, 1) := by decide +kernel
theorem dX6_minds_63 : decode cX6_minds 63 = .ok (.getfield 31, 3) := by decide +kernel
theorem dX6_minds_66 : decode cX6_minds 66 = .ok (.iload_n 1, 1) := by decide +kernel
theorem dX6_minds_67 : decode cX6_minds 67 = .ok (.iaload, 1) := by decide +kernel
theorem dX6_minds_68 : decode cX6_minds 68 = .ok (.i2l, 1) := by decide +kernel
theorem dX6_minds_69 : decode cX6_minds 69 = .ok (.invokestatic 54, 3) := by decide +kernel
theorem dX6_minds_72 : decode cX6_minds 72 = .ok (.ifCond .eq 20, 3) := by decide +kernel
theorem dX6_minds_75 : decode cX6_minds 75 = .ok (.iload_n 2, 1) := by decide +kernel
theorem dX6_minds_76 : decode cX6_minds 76 = .ok (.i2l, 1) := by decide +kernel
theorem dX6_minds_77 : decode cX6_minds 77 = .ok (.iload 4, 2) := by decide +kernel
theorem dX6_minds_79 : decode cX6_minds 79 = .ok (.i2l, 1) := by decide +kernel
theorem dX6_minds_80 : decode cX6_minds 80 = .ok (.ladd, 1) := by decide +kernel
theorem dX6_minds_81 : decode cX6_minds 81 = .ok (.aload_n 0, 1) := by decide +kernel
theorem dX6_minds_82 : decode cX6_minds 82 = .ok (.getfield 31, 3) := by decide +kernel
theorem dX6_minds_85 : decode cX6_minds 85 = .ok (.iload_n 1, 1) := by decide +kernel
theorem dX6_minds_86 : decode cX6_minds 86 = .ok (.iaload, 1) := by decide +kernel
theorem dX6_minds_87 : decode cX6_minds 87 = .ok (.i2l, 1) := by decide +kernel
theorem dX6_minds_88 : decode cX6_minds 88 = .ok (.lcmp, 1) := by decide +kernel
theorem dX6_minds_89 : decode cX6_minds 89 = .ok (.ifCond .le 6, 3) := by decide +kernel
theorem dX6_minds_92 : decode cX6_minds 92 = .ok (.bipush (-12), 2) := by decide +kernel
theorem dX6_minds_94 : decode cX6_minds 94 = .ok (.ireturn, 1) := by decide +kernel
theorem dX6_minds_95 : decode cX6_minds 95 = .ok (.iconst 0, 1) := by decide +kernel
theorem dX6_minds_96 : decode cX6_minds 96 = .ok (.istore 5, 2) := by decide +kernel
theorem dX6_minds_98 : decode cX6_minds 98 = .ok (.iload 5, 2) := by decide +kernel
theorem dX6_minds_100 : decode cX6_minds 100 = .ok (.iload 4, 2) := by decide +kernel
theorem dX6_minds_102 : decode cX6_minds 102 = .ok (.if_icmp .ge 42, 3) := by decide +kernel
theorem dX6_minds_105 : decode cX6_minds 105 = .ok (.aload_n 0, 1) := by decide +kernel
theorem dX6_minds_106 : decode cX6_minds 106 = .ok (.getfield 7, 3) := by decide +kernel
theorem dX6_minds_109 : decode cX6_minds 109 = .ok (.bipush 31, 2) := by decide +kernel
theorem dX6_minds_111 : decode cX6_minds 111 = .ok (.iconst 4, 1) := by decide +kernel
theorem dX6_minds_112 : decode cX6_minds 112 = .ok (.iload_n 3, 1) := by decide +kernel
theorem dX6_minds_113 : decode cX6_minds 113 = .ok (.iload 5, 2) := by decide +kernel
theorem dX6_minds_115 : decode cX6_minds 115 = .ok (.iadd, 1) := by decide +kernel
theorem dX6_minds_116 : decode cX6_minds 116 = .ok (.imul, 1) := by decide +kernel
theorem dX6_minds_117 : decode cX6_minds 117 = .ok (.iadd, 1) := by decide +kernel
theorem dX6_minds_118 : decode cX6_minds 118 = .ok (.iconst 1, 1) := by decide +kernel
theorem dX6_minds_119 : decode cX6_minds 119 = .ok (.iadd, 1) := by decide +kernel
theorem dX6_minds_120 : decode cX6_minds 120 = .ok (.aload_n 0, 1) := by decide +kernel
theorem dX6_minds_121 : decode cX6_minds 121 = .ok (.getfield 34, 3) := by decide +kernel
theorem dX6_minds_124 : decode cX6_minds 124 = .ok (.bipush 40, 2) := by decide +kernel
theorem dX6_minds_126 : decode cX6_minds 126 = .ok (.iload_n 1, 1) := by decide +kernel
theorem dX6_minds_127 : decode cX6_minds 127 = .ok (.imul, 1) := by decide +kernel
theorem dX6_minds_128 : decode cX6_minds 128 = .ok (.iload_n 2, 1) := by decide +kernel
theorem dX6_minds_129 : decode cX6_minds 129 = .ok (.iadd, 1) := by decide +kernel
theorem dX6_minds_130 : decode cX6_minds 130 = .ok (.iload 5, 2) := by decide +kernel
theorem dX6_minds_132 : decode cX6_minds 132 = .ok (.iadd, 1) := by decide +kernel
theorem dX6_minds_133 : decode cX6_minds 133 = .ok (.iaload, 1) := by decide +kernel
theorem dX6_minds_134 : decode cX6_minds 134 = .ok (.invokestatic 198, 3) := by decide +kernel
theorem dX6_minds_137 : decode cX6_minds 137 = .ok (.iastore, 1) := by decide +kernel
theorem dX6_minds_138 : decode cX6_minds 138 = .ok (.iinc 5 1, 3) := by decide +kernel
theorem dX6_minds_141 : decode cX6_minds 141 = .ok (.goto (-43), 3) := by decide +kernel
theorem dX6_minds_144 : decode cX6_minds 144 = .ok (.iload 4, 2) := by decide +kernel
theorem dX6_minds_146 : decode cX6_minds 146 = .ok (.ireturn, 1) := by decide +kernel
theorem dX6_shelf_0 : decode cX6_shelf 0 = .ok (.iload_n 1, 1) := by decide +kernel
theorem dX6_shelf_1 : decode cX6_shelf 1 = .ok (.invokestatic 284, 3) := by decide +kernel
theorem dX6_shelf_4 : decode cX6_shelf 4 = .ok (.ifCond .eq 39, 3) := by decide +kernel
theorem dX6_shelf_7 : decode cX6_shelf 7 = .ok (.iload_n 2, 1) := by decide +kernel
theorem dX6_shelf_8 : decode cX6_shelf 8 = .ok (.i2l, 1) := by decide +kernel
theorem dX6_shelf_9 : decode cX6_shelf 9 = .ok (.lconst 0, 1) := by decide +kernel
theorem dX6_shelf_10 : decode cX6_shelf 10 = .ok (.ldc2_w 185, 3) := by decide +kernel
theorem dX6_shelf_13 : decode cX6_shelf 13 = .ok (.invokestatic 54, 3) := by decide +kernel
theorem dX6_shelf_16 : decode cX6_shelf 16 = .ok (.ifCond .eq 27, 3) := by decide +kernel
theorem dX6_shelf_19 : decode cX6_shelf 19 = .ok (.iload_n 2, 1) := by decide +kernel
theorem dX6_shelf_20 : decode cX6_shelf 20 = .ok (.ifCond .ne 11, 3) := by decide +kernel
theorem dX6_shelf_23 : decode cX6_shelf 23 = .ok (.aload_n 0, 1) := by decide +kernel
theorem dX6_shelf_24 : decode cX6_shelf 24 = .ok (.iload_n 3, 1) := by decide +kernel
theorem dX6_shelf_25 : decode cX6_shelf 25 = .ok (.invokevirtual 173, 3) := by decide +kernel
theorem dX6_shelf_28 : decode cX6_shelf 28 = .ok (.ifCond .eq 15, 3) := by decide +kernel
theorem dX6_shelf_31 : decode cX6_shelf 31 = .ok (.iload_n 2, 1) := by decide +kernel
theorem dX6_shelf_32 : decode cX6_shelf 32 = .ok (.iconst 1, 1) := by decide +kernel
theorem dX6_shelf_33 : decode cX6_shelf 33 = .ok (.if_icmp .ne 12, 3) := by decide +kernel
theorem dX6_shelf_36 : decode cX6_shelf 36 = .ok (.iload_n 3, 1) := by decide +kernel
theorem dX6_shelf_37 : decode cX6_shelf 37 = .ok (.invokestatic 258, 3) := by decide +kernel
theorem dX6_shelf_40 : decode cX6_shelf 40 = .ok (.ifCond .ne 5, 3) := by decide +kernel
theorem dX6_shelf_43 : decode cX6_shelf 43 = .ok (.iconst (-1), 1) := by decide +kernel
theorem dX6_shelf_44 : decode cX6_shelf 44 = .ok (.ireturn, 1) := by decide +kernel
theorem dX6_shelf_45 : decode cX6_shelf 45 = .ok (.iload_n 2, 1) := by decide +kernel
theorem dX6_shelf_46 : decode cX6_shelf 46 = .ok (.iconst 1, 1) := by decide +kernel
theorem dX6_shelf_47 : decode cX6_shelf 47 = .ok (.if_icmp .ne 16, 3) := by decide +kernel
theorem dX6_shelf_50 : decode cX6_shelf 50 = .ok (.aload_n 0, 1) := by decide +kernel
theorem dX6_shelf_51 : decode cX6_shelf 51 = .ok (.getfield 28, 3) := by decide +kernel
theorem dX6_shelf_54 : decode cX6_shelf 54 = .ok (.iload_n 3, 1) := by decide +kernel
theorem dX6_shelf_55 : decode cX6_shelf 55 = .ok (.iaload, 1) := by decide +kernel
theorem dX6_shelf_56 : decode cX6_shelf 56 = .ok (.ifCond .lt 7, 3) := by decide +kernel
theorem dX6_shelf_59 : decode cX6_shelf 59 = .ok (.iconst 1, 1) := by decide +kernel
theorem dX6_shelf_60 : decode cX6_shelf 60 = .ok (.goto 4, 3) := by decide +kernel
theorem dX6_shelf_63 : decode cX6_shelf 63 = .ok (.iconst 0, 1) := by decide +kernel
theorem dX6_shelf_64 : decode cX6_shelf 64 = .ok (.istore 4, 2) := by decide +kernel
theorem dX6_shelf_66 : decode cX6_shelf 66 = .ok (.aload_n 0, 1) := by decide +kernel
theorem dX6_shelf_67 : decode cX6_shelf 67 = .ok (.getfield 37, 3) := by decide +kernel
theorem dX6_shelf_70 : decode cX6_shelf 70 = .ok (.iload_n 1, 1) := by decide +kernel
theorem dX6_shelf_71 : decode cX6_shelf 71 = .ok (.iload_n 2, 1) := by decide +kernel
theorem dX6_shelf_72 : decode cX6_shelf 72 = .ok (.ifCond .ne 7, 3) := by decide +kernel
theorem dX6_shelf_75 : decode cX6_shelf 75 = .ok (.iconst 1, 1) := by decide +kernel
theorem dX6_shelf_76 : decode cX6_shelf 76 = .ok (.goto 13, 3) := by decide +kernel
theorem dX6_shelf_79 : decode cX6_shelf 79 = .ok (.iload 4, 2) := by decide +kernel
theorem dX6_shelf_81 : decode cX6_shelf 81 = .ok (.ifCond .eq 7, 3) := by decide +kernel
theorem dX6_shelf_84 : decode cX6_shelf 84 = .ok (.iconst 2, 1) := by decide +kernel
theorem dX6_shelf_85 : decode cX6_shelf 85 = .ok (.goto 4, 3) := by decide +kernel
theorem dX6_shelf_88 : decode cX6_shelf 88 = .ok (.iconst 0, 1) := by decide +kernel
theorem dX6_shelf_89 : decode cX6_shelf 89 = .ok (.iastore, 1) := by decide +kernel
theorem dX6_shelf_90 : decode cX6_shelf 90 = .ok (.aload_n 0, 1) := by decide +kernel
theorem dX6_shelf_91 : decode cX6_shelf 91 = .ok (.getfield 40, 3) := by decide +kernel
theorem dX6_shelf_94 : decode cX6_shelf 94 = .ok (.iload_n 1, 1) := by decide +kernel
theorem dX6_shelf_95 : decode cX6_shelf 95 = .ok (.iload_n 2, 1) := by decide +kernel
theorem dX6_shelf_96 : decode cX6_shelf 96 = .ok (.ifCond .ne 7, 3) := by decide +kernel
theorem dX6_shelf_99 : decode cX6_shelf 99 = .ok (.iload_n 3, 1) := by decide +kernel
theorem dX6_shelf_100 : decode cX6_shelf 100 = .ok (.goto 18, 3) := by decide +kernel
theorem dX6_shelf_103 : decode cX6_shelf 103 = .ok (.iload 4, 2) := by decide +kernel
theorem dX6_shelf_105 : decode cX6_shelf 105 = .ok (.ifCond .eq 12, 3) := by decide +kernel
theorem dX6_shelf_108 : decode cX6_shelf 108 = .ok (.aload_n 0, 1) := by decide +kernel
theorem dX6_shelf_109 : decode cX6_shelf 109 = .ok (.getfield 28, 3) := by decide +kernel
theorem dX6_shelf_112 : decode cX6_shelf 112 = .ok (.iload_n 3, 1) := by decide +kernel
theorem dX6_shelf_113 : decode cX6_shelf 113 = .ok (.iaload, 1) := by decide +kernel
theorem dX6_shelf_114 : decode cX6_shelf 114 = .ok (.goto 4, 3) := by decide +kernel
theorem dX6_shelf_117 : decode cX6_shelf 117 = .ok (.iconst 0, 1) := by decide +kernel
theorem dX6_shelf_118 : decode cX6_shelf 118 = .ok (.iastore, 1) := by decide +kernel
theorem dX6_shelf_119 : decode cX6_shelf 119 = .ok (.aload_n 0, 1) := by decide +kernel
theorem dX6_shelf_120 : decode cX6_shelf 120 = .ok (.getfield 43, 3) := by decide +kernel
theorem dX6_shelf_123 : decode cX6_shelf 123 = .ok (.iload_n 1, 1) := by decide +kernel
theorem dX6_shelf_124 : decode cX6_shelf 124 = .ok (.iload 4, 2) := by decide +kernel
theorem dX6_shelf_126 : decode cX6_shelf 126 = .ok (.ifCond .eq 12, 3) := by decide +kernel
theorem dX6_shelf_129 : decode cX6_shelf 129 = .ok (.aload_n 0, 1) := by decide +kernel
theorem dX6_shelf_130 : decode cX6_shelf 130 = .ok (.getfield 31, 3) := by decide +kernel
theorem dX6_shelf_133 : decode cX6_shelf 133 = .ok (.iload_n 3, 1) := by decide +kernel
theorem dX6_shelf_134 : decode cX6_shelf 134 = .ok (.iaload, 1) := by decide +kernel
theorem dX6_shelf_135 : decode cX6_shelf 135 = .ok (.goto 4, 3) := by decide +kernel
theorem dX6_shelf_138 : decode cX6_shelf 138 = .ok (.iconst 0, 1) := by decide +kernel
theorem dX6_shelf_139 : decode cX6_shelf 139 = .ok (.iastore, 1) := by decide +kernel
theorem dX6_shelf_140 : decode cX6_shelf 140 = .ok (.iconst 1, 1) := by decide +kernel
theorem dX6_shelf_141 : decode cX6_shelf 141 = .ok (.ireturn, 1) := by decide +kernel
theorem dX6_heldOn_0 : decode cX6_heldOn 0 = .ok (.aload_n 0, 1) := by decide +kernel
theorem dX6_heldOn_1 : decode cX6_heldOn 1 = .ok (.getfield 37, 3) := by decide +kernel
theorem dX6_heldOn_4 : decode cX6_heldOn 4 = .ok (.iload_n 1, 1) := by decide +kernel
theorem dX6_heldOn_5 : decode cX6_heldOn 5 = .ok (.iaload, 1) := by decide +kernel
theorem dX6_heldOn_6 : decode cX6_heldOn 6 = .ok (.iconst 1, 1) := by decide +kernel
theorem dX6_heldOn_7 : decode cX6_heldOn 7 = .ok (.if_icmp .ne 20, 3) := by decide +kernel
theorem dX6_heldOn_10 : decode cX6_heldOn 10 = .ok (.aload_n 0, 1) := by decide +kernel
theorem dX6_heldOn_11 : decode cX6_heldOn 11 = .ok (.aload_n 0, 1) := by decide +kernel
theorem dX6_heldOn_12 : decode cX6_heldOn 12 = .ok (.getfield 40, 3) := by decide +kernel
theorem dX6_heldOn_15 : decode cX6_heldOn 15 = .ok (.iload_n 1, 1) := by decide +kernel
theorem dX6_heldOn_16 : decode cX6_heldOn 16 = .ok (.iaload, 1) := by decide +kernel
theorem dX6_heldOn_17 : decode cX6_heldOn 17 = .ok (.invokevirtual 173, 3) := by decide +kernel
theorem dX6_heldOn_20 : decode cX6_heldOn 20 = .ok (.ifCond .ne 7, 3) := by decide +kernel
theorem dX6_heldOn_23 : decode cX6_heldOn 23 = .ok (.iconst 0, 1) := by decide +kernel
theorem dX6_heldOn_24 : decode cX6_heldOn 24 = .ok (.goto 9, 3) := by decide +kernel
theorem dX6_heldOn_27 : decode cX6_heldOn 27 = .ok (.aload_n 0, 1) := by decide +kernel
theorem dX6_heldOn_28 : decode cX6_heldOn 28 = .ok (.getfield 37, 3) := by decide +kernel
theorem dX6_heldOn_31 : decode cX6_heldOn 31 = .ok (.iload_n 1, 1) := by decide +kernel
theorem dX6_heldOn_32 : decode cX6_heldOn 32 = .ok (.iaload, 1) := by decide +kernel
theorem dX6_heldOn_33 : decode cX6_heldOn 33 = .ok (.ireturn, 1) := by decide +kernel
theorem dX6_taken_0 : decode cX6_taken 0 = .ok (.iload_n 1, 1) := by decide +kernel
theorem dX6_taken_1 : decode cX6_taken 1 = .ok (.invokestatic 284, 3) := by decide +kernel
theorem dX6_taken_4 : decode cX6_taken 4 = .ok (.ifCond .eq 29, 3) := by decide +kernel
theorem dX6_taken_7 : decode cX6_taken 7 = .ok (.iload_n 2, 1) := by decide +kernel
theorem dX6_taken_8 : decode cX6_taken 8 = .ok (.i2l, 1) := by decide +kernel
theorem dX6_taken_9 : decode cX6_taken 9 = .ok (.lconst 0, 1) := by decide +kernel
theorem dX6_taken_10 : decode cX6_taken 10 = .ok (.ldc2_w 287, 3) := by decide +kernel
theorem dX6_taken_13 : decode cX6_taken 13 = .ok (.invokestatic 54, 3) := by decide +kernel
theorem dX6_taken_16 : decode cX6_taken 16 = .ok (.ifCond .eq 17, 3) := by decide +kernel
theorem dX6_taken_19 : decode cX6_taken 19 = .ok (.iload_n 2, 1) := by decide +kernel
theorem dX6_taken_20 : decode cX6_taken 20 = .ok (.i2l, 1) := by decide +kernel
theorem dX6_taken_21 : decode cX6_taken 21 = .ok (.ldc2_w 289, 3) := by decide +kernel
theorem dX6_taken_24 : decode cX6_taken 24 = .ok (.ldc2_w 291, 3) := by decide +kernel
theorem dX6_taken_27 : decode cX6_taken 27 = .ok (.invokestatic 54, 3) := by decide +kernel
theorem dX6_taken_30 : decode cX6_taken 30 = .ok (.ifCond .eq 5, 3) := by decide +kernel
theorem dX6_taken_33 : decode cX6_taken 33 = .ok (.iconst (-1), 1) := by decide +kernel
theorem dX6_taken_34 : decode cX6_taken 34 = .ok (.ireturn, 1) := by decide +kernel
theorem dX6_taken_35 : decode cX6_taken 35 = .ok (.aload_n 0, 1) := by decide +kernel
theorem dX6_taken_36 : decode cX6_taken 36 = .ok (.iload_n 1, 1) := by decide +kernel
theorem dX6_taken_37 : decode cX6_taken 37 = .ok (.invokevirtual 293, 3) := by decide +kernel
theorem dX6_taken_40 : decode cX6_taken 40 = .ok (.istore_n 3, 1) := by decide +kernel
theorem dX6_taken_41 : decode cX6_taken 41 = .ok (.iload_n 3, 1) := by decide +kernel
theorem dX6_taken_42 : decode cX6_taken 42 = .ok (.ifCond .ne 6, 3) := by decide +kernel
theorem dX6_taken_45 : decode cX6_taken 45 = .ok (.bipush (-11), 2) := by decide +kernel
theorem dX6_taken_47 : decode cX6_taken 47 = .ok (.ireturn, 1) := by decide +kernel
theorem dX6_taken_48 : decode cX6_taken 48 = .ok (.iload_n 2, 1) := by decide +kernel
theorem dX6_taken_49 : decode cX6_taken 49 = .ok (.bipush 10, 2) := by decide +kernel
theorem dX6_taken_51 : decode cX6_taken 51 = .ok (.if_icmp .ge 38, 3) := by decide +kernel
theorem dX6_taken_54 : decode cX6_taken 54 = .ok (.iload_n 3, 1) := by decide +kernel
theorem dX6_taken_55 : decode cX6_taken 55 = .ok (.iconst 1, 1) := by decide +kernel
theorem dX6_taken_56 : decode cX6_taken 56 = .ok (.if_icmp .ne 30, 3) := by decide +kernel
theorem dX6_taken_59 : decode cX6_taken 59 = .ok (.aload_n 0, 1) := by decide +kernel
theorem dX6_taken_60 : decode cX6_taken 60 = .ok (.aload_n 0, 1) := by decide +kernel
theorem dX6_taken_61 : decode cX6_taken 61 = .ok (.getfield 40, 3) := by decide +kernel
theorem dX6_taken_64 : decode cX6_taken 64 = .ok (.iload_n 1, 1) := by decide +kernel
theorem dX6_taken_65 : decode cX6_taken 65 = .ok (.iaload, 1) := by decide +kernel
theorem dX6_taken_66 : decode cX6_taken 66 = .ok (.iconst 0, 1) := by decide +kernel
theorem dX6_taken_67 : decode cX6_taken 67 = .ok (.invokevirtual 167, 3) := by decide +kernel
theorem dX6_taken_70 : decode cX6_taken 70 = .ok (.iload_n 2, 1) := by decide +kernel
theorem dX6_taken_71 : decode cX6_taken 71 = .ok (.invokestatic 296, 3) := by decide +kernel
theorem dX6_taken_74 : decode cX6_taken 74 = .ok (.ifCond .eq 12, 3) := by decide +kernel
theorem dX6_taken_77 : decode cX6_taken 77 = .ok (.aload_n 0, 1) := by decide +kernel
theorem dX6_taken_78 : decode cX6_taken 78 = .ok (.getfield 40, 3) := by decide +kernel
theorem dX6_taken_81 : decode cX6_taken 81 = .ok (.iload_n 1, 1) := by decide +kernel
theorem dX6_taken_82 : decode cX6_taken 82 = .ok (.iaload, 1) := by decide +kernel
theorem dX6_taken_83 : decode cX6_taken 83 = .ok (.goto 5, 3) := by decide +kernel
theorem dX6_taken_86 : decode cX6_taken 86 = .ok (.bipush (-13), 2) := by decide +kernel
theorem dX6_taken_88 : decode cX6_taken 88 = .ok (.ireturn, 1) := by decide +kernel
theorem dX6_taken_89 : decode cX6_taken 89 = .ok (.iload_n 3, 1) := by decide +kernel
theorem dX6_taken_90 : decode cX6_taken 90 = .ok (.iconst 2, 1) := by decide +kernel
theorem dX6_taken_91 : decode cX6_taken 91 = .ok (.if_icmp .ne 25, 3) := by decide +kernel
theorem dX6_taken_94 : decode cX6_taken 94 = .ok (.aload_n 0, 1) := by decide +kernel
theorem dX6_taken_95 : decode cX6_taken 95 = .ok (.getfield 40, 3) := by decide +kernel
theorem dX6_taken_98 : decode cX6_taken 98 = .ok (.iload_n 1, 1) := by decide +kernel
theorem dX6_taken_99 : decode cX6_taken 99 = .ok (.iaload, 1) := by decide +kernel
theorem dX6_taken_100 : decode cX6_taken 100 = .ok (.iload_n 2, 1) := by decide +kernel
theorem dX6_taken_101 : decode cX6_taken 101 = .ok (.bipush 10, 2) := by decide +kernel
theorem dX6_taken_103 : decode cX6_taken 103 = .ok (.isub, 1) := by decide +kernel
theorem dX6_taken_104 : decode cX6_taken 104 = .ok (.if_icmp .ne 12, 3) := by decide +kernel
theorem dX6_taken_107 : decode cX6_taken 107 = .ok (.aload_n 0, 1) := by decide +kernel
theorem dX6_taken_108 : decode cX6_taken 108 = .ok (.getfield 43, 3) := by decide +kernel
theorem dX6_taken_111 : decode cX6_taken 111 = .ok (.iload_n 1, 1) := by decide +kernel
theorem dX6_taken_112 : decode cX6_taken 112 = .ok (.iaload, 1) := by decide +kernel
theorem dX6_taken_113 : decode cX6_taken 113 = .ok (.goto 5, 3) := by decide +kernel
theorem dX6_taken_116 : decode cX6_taken 116 = .ok (.bipush (-13), 2) := by decide +kernel
theorem dX6_taken_118 : decode cX6_taken 118 = .ok (.ireturn, 1) := by decide +kernel
theorem dX6_runs_0 : decode cX6_runs 0 = .ok (.aload_n 0, 1) := by decide +kernel
theorem dX6_runs_1 : decode cX6_runs 1 = .ok (.getfield 299, 3) := by decide +kernel
theorem dX6_runs_4 : decode cX6_runs 4 = .ok (.bipush 30, 2) := by decide +kernel
theorem dX6_runs_6 : decode cX6_runs 6 = .ok (.if_icmp .ge 23, 3) := by decide +kernel
theorem dX6_runs_9 : decode cX6_runs 9 = .ok (.aload_n 0, 1) := by decide +kernel
theorem dX6_runs_10 : decode cX6_runs 10 = .ok (.getfield 46, 3) := by decide +kernel
theorem dX6_runs_13 : decode cX6_runs 13 = .ok (.aload_n 0, 1) := by decide +kernel
theorem dX6_runs_14 : decode cX6_runs 14 = .ok (.getfield 299, 3) := by decide +kernel
theorem dX6_runs_17 : decode cX6_runs 17 = .ok (.iload_n 1, 1) := by decide +kernel
theorem dX6_runs_18 : decode cX6_runs 18 = .ok (.iastore, 1) := by decide +kernel
theorem dX6_runs_19 : decode cX6_runs 19 = .ok (.aload_n 0, 1) := by decide +kernel
theorem dX6_runs_20 : decode cX6_runs 20 = .ok (.dup, 1) := by decide +kernel
theorem dX6_runs_21 : decode cX6_runs 21 = .ok (.getfield 299, 3) := by decide +kernel
theorem dX6_runs_24 : decode cX6_runs 24 = .ok (.iconst 1, 1) := by decide +kernel
theorem dX6_runs_25 : decode cX6_runs 25 = .ok (.iadd, 1) := by decide +kernel
theorem dX6_runs_26 : decode cX6_runs 26 = .ok (.putfield 299, 3) := by decide +kernel
theorem dX6_runs_29 : decode cX6_runs 29 = .ok (.return_, 1) := by decide +kernel
theorem dX6_steamsPlain_0 : decode cX6_steamsPlain 0 = .ok (.aload_n 0, 1) := by decide +kernel
theorem dX6_steamsPlain_1 : decode cX6_steamsPlain 1 = .ok (.bipush 10, 2) := by decide +kernel
theorem dX6_steamsPlain_3 : decode cX6_steamsPlain 3 = .ok (.invokevirtual 302, 3) := by decide +kernel
theorem dX6_steamsPlain_6 : decode cX6_steamsPlain 6 = .ok (.iload_n 1, 1) := by decide +kernel
theorem dX6_steamsPlain_7 : decode cX6_steamsPlain 7 = .ok (.iconst 2, 1) := by decide +kernel
theorem dX6_steamsPlain_8 : decode cX6_steamsPlain 8 = .ok (.imul, 1) := by decide +kernel
theorem dX6_steamsPlain_9 : decode cX6_steamsPlain 9 = .ok (.aload_n 0, 1) := by decide +kernel
theorem dX6_steamsPlain_10 : decode cX6_steamsPlain 10 = .ok (.getfield 305, 3) := by decide +kernel
theorem dX6_steamsPlain_13 : decode cX6_steamsPlain 13 = .ok (.isub, 1) := by decide +kernel
theorem dX6_steamsPlain_14 : decode cX6_steamsPlain 14 = .ok (.ireturn, 1) := by decide +kernel
theorem dX6_steamsOfRumour_0 : decode cX6_steamsOfRumour 0 = .ok (.aload_n 0, 1) := by decide +kernel
theorem dX6_steamsOfRumour_1 : decode cX6_steamsOfRumour 1 = .ok (.bipush 30, 2) := by decide +kernel
theorem dX6_steamsOfRumour_3 : decode cX6_steamsOfRumour 3 = .ok (.invokevirtual 302, 3) := by decide +kernel
theorem dX6_steamsOfRumour_6 : decode cX6_steamsOfRumour 6 = .ok (.iconst 0, 1) := by decide +kernel
theorem dX6_steamsOfRumour_7 : decode cX6_steamsOfRumour 7 = .ok (.aload_n 0, 1) := by decide +kernel
theorem dX6_steamsOfRumour_8 : decode cX6_steamsOfRumour 8 = .ok (.iload_n 1, 1) := by decide +kernel
theorem dX6_steamsOfRumour_9 : decode cX6_steamsOfRumour 9 = .ok (.invokevirtual 308, 3) := by decide +kernel
theorem dX6_steamsOfRumour_12 : decode cX6_steamsOfRumour 12 = .ok (.isub, 1) := by decide +kernel
theorem dX6_steamsOfRumour_13 : decode cX6_steamsOfRumour 13 = .ok (.ireturn, 1) := by decide +kernel
theorem dX6_steams_0 : decode cX6_steams 0 = .ok (.aload_n 0, 1) := by decide +kernel
theorem dX6_steams_1 : decode cX6_steams 1 = .ok (.getfield 311, 3) := by decide +kernel
theorem dX6_steams_4 : decode cX6_steams 4 = .ok (.tableswitch 65 2 4 #[28, 48, 34], 28) := by decide +kernel
theorem dX6_steams_32 : decode cX6_steams 32 = .ok (.aload_n 0, 1) := by decide +kernel
theorem dX6_steams_33 : decode cX6_steams 33 = .ok (.iload_n 1, 1) := by decide +kernel
theorem dX6_steams_34 : decode cX6_steams 34 = .ok (.invokevirtual 314, 3) := by decide +kernel
theorem dX6_steams_37 : decode cX6_steams 37 = .ok (.ireturn, 1) := by decide +kernel
theorem dX6_steams_38 : decode cX6_steams 38 = .ok (.aload_n 0, 1) := by decide +kernel
theorem dX6_steams_39 : decode cX6_steams 39 = .ok (.bipush 40, 2) := by decide +kernel
theorem dX6_steams_41 : decode cX6_steams 41 = .ok (.invokevirtual 302, 3) := by decide +kernel
theorem dX6_steams_44 : decode cX6_steams 44 = .ok (.aload_n 0, 1) := by decide +kernel
theorem dX6_steams_45 : decode cX6_steams 45 = .ok (.iload_n 1, 1) := by decide +kernel
theorem dX6_steams_46 : decode cX6_steams 46 = .ok (.invokevirtual 314, 3) := by decide +kernel
theorem dX6_steams_49 : decode cX6_steams 49 = .ok (.iconst 3, 1) := by decide +kernel
theorem dX6_steams_50 : decode cX6_steams 50 = .ok (.imul, 1) := by decide +kernel
theorem dX6_steams_51 : decode cX6_steams 51 = .ok (.ireturn, 1) := by decide +kernel
theorem dX6_steams_52 : decode cX6_steams 52 = .ok (.aload_n 0, 1) := by decide +kernel
theorem dX6_steams_53 : decode cX6_steams 53 = .ok (.bipush 51, 2) := by decide +kernel
theorem dX6_steams_55 : decode cX6_steams 55 = .ok (.invokevirtual 302, 3) := by decide +kernel
theorem dX6_steams_58 : decode cX6_steams 58 = .ok (.aload_n 0, 1) := by decide +kernel
theorem dX6_steams_59 : decode cX6_steams 59 = .ok (.iload_n 1, 1) := by decide +kernel
theorem dX6_steams_60 : decode cX6_steams 60 = .ok (.invokevirtual 308, 3) := by decide +kernel
theorem dX6_steams_63 : decode cX6_steams 63 = .ok (.aload_n 0, 1) := by decide +kernel
theorem dX6_steams_64 : decode cX6_steams 64 = .ok (.getfield 317, 3) := by decide +kernel
theorem dX6_steams_67 : decode cX6_steams 67 = .ok (.iadd, 1) := by decide +kernel
theorem dX6_steams_68 : decode cX6_steams 68 = .ok (.ireturn, 1) := by decide +kernel
theorem dX6_steams_69 : decode cX6_steams 69 = .ok (.aload_n 0, 1) := by decide +kernel
theorem dX6_steams_70 : decode cX6_steams 70 = .ok (.iload_n 1, 1) := by decide +kernel
theorem dX6_steams_71 : decode cX6_steams 71 = .ok (.invokevirtual 308, 3) := by decide +kernel
theorem dX6_steams_74 : decode cX6_steams 74 = .ok (.ireturn, 1) := by decide +kernel
theorem dX6_smellsPlain_0 : decode cX6_smellsPlain 0 = .ok (.aload_n 0, 1) := by decide +kernel
theorem dX6_smellsPlain_1 : decode cX6_smellsPlain 1 = .ok (.bipush 11, 2) := by decide +kernel
theorem dX6_smellsPlain_3 : decode cX6_smellsPlain 3 = .ok (.invokevirtual 302, 3) := by decide +kernel
theorem dX6_smellsPlain_6 : decode cX6_smellsPlain 6 = .ok (.aload_n 0, 1) := by decide +kernel
theorem dX6_smellsPlain_7 : decode cX6_smellsPlain 7 = .ok (.iload_n 1, 1) := by decide +kernel
theorem dX6_smellsPlain_8 : decode cX6_smellsPlain 8 = .ok (.invokevirtual 320, 3) := by decide +kernel
theorem dX6_smellsPlain_11 : decode cX6_smellsPlain 11 = .ok (.aload_n 0, 1) := by decide +kernel
theorem dX6_smellsPlain_12 : decode cX6_smellsPlain 12 = .ok (.getfield 317, 3) := by decide +kernel
theorem dX6_smellsPlain_15 : decode cX6_smellsPlain 15 = .ok (.iconst 4, 1) := by decide +kernel
theorem dX6_smellsPlain_16 : decode cX6_smellsPlain 16 = .ok (.imul, 1) := by decide +kernel
theorem dX6_smellsPlain_17 : decode cX6_smellsPlain 17 = .ok (.iadd, 1) := by decide +kernel
theorem dX6_smellsPlain_18 : decode cX6_smellsPlain 18 = .ok (.ireturn, 1) := by decide +kernel
theorem dX6_smells_0 : decode cX6_smells 0 = .ok (.aload_n 0, 1) := by decide +kernel
theorem dX6_smells_1 : decode cX6_smells 1 = .ok (.getfield 311, 3) := by decide +kernel
theorem dX6_smells_4 : decode cX6_smells 4 = .ok (.iconst 1, 1) := by decide +kernel
theorem dX6_smells_5 : decode cX6_smells 5 = .ok (.if_icmp .eq 11, 3) := by decide +kernel
theorem dX6_smells_8 : decode cX6_smells 8 = .ok (.aload_n 0, 1) := by decide +kernel
theorem dX6_smells_9 : decode cX6_smells 9 = .ok (.getfield 311, 3) := by decide +kernel
theorem dX6_smells_12 : decode cX6_smells 12 = .ok (.iconst 3, 1) := by decide +kernel
theorem dX6_smells_13 : decode cX6_smells 13 = .ok (.if_icmp .ne 17, 3) := by decide +kernel
theorem dX6_smells_16 : decode cX6_smells 16 = .ok (.aload_n 0, 1) := by decide +kernel
theorem dX6_smells_17 : decode cX6_smells 17 = .ok (.bipush 20, 2) := by decide +kernel
theorem dX6_smells_19 : decode cX6_smells 19 = .ok (.invokevirtual 302, 3) := by decide +kernel
theorem dX6_smells_22 : decode cX6_smells 22 = .ok (.aload_n 0, 1) := by decide +kernel
theorem dX6_smells_23 : decode cX6_smells 23 = .ok (.iload_n 1, 1) := by decide +kernel
theorem dX6_smells_24 : decode cX6_smells 24 = .ok (.invokevirtual 323, 3) := by decide +kernel
theorem dX6_smells_27 : decode cX6_smells 27 = .ok (.iconst 1, 1) := by decide +kernel
theorem dX6_smells_28 : decode cX6_smells 28 = .ok (.isub, 1) := by decide +kernel
theorem dX6_smells_29 : decode cX6_smells 29 = .ok (.ireturn, 1) := by decide +kernel
theorem dX6_smells_30 : decode cX6_smells 30 = .ok (.aload_n 0, 1) := by decide +kernel
theorem dX6_smells_31 : decode cX6_smells 31 = .ok (.getfield 311, 3) := by decide +kernel
theorem dX6_smells_34 : decode cX6_smells 34 = .ok (.iconst 4, 1) := by decide +kernel
theorem dX6_smells_35 : decode cX6_smells 35 = .ok (.if_icmp .ne 26, 3) := by decide +kernel
theorem dX6_smells_38 : decode cX6_smells 38 = .ok (.aload_n 0, 1) := by decide +kernel
theorem dX6_smells_39 : decode cX6_smells 39 = .ok (.bipush 41, 2) := by decide +kernel
theorem dX6_smells_41 : decode cX6_smells 41 = .ok (.invokevirtual 302, 3) := by decide +kernel
theorem dX6_smells_44 : decode cX6_smells 44 = .ok (.aload_n 0, 1) := by decide +kernel
theorem dX6_smells_45 : decode cX6_smells 45 = .ok (.iload_n 1, 1) := by decide +kernel
theorem dX6_smells_46 : decode cX6_smells 46 = .ok (.invokevirtual 323, 3) := by decide +kernel
theorem dX6_smells_49 : decode cX6_smells 49 = .ok (.istore_n 2, 1) := by decide +kernel
theorem dX6_smells_50 : decode cX6_smells 50 = .ok (.iload_n 2, 1) := by decide +kernel
theorem dX6_smells_51 : decode cX6_smells 51 = .ok (.aload_n 0, 1) := by decide +kernel
theorem dX6_smells_52 : decode cX6_smells 52 = .ok (.aload_n 0, 1) := by decide +kernel
theorem dX6_smells_53 : decode cX6_smells 53 = .ok (.getfield 317, 3) := by decide +kernel
theorem dX6_smells_56 : decode cX6_smells 56 = .ok (.invokevirtual 320, 3) := by decide +kernel
theorem dX6_smells_59 : decode cX6_smells 59 = .ok (.ixor, 1) := by decide +kernel
theorem dX6_smells_60 : decode cX6_smells 60 = .ok (.ireturn, 1) := by decide +kernel
theorem dX6_smells_61 : decode cX6_smells 61 = .ok (.aload_n 0, 1) := by decide +kernel
theorem dX6_smells_62 : decode cX6_smells 62 = .ok (.iload_n 1, 1) := by decide +kernel
theorem dX6_smells_63 : decode cX6_smells 63 = .ok (.invokevirtual 323, 3) := by decide +kernel
theorem dX6_smells_66 : decode cX6_smells 66 = .ok (.ireturn, 1) := by decide +kernel
theorem dX6_partsPlain_0 : decode cX6_partsPlain 0 = .ok (.aload_n 0, 1) := by decide +kernel
theorem dX6_partsPlain_1 : decode cX6_partsPlain 1 = .ok (.bipush 12, 2) := by decide +kernel
theorem dX6_partsPlain_3 : decode cX6_partsPlain 3 = .ok (.invokevirtual 302, 3) := by decide +kernel
theorem dX6_partsPlain_6 : decode cX6_partsPlain 6 = .ok (.aload_n 0, 1) := by decide +kernel
theorem dX6_partsPlain_7 : decode cX6_partsPlain 7 = .ok (.aload_n 0, 1) := by decide +kernel
theorem dX6_partsPlain_8 : decode cX6_partsPlain 8 = .ok (.getfield 326, 3) := by decide +kernel
theorem dX6_partsPlain_11 : decode cX6_partsPlain 11 = .ok (.ifCond .ne 14, 3) := by decide +kernel
theorem dX6_partsPlain_14 : decode cX6_partsPlain 14 = .ok (.aload_n 0, 1) := by decide +kernel
theorem dX6_partsPlain_15 : decode cX6_partsPlain 15 = .ok (.getfield 305, 3) := by decide +kernel
theorem dX6_partsPlain_18 : decode cX6_partsPlain 18 = .ok (.aload_n 0, 1) := by decide +kernel
theorem dX6_partsPlain_19 : decode cX6_partsPlain 19 = .ok (.getfield 317, 3) := by decide +kernel
theorem dX6_partsPlain_22 : decode cX6_partsPlain 22 = .ok (.if_icmp .ne 7, 3) := by decide +kernel
theorem dX6_partsPlain_25 : decode cX6_partsPlain 25 = .ok (.iconst 1, 1) := by decide +kernel
theorem dX6_partsPlain_26 : decode cX6_partsPlain 26 = .ok (.goto 4, 3) := by decide +kernel
theorem dX6_partsPlain_29 : decode cX6_partsPlain 29 = .ok (.iconst 0, 1) := by decide +kernel
theorem dX6_partsPlain_30 : decode cX6_partsPlain 30 = .ok (.putfield 326, 3) := by decide +kernel
theorem dX6_partsPlain_33 : decode cX6_partsPlain 33 = .ok (.aload_n 0, 1) := by decide +kernel
theorem dX6_partsPlain_34 : decode cX6_partsPlain 34 = .ok (.getfield 326, 3) := by decide +kernel
theorem dX6_partsPlain_37 : decode cX6_partsPlain 37 = .ok (.ifCond .eq 7, 3) := by decide +kernel
theorem dX6_partsPlain_40 : decode cX6_partsPlain 40 = .ok (.iconst 0, 1) := by decide +kernel
theorem dX6_partsPlain_41 : decode cX6_partsPlain 41 = .ok (.goto 14, 3) := by decide +kernel
theorem dX6_partsPlain_44 : decode cX6_partsPlain 44 = .ok (.iload_n 1, 1) := by decide +kernel
theorem dX6_partsPlain_45 : decode cX6_partsPlain 45 = .ok (.aload_n 0, 1) := by decide +kernel
theorem dX6_partsPlain_46 : decode cX6_partsPlain 46 = .ok (.getfield 317, 3) := by decide +kernel
theorem dX6_partsPlain_49 : decode cX6_partsPlain 49 = .ok (.aload_n 0, 1) := by decide +kernel
theorem dX6_partsPlain_50 : decode cX6_partsPlain 50 = .ok (.getfield 305, 3) := by decide +kernel
theorem dX6_partsPlain_53 : decode cX6_partsPlain 53 = .ok (.isub, 1) := by decide +kernel
theorem dX6_partsPlain_54 : decode cX6_partsPlain 54 = .ok (.idiv, 1) := by decide +kernel
theorem dX6_partsPlain_55 : decode cX6_partsPlain 55 = .ok (.ireturn, 1) := by decide +kernel
theorem dX6_parts_0 : decode cX6_parts 0 = .ok (.aload_n 0, 1) := by decide +kernel
theorem dX6_parts_1 : decode cX6_parts 1 = .ok (.getfield 311, 3) := by decide +kernel
theorem dX6_parts_4 : decode cX6_parts 4 = .ok (.iconst 3, 1) := by decide +kernel
theorem dX6_parts_5 : decode cX6_parts 5 = .ok (.if_icmp .ne 23, 3) := by decide +kernel
theorem dX6_parts_8 : decode cX6_parts 8 = .ok (.aload_n 0, 1) := by decide +kernel
theorem dX6_parts_9 : decode cX6_parts 9 = .ok (.bipush 50, 2) := by decide +kernel
theorem dX6_parts_11 : decode cX6_parts 11 = .ok (.invokevirtual 302, 3) := by decide +kernel
theorem dX6_parts_14 : decode cX6_parts 14 = .ok (.aload_n 0, 1) := by decide +kernel
theorem dX6_parts_15 : decode cX6_parts 15 = .ok (.iload_n 1, 1) := by decide +kernel
theorem dX6_parts_16 : decode cX6_parts 16 = .ok (.bipush 8, 2) := by decide +kernel
theorem dX6_parts_18 : decode cX6_parts 18 = .ok (.iadd, 1) := by decide +kernel
theorem dX6_parts_19 : decode cX6_parts 19 = .ok (.invokevirtual 329, 3) := by decide +kernel
theorem dX6_parts_22 : decode cX6_parts 22 = .ok (.aload_n 0, 1) := by decide +kernel
theorem dX6_parts_23 : decode cX6_parts 23 = .ok (.getfield 305, 3) := by decide +kernel
theorem dX6_parts_26 : decode cX6_parts 26 = .ok (.isub, 1) := by decide +kernel
theorem dX6_parts_27 : decode cX6_parts 27 = .ok (.ireturn, 1) := by decide +kernel
theorem dX6_parts_28 : decode cX6_parts 28 = .ok (.aload_n 0, 1) := by decide +kernel
theorem dX6_parts_29 : decode cX6_parts 29 = .ok (.getfield 311, 3) := by decide +kernel
theorem dX6_parts_32 : decode cX6_parts 32 = .ok (.iconst 5, 1) := by decide +kernel
theorem dX6_parts_33 : decode cX6_parts 33 = .ok (.if_icmp .ne 37, 3) := by decide +kernel
theorem dX6_parts_36 : decode cX6_parts 36 = .ok (.aload_n 0, 1) := by decide +kernel
theorem dX6_parts_37 : decode cX6_parts 37 = .ok (.bipush 61, 2) := by decide +kernel
theorem dX6_parts_39 : decode cX6_parts 39 = .ok (.invokevirtual 302, 3) := by decide +kernel
theorem dX6_parts_42 : decode cX6_parts 42 = .ok (.aload_n 0, 1) := by decide +kernel
theorem dX6_parts_43 : decode cX6_parts 43 = .ok (.iload_n 1, 1) := by decide +kernel
theorem dX6_parts_44 : decode cX6_parts 44 = .ok (.invokevirtual 329, 3) := by decide +kernel
theorem dX6_parts_47 : decode cX6_parts 47 = .ok (.istore_n 2, 1) := by decide +kernel
theorem dX6_parts_48 : decode cX6_parts 48 = .ok (.aload_n 0, 1) := by decide +kernel
theorem dX6_parts_49 : decode cX6_parts 49 = .ok (.getfield 326, 3) := by decide +kernel
theorem dX6_parts_52 : decode cX6_parts 52 = .ok (.ifCond .eq 7, 3) := by decide +kernel
theorem dX6_parts_55 : decode cX6_parts 55 = .ok (.iconst 0, 1) := by decide +kernel
theorem dX6_parts_56 : decode cX6_parts 56 = .ok (.goto 13, 3) := by decide +kernel
theorem dX6_parts_59 : decode cX6_parts 59 = .ok (.iload_n 2, 1) := by decide +kernel
theorem dX6_parts_60 : decode cX6_parts 60 = .ok (.aload_n 0, 1) := by decide +kernel
theorem dX6_parts_61 : decode cX6_parts 61 = .ok (.aload_n 0, 1) := by decide +kernel
theorem dX6_parts_62 : decode cX6_parts 62 = .ok (.getfield 305, 3) := by decide +kernel
theorem dX6_parts_65 : decode cX6_parts 65 = .ok (.invokevirtual 320, 3) := by decide +kernel
theorem dX6_parts_68 : decode cX6_parts 68 = .ok (.imul, 1) := by decide +kernel
theorem dX6_parts_69 : decode cX6_parts 69 = .ok (.ireturn, 1) := by decide +kernel
theorem dX6_parts_70 : decode cX6_parts 70 = .ok (.aload_n 0, 1) := by decide +kernel
theorem dX6_parts_71 : decode cX6_parts 71 = .ok (.iload_n 1, 1) := by decide +kernel
theorem dX6_parts_72 : decode cX6_parts 72 = .ok (.invokevirtual 329, 3) := by decide +kernel
theorem dX6_parts_75 : decode cX6_parts 75 = .ok (.ireturn, 1) := by decide +kernel
theorem dX6_burnsPlain_0 : decode cX6_burnsPlain 0 = .ok (.aload_n 0, 1) := by decide +kernel
theorem dX6_burnsPlain_1 : decode cX6_burnsPlain 1 = .ok (.bipush 13, 2) := by decide +kernel
theorem dX6_burnsPlain_3 : decode cX6_burnsPlain 3 = .ok (.invokevirtual 302, 3) := by decide +kernel
theorem dX6_burnsPlain_6 : decode cX6_burnsPlain 6 = .ok (.aload_n 0, 1) := by decide +kernel
theorem dX6_burnsPlain_7 : decode cX6_burnsPlain 7 = .ok (.iload_n 1, 1) := by decide +kernel
theorem dX6_burnsPlain_8 : decode cX6_burnsPlain 8 = .ok (.invokevirtual 332, 3) := by decide +kernel
theorem dX6_burnsPlain_11 : decode cX6_burnsPlain 11 = .ok (.sipush 160, 3) := by decide +kernel
theorem dX6_burnsPlain_14 : decode cX6_burnsPlain 14 = .ok (.ixor, 1) := by decide +kernel
theorem dX6_burnsPlain_15 : decode cX6_burnsPlain 15 = .ok (.ireturn, 1) := by decide +kernel
theorem dX6_burns_0 : decode cX6_burns 0 = .ok (.aload_n 0, 1) := by decide +kernel
theorem dX6_burns_1 : decode cX6_burns 1 = .ok (.getfield 311, 3) := by decide +kernel
theorem dX6_burns_4 : decode cX6_burns 4 = .ok (.iconst 2, 1) := by decide +kernel
theorem dX6_burns_5 : decode cX6_burns 5 = .ok (.if_icmp .eq 11, 3) := by decide +kernel
theorem dX6_burns_8 : decode cX6_burns 8 = .ok (.aload_n 0, 1) := by decide +kernel
theorem dX6_burns_9 : decode cX6_burns 9 = .ok (.getfield 311, 3) := by decide +kernel
theorem dX6_burns_12 : decode cX6_burns 12 = .ok (.iconst 4, 1) := by decide +kernel
theorem dX6_burns_13 : decode cX6_burns 13 = .ok (.if_icmp .ne 26, 3) := by decide +kernel
theorem dX6_burns_16 : decode cX6_burns 16 = .ok (.aload_n 0, 1) := by decide +kernel
theorem dX6_burns_17 : decode cX6_burns 17 = .ok (.bipush 31, 2) := by decide +kernel
theorem dX6_burns_19 : decode cX6_burns 19 = .ok (.invokevirtual 302, 3) := by decide +kernel
theorem dX6_burns_22 : decode cX6_burns 22 = .ok (.aload_n 0, 1) := by decide +kernel
theorem dX6_burns_23 : decode cX6_burns 23 = .ok (.iload_n 1, 1) := by decide +kernel
theorem dX6_burns_24 : decode cX6_burns 24 = .ok (.invokevirtual 335, 3) := by decide +kernel
theorem dX6_burns_27 : decode cX6_burns 27 = .ok (.istore_n 2, 1) := by decide +kernel
theorem dX6_burns_28 : decode cX6_burns 28 = .ok (.iload_n 2, 1) := by decide +kernel
theorem dX6_burns_29 : decode cX6_burns 29 = .ok (.aload_n 0, 1) := by decide +kernel
theorem dX6_burns_30 : decode cX6_burns 30 = .ok (.aload_n 0, 1) := by decide +kernel
theorem dX6_burns_31 : decode cX6_burns 31 = .ok (.getfield 305, 3) := by decide +kernel
theorem dX6_burns_34 : decode cX6_burns 34 = .ok (.invokevirtual 338, 3) := by decide +kernel
theorem dX6_burns_37 : decode cX6_burns 37 = .ok (.iadd, 1) := by decide +kernel
theorem dX6_burns_38 : decode cX6_burns 38 = .ok (.ireturn, 1) := by decide +kernel
theorem dX6_burns_39 : decode cX6_burns 39 = .ok (.aload_n 0, 1) := by decide +kernel
theorem dX6_burns_40 : decode cX6_burns 40 = .ok (.getfield 311, 3) := by decide +kernel
theorem dX6_burns_43 : decode cX6_burns 43 = .ok (.iconst 5, 1) := by decide +kernel
theorem dX6_burns_44 : decode cX6_burns 44 = .ok (.if_icmp .ne 18, 3) := by decide +kernel
theorem dX6_burns_47 : decode cX6_burns 47 = .ok (.aload_n 0, 1) := by decide +kernel
theorem dX6_burns_48 : decode cX6_burns 48 = .ok (.bipush 60, 2) := by decide +kernel
theorem dX6_burns_50 : decode cX6_burns 50 = .ok (.invokevirtual 302, 3) := by decide +kernel
theorem dX6_burns_53 : decode cX6_burns 53 = .ok (.aload_n 0, 1) := by decide +kernel
theorem dX6_burns_54 : decode cX6_burns 54 = .ok (.iload_n 1, 1) := by decide +kernel
theorem dX6_burns_55 : decode cX6_burns 55 = .ok (.invokevirtual 335, 3) := by decide +kernel
theorem dX6_burns_58 : decode cX6_burns 58 = .ok (.bipush 6, 2) := by decide +kernel
theorem dX6_burns_60 : decode cX6_burns 60 = .ok (.isub, 1) := by decide +kernel
theorem dX6_burns_61 : decode cX6_burns 61 = .ok (.ireturn, 1) := by decide +kernel
theorem dX6_burns_62 : decode cX6_burns 62 = .ok (.aload_n 0, 1) := by decide +kernel
theorem dX6_burns_63 : decode cX6_burns 63 = .ok (.iload_n 1, 1) := by decide +kernel
theorem dX6_burns_64 : decode cX6_burns 64 = .ok (.invokevirtual 335, 3) := by decide +kernel
theorem dX6_burns_67 : decode cX6_burns 67 = .ok (.ireturn, 1) := by decide +kernel
theorem dX6_act_0 : decode cX6_act 0 = .ok (.aload_n 0, 1) := by decide +kernel
theorem dX6_act_1 : decode cX6_act 1 = .ok (.iconst 0, 1) := by decide +kernel
theorem dX6_act_2 : decode cX6_act 2 = .ok (.putfield 299, 3) := by decide +kernel
theorem dX6_act_5 : decode cX6_act 5 = .ok (.iload_n 1, 1) := by decide +kernel
theorem dX6_act_6 : decode cX6_act 6 = .ok (.invokestatic 284, 3) := by decide +kernel
theorem dX6_act_9 : decode cX6_act 9 = .ok (.ifCond .eq 24, 3) := by decide +kernel
theorem dX6_act_12 : decode cX6_act 12 = .ok (.iload_n 2, 1) := by decide +kernel
theorem dX6_act_13 : decode cX6_act 13 = .ok (.i2l, 1) := by decide +kernel
theorem dX6_act_14 : decode cX6_act 14 = .ok (.lconst 0, 1) := by decide +kernel
theorem dX6_act_15 : decode cX6_act 15 = .ok (.ldc2_w 154, 3) := by decide +kernel
theorem dX6_act_18 : decode cX6_act 18 = .ok (.invokestatic 54, 3) := by decide +kernel
theorem dX6_act_21 : decode cX6_act 21 = .ok (.ifCond .eq 12, 3) := by decide +kernel
theorem dX6_act_24 : decode cX6_act 24 = .ok (.aload_n 0, 1) := by decide +kernel
theorem dX6_act_25 : decode cX6_act 25 = .ok (.iload_n 1, 1) := by decide +kernel
theorem dX6_act_26 : decode cX6_act 26 = .ok (.invokevirtual 293, 3) := by decide +kernel
theorem dX6_act_29 : decode cX6_act 29 = .ok (.iconst 1, 1) := by decide +kernel
theorem dX6_act_30 : decode cX6_act 30 = .ok (.if_icmp .eq 5, 3) := by decide +kernel
theorem dX6_act_33 : decode cX6_act 33 = .ok (.iconst 0, 1) := by decide +kernel
theorem dX6_act_34 : decode cX6_act 34 = .ok (.ireturn, 1) := by decide +kernel
theorem dX6_act_35 : decode cX6_act 35 = .ok (.aload_n 0, 1) := by decide +kernel
theorem dX6_act_36 : decode cX6_act 36 = .ok (.iconst 0, 1) := by decide +kernel
theorem dX6_act_37 : decode cX6_act 37 = .ok (.putfield 326, 3) := by decide +kernel
theorem dX6_act_40 : decode cX6_act 40 = .ok (.aload_n 0, 1) := by decide +kernel
theorem dX6_act_41 : decode cX6_act 41 = .ok (.aload_n 0, 1) := by decide +kernel
theorem dX6_act_42 : decode cX6_act 42 = .ok (.aload_n 0, 1) := by decide +kernel
theorem dX6_act_43 : decode cX6_act 43 = .ok (.getfield 40, 3) := by decide +kernel
theorem dX6_act_46 : decode cX6_act 46 = .ok (.iload_n 1, 1) := by decide +kernel
theorem dX6_act_47 : decode cX6_act 47 = .ok (.iaload, 1) := by decide +kernel
theorem dX6_act_48 : decode cX6_act 48 = .ok (.iconst 0, 1) := by decide +kernel
theorem dX6_act_49 : decode cX6_act 49 = .ok (.invokevirtual 167, 3) := by decide +kernel
theorem dX6_act_52 : decode cX6_act 52 = .ok (.putfield 311, 3) := by decide +kernel
theorem dX6_act_55 : decode cX6_act 55 = .ok (.aload_n 0, 1) := by decide +kernel
theorem dX6_act_56 : decode cX6_act 56 = .ok (.aload_n 0, 1) := by decide +kernel
theorem dX6_act_57 : decode cX6_act 57 = .ok (.getfield 40, 3) := by decide +kernel
theorem dX6_act_60 : decode cX6_act 60 = .ok (.iload_n 1, 1) := by decide +kernel
theorem dX6_act_61 : decode cX6_act 61 = .ok (.iaload, 1) := by decide +kernel
theorem dX6_act_62 : decode cX6_act 62 = .ok (.putfield 305, 3) := by decide +kernel
theorem dX6_act_65 : decode cX6_act 65 = .ok (.aload_n 0, 1) := by decide +kernel
theorem dX6_act_66 : decode cX6_act 66 = .ok (.aload_n 0, 1) := by decide +kernel
theorem dX6_act_67 : decode cX6_act 67 = .ok (.aload_n 0, 1) := by decide +kernel
theorem dX6_act_68 : decode cX6_act 68 = .ok (.getfield 40, 3) := by decide +kernel
theorem dX6_act_71 : decode cX6_act 71 = .ok (.iload_n 1, 1) := by decide +kernel
theorem dX6_act_72 : decode cX6_act 72 = .ok (.iaload, 1) := by decide +kernel
theorem dX6_act_73 : decode cX6_act 73 = .ok (.iconst 2, 1) := by decide +kernel
theorem dX6_act_74 : decode cX6_act 74 = .ok (.invokevirtual 167, 3) := by decide +kernel
theorem dX6_act_77 : decode cX6_act 77 = .ok (.putfield 317, 3) := by decide +kernel
theorem dX6_act_80 : decode cX6_act 80 = .ok (.iload_n 2, 1) := by decide +kernel
theorem dX6_act_81 : decode cX6_act 81 = .ok (.ifCond .ne 11, 3) := by decide +kernel
theorem dX6_act_84 : decode cX6_act 84 = .ok (.aload_n 0, 1) := by decide +kernel
theorem dX6_act_85 : decode cX6_act 85 = .ok (.iload_n 3, 1) := by decide +kernel
theorem dX6_act_86 : decode cX6_act 86 = .ok (.invokevirtual 320, 3) := by decide +kernel
theorem dX6_act_89 : decode cX6_act 89 = .ok (.goto 34, 3) := by decide +kernel
theorem dX6_act_92 : decode cX6_act 92 = .ok (.iload_n 2, 1) := by decide +kernel
theorem dX6_act_93 : decode cX6_act 93 = .ok (.iconst 1, 1) := by decide +kernel
theorem dX6_act_94 : decode cX6_act 94 = .ok (.if_icmp .ne 11, 3) := by decide +kernel
theorem dX6_act_97 : decode cX6_act 97 = .ok (.aload_n 0, 1) := by decide +kernel
theorem dX6_act_98 : decode cX6_act 98 = .ok (.iload_n 3, 1) := by decide +kernel
theorem dX6_act_99 : decode cX6_act 99 = .ok (.invokevirtual 332, 3) := by decide +kernel
theorem dX6_act_102 : decode cX6_act 102 = .ok (.goto 21, 3) := by decide +kernel
theorem dX6_act_105 : decode cX6_act 105 = .ok (.iload_n 2, 1) := by decide +kernel
theorem dX6_act_106 : decode cX6_act 106 = .ok (.iconst 2, 1) := by decide +kernel
theorem dX6_act_107 : decode cX6_act 107 = .ok (.if_icmp .ne 11, 3) := by decide +kernel
theorem dX6_act_110 : decode cX6_act 110 = .ok (.aload_n 0, 1) := by decide +kernel
theorem dX6_act_111 : decode cX6_act 111 = .ok (.iload_n 3, 1) := by decide +kernel
theorem dX6_act_112 : decode cX6_act 112 = .ok (.invokevirtual 338, 3) := by decide +kernel
theorem dX6_act_115 : decode cX6_act 115 = .ok (.goto 8, 3) := by decide +kernel
theorem dX6_act_118 : decode cX6_act 118 = .ok (.aload_n 0, 1) := by decide +kernel
theorem dX6_act_119 : decode cX6_act 119 = .ok (.iload_n 3, 1) := by decide +kernel
theorem dX6_act_120 : decode cX6_act 120 = .ok (.invokevirtual 341, 3) := by decide +kernel
theorem dX6_act_123 : decode cX6_act 123 = .ok (.istore 4, 2) := by decide +kernel
theorem dX6_act_125 : decode cX6_act 125 = .ok (.aload_n 0, 1) := by decide +kernel
theorem dX6_act_126 : decode cX6_act 126 = .ok (.getfield 326, 3) := by decide +kernel
theorem dX6_act_129 : decode cX6_act 129 = .ok (.ifCond .eq 8, 3) := by decide +kernel
theorem dX6_act_132 : decode cX6_act 132 = .ok (.bipush (-15), 2) := by decide +kernel
theorem dX6_act_134 : decode cX6_act 134 = .ok (.goto 5, 3) := by decide +kernel
theorem dX6_act_137 : decode cX6_act 137 = .ok (.iload 4, 2) := by decide +kernel
theorem dX6_act_139 : decode cX6_act 139 = .ok (.ireturn, 1) := by decide +kernel
theorem dX6_trace_0 : decode cX6_trace 0 = .ok (.iload_n 1, 1) := by decide +kernel
theorem dX6_trace_1 : decode cX6_trace 1 = .ok (.i2l, 1) := by decide +kernel
theorem dX6_trace_2 : decode cX6_trace 2 = .ok (.lconst 0, 1) := by decide +kernel
theorem dX6_trace_3 : decode cX6_trace 3 = .ok (.aload_n 0, 1) := by decide +kernel
theorem dX6_trace_4 : decode cX6_trace 4 = .ok (.getfield 299, 3) := by decide +kernel
theorem dX6_trace_7 : decode cX6_trace 7 = .ok (.iconst 1, 1) := by decide +kernel
theorem dX6_trace_8 : decode cX6_trace 8 = .ok (.isub, 1) := by decide +kernel
theorem dX6_trace_9 : decode cX6_trace 9 = .ok (.i2l, 1) := by decide +kernel
theorem dX6_trace_10 : decode cX6_trace 10 = .ok (.invokestatic 54, 3) := by decide +kernel
theorem dX6_trace_13 : decode cX6_trace 13 = .ok (.ifCond .eq 12, 3) := by decide +kernel
theorem dX6_trace_16 : decode cX6_trace 16 = .ok (.aload_n 0, 1) := by decide +kernel
theorem dX6_trace_17 : decode cX6_trace 17 = .ok (.getfield 46, 3) := by decide +kernel
theorem dX6_trace_20 : decode cX6_trace 20 = .ok (.iload_n 1, 1) := by decide +kernel
theorem dX6_trace_21 : decode cX6_trace 21 = .ok (.iaload, 1) := by decide +kernel
theorem dX6_trace_22 : decode cX6_trace 22 = .ok (.goto 5, 3) := by decide +kernel
theorem dX6_trace_25 : decode cX6_trace 25 = .ok (.bipush (-3), 2) := by decide +kernel
theorem dX6_trace_27 : decode cX6_trace 27 = .ok (.ireturn, 1) := by decide +kernel
theorem dX6_many_0 : decode cX6_many 0 = .ok (.iload_n 1, 1) := by decide +kernel
theorem dX6_many_1 : decode cX6_many 1 = .ok (.tableswitch 96 0 6 #[43, 50, 65, 73, 81, 86, 91], 43) := by decide +kernel
theorem dX6_many_44 : decode cX6_many 44 = .ok (.aload_n 0, 1) := by decide +kernel
theorem dX6_many_45 : decode cX6_many 45 = .ok (.getfield 7, 3) := by decide +kernel
theorem dX6_many_48 : decode cX6_many 48 = .ok (.iconst 0, 1) := by decide +kernel
theorem dX6_many_49 : decode cX6_many 49 = .ok (.iaload, 1) := by decide +kernel
theorem dX6_many_50 : decode cX6_many 50 = .ok (.ireturn, 1) := by decide +kernel
theorem dX6_many_51 : decode cX6_many 51 = .ok (.aload_n 0, 1) := by decide +kernel
theorem dX6_many_52 : decode cX6_many 52 = .ok (.getfield 7, 3) := by decide +kernel
theorem dX6_many_55 : decode cX6_many 55 = .ok (.iconst 0, 1) := by decide +kernel
theorem dX6_many_56 : decode cX6_many 56 = .ok (.iaload, 1) := by decide +kernel
theorem dX6_many_57 : decode cX6_many 57 = .ok (.aload_n 0, 1) := by decide +kernel
theorem dX6_many_58 : decode cX6_many 58 = .ok (.invokevirtual 230, 3) := by decide +kernel
theorem dX6_many_61 : decode cX6_many 61 = .ok (.invokestatic 170, 3) := by decide +kernel
theorem dX6_many_64 : decode cX6_many 64 = .ok (.isub, 1) := by decide +kernel
theorem dX6_many_65 : decode cX6_many 65 = .ok (.ireturn, 1) := by decide +kernel
theorem dX6_many_66 : decode cX6_many 66 = .ok (.aload_n 0, 1) := by decide +kernel
theorem dX6_many_67 : decode cX6_many 67 = .ok (.invokevirtual 224, 3) := by decide +kernel
theorem dX6_many_70 : decode cX6_many 70 = .ok (.invokestatic 170, 3) := by decide +kernel
theorem dX6_many_73 : decode cX6_many 73 = .ok (.ireturn, 1) := by decide +kernel
theorem dX6_many_74 : decode cX6_many 74 = .ok (.aload_n 0, 1) := by decide +kernel
theorem dX6_many_75 : decode cX6_many 75 = .ok (.invokevirtual 227, 3) := by decide +kernel
theorem dX6_many_78 : decode cX6_many 78 = .ok (.invokestatic 170, 3) := by decide +kernel
theorem dX6_many_81 : decode cX6_many 81 = .ok (.ireturn, 1) := by decide +kernel
theorem dX6_many_82 : decode cX6_many 82 = .ok (.aload_n 0, 1) := by decide +kernel
theorem dX6_many_83 : decode cX6_many 83 = .ok (.getfield 151, 3) := by decide +kernel
theorem dX6_many_86 : decode cX6_many 86 = .ok (.ireturn, 1) := by decide +kernel
theorem dX6_many_87 : decode cX6_many 87 = .ok (.aload_n 0, 1) := by decide +kernel
theorem dX6_many_88 : decode cX6_many 88 = .ok (.getfield 58, 3) := by decide +kernel
theorem dX6_many_91 : decode cX6_many 91 = .ok (.ireturn, 1) := by decide +kernel
theorem dX6_many_92 : decode cX6_many 92 = .ok (.aload_n 0, 1) := by decide +kernel
theorem dX6_many_93 : decode cX6_many 93 = .ok (.getfield 299, 3) := by decide +kernel
theorem dX6_many_96 : decode cX6_many 96 = .ok (.ireturn, 1) := by decide +kernel
theorem dX6_many_97 : decode cX6_many 97 = .ok (.iconst (-1), 1) := by decide +kernel
theorem dX6_many_98 : decode cX6_many 98 = .ok (.ireturn, 1) := by decide +kernel
theorem dX6_keep_0 : decode cX6_keep 0 = .ok (.iconst 0, 1) := by decide +kernel
theorem dX6_keep_1 : decode cX6_keep 1 = .ok (.istore_n 1, 1) := by decide +kernel
theorem dX6_keep_2 : decode cX6_keep 2 = .ok (.iload_n 1, 1) := by decide +kernel
theorem dX6_keep_3 : decode cX6_keep 3 = .ok (.bipush 63, 2) := by decide +kernel
theorem dX6_keep_5 : decode cX6_keep 5 = .ok (.if_icmp .ge 21, 3) := by decide +kernel
theorem dX6_keep_8 : decode cX6_keep 8 = .ok (.aload_n 0, 1) := by decide +kernel
theorem dX6_keep_9 : decode cX6_keep 9 = .ok (.getfield 13, 3) := by decide +kernel
theorem dX6_keep_12 : decode cX6_keep 12 = .ok (.iload_n 1, 1) := by decide +kernel
theorem dX6_keep_13 : decode cX6_keep 13 = .ok (.aload_n 0, 1) := by decide +kernel
theorem dX6_keep_14 : decode cX6_keep 14 = .ok (.getfield 7, 3) := by decide +kernel
theorem dX6_keep_17 : decode cX6_keep 17 = .ok (.iload_n 1, 1) := by decide +kernel
theorem dX6_keep_18 : decode cX6_keep 18 = .ok (.iaload, 1) := by decide +kernel
theorem dX6_keep_19 : decode cX6_keep 19 = .ok (.iastore, 1) := by decide +kernel
theorem dX6_keep_20 : decode cX6_keep 20 = .ok (.iinc 1 1, 3) := by decide +kernel
theorem dX6_keep_23 : decode cX6_keep 23 = .ok (.goto (-21), 3) := by decide +kernel
theorem dX6_keep_26 : decode cX6_keep 26 = .ok (.aload_n 0, 1) := by decide +kernel
theorem dX6_keep_27 : decode cX6_keep 27 = .ok (.iconst 1, 1) := by decide +kernel
theorem dX6_keep_28 : decode cX6_keep 28 = .ok (.putfield 344, 3) := by decide +kernel
theorem dX6_keep_31 : decode cX6_keep 31 = .ok (.iconst 1, 1) := by decide +kernel
theorem dX6_keep_32 : decode cX6_keep 32 = .ok (.ireturn, 1) := by decide +kernel
theorem dX6_again_0 : decode cX6_again 0 = .ok (.aload_n 0, 1) := by decide +kernel
theorem dX6_again_1 : decode cX6_again 1 = .ok (.getfield 344, 3) := by decide +kernel
theorem dX6_again_4 : decode cX6_again 4 = .ok (.ifCond .ne 6, 3) := by decide +kernel
theorem dX6_again_7 : decode cX6_again 7 = .ok (.bipush (-3), 2) := by decide +kernel
theorem dX6_again_9 : decode cX6_again 9 = .ok (.ireturn, 1) := by decide +kernel
theorem dX6_again_10 : decode cX6_again 10 = .ok (.iconst 0, 1) := by decide +kernel
theorem dX6_again_11 : decode cX6_again 11 = .ok (.istore_n 1, 1) := by decide +kernel
theorem dX6_again_12 : decode cX6_again 12 = .ok (.iload_n 1, 1) := by decide +kernel
theorem dX6_again_13 : decode cX6_again 13 = .ok (.bipush 63, 2) := by decide +kernel
theorem dX6_again_15 : decode cX6_again 15 = .ok (.if_icmp .ge 21, 3) := by decide +kernel
theorem dX6_again_18 : decode cX6_again 18 = .ok (.aload_n 0, 1) := by decide +kernel
theorem dX6_again_19 : decode cX6_again 19 = .ok (.getfield 7, 3) := by decide +kernel
theorem dX6_again_22 : decode cX6_again 22 = .ok (.iload_n 1, 1) := by decide +kernel
theorem dX6_again_23 : decode cX6_again 23 = .ok (.aload_n 0, 1) := by decide +kernel
theorem dX6_again_24 : decode cX6_again 24 = .ok (.getfield 13, 3) := by decide +kernel
theorem dX6_again_27 : decode cX6_again 27 = .ok (.iload_n 1, 1) := by decide +kernel
theorem dX6_again_28 : decode cX6_again 28 = .ok (.iaload, 1) := by decide +kernel
theorem dX6_again_29 : decode cX6_again 29 = .ok (.iastore, 1) := by decide +kernel
theorem dX6_again_30 : decode cX6_again 30 = .ok (.iinc 1 1, 3) := by decide +kernel
theorem dX6_again_33 : decode cX6_again 33 = .ok (.goto (-21), 3) := by decide +kernel
theorem dX6_again_36 : decode cX6_again 36 = .ok (.aload_n 0, 1) := by decide +kernel
theorem dX6_again_37 : decode cX6_again 37 = .ok (.getfield 7, 3) := by decide +kernel
theorem dX6_again_40 : decode cX6_again 40 = .ok (.iconst 0, 1) := by decide +kernel
theorem dX6_again_41 : decode cX6_again 41 = .ok (.iaload, 1) := by decide +kernel
theorem dX6_again_42 : decode cX6_again 42 = .ok (.ireturn, 1) := by decide +kernel
