theorem dX6_sortOf_60 : decode cX6_sortOf 60 = .ok (.iconst 5, 1) := by decide +kernel
theorem dX6_sortOf_61 : decode cX6_sortOf 61 = .ok (.ireturn, 1) := by decide +kernel
theorem dX6_sortOf_62 : decode cX6_sortOf 62 = .ok (.iconst 0, 1) := by decide +kernel
theorem dX6_sortOf_63 : decode cX6_sortOf 63 = .ok (.ireturn, 1) := by decide +kernel
theorem dX6_takeSign_0 : decode cX6_takeSign 0 = .ok (.aload_n 0, 1) := by decide +kernel
theorem dX6_takeSign_1 : decode cX6_takeSign 1 = .ok (.getfield 24, 3) := by decide +kernel
theorem dX6_takeSign_4 : decode cX6_takeSign 4 = .ok (.ifCond .eq 4, 3) := by decide +kernel
theorem dX6_takeSign_7 : decode cX6_takeSign 7 = .ok (.return_, 1) := by decide +kernel
theorem dX6_takeSign_8 : decode cX6_takeSign 8 = .ok (.aload_n 0, 1) := by decide +kernel
theorem dX6_takeSign_9 : decode cX6_takeSign 9 = .ok (.getfield 47, 3) := by decide +kernel
theorem dX6_takeSign_12 : decode cX6_takeSign 12 = .ok (.iload_n 1, 1) := by decide +kernel
theorem dX6_takeSign_13 : decode cX6_takeSign 13 = .ok (.if_icmp .eq 9, 3) := by decide +kernel
theorem dX6_takeSign_16 : decode cX6_takeSign 16 = .ok (.aload_n 0, 1) := by decide +kernel
theorem dX6_takeSign_17 : decode cX6_takeSign 17 = .ok (.iconst 1, 1) := by decide +kernel
theorem dX6_takeSign_18 : decode cX6_takeSign 18 = .ok (.putfield 24, 3) := by decide +kernel
theorem dX6_takeSign_21 : decode cX6_takeSign 21 = .ok (.return_, 1) := by decide +kernel
theorem dX6_takeSign_22 : decode cX6_takeSign 22 = .ok (.aload_n 0, 1) := by decide +kernel
theorem dX6_takeSign_23 : decode cX6_takeSign 23 = .ok (.invokevirtual 30, 3) := by decide +kernel
theorem dX6_takeSign_26 : decode cX6_takeSign 26 = .ok (.return_, 1) := by decide +kernel
theorem dX6_takeNumber_0 : decode cX6_takeNumber 0 = .ok (.aload_n 0, 1) := by decide +kernel
theorem dX6_takeNumber_1 : decode cX6_takeNumber 1 = .ok (.getfield 24, 3) := by decide +kernel
theorem dX6_takeNumber_4 : decode cX6_takeNumber 4 = .ok (.ifCond .eq 5, 3) := by decide +kernel
theorem dX6_takeNumber_7 : decode cX6_takeNumber 7 = .ok (.iconst 0, 1) := by decide +kernel
theorem dX6_takeNumber_8 : decode cX6_takeNumber 8 = .ok (.ireturn, 1) := by decide +kernel
theorem dX6_takeNumber_9 : decode cX6_takeNumber 9 = .ok (.aload_n 0, 1) := by decide +kernel
theorem dX6_takeNumber_10 : decode cX6_takeNumber 10 = .ok (.getfield 47, 3) := by decide +kernel
theorem dX6_takeNumber_13 : decode cX6_takeNumber 13 = .ok (.bipush (-2), 2) := by decide +kernel
theorem dX6_takeNumber_15 : decode cX6_takeNumber 15 = .ok (.if_icmp .eq 10, 3) := by decide +kernel
theorem dX6_takeNumber_18 : decode cX6_takeNumber 18 = .ok (.aload_n 0, 1) := by decide +kernel
theorem dX6_takeNumber_19 : decode cX6_takeNumber 19 = .ok (.iconst 1, 1) := by decide +kernel
theorem dX6_takeNumber_20 : decode cX6_takeNumber 20 = .ok (.putfield 24, 3) := by decide +kernel
theorem dX6_takeNumber_23 : decode cX6_takeNumber 23 = .ok (.iconst 0, 1) := by decide +kernel
theorem dX6_takeNumber_24 : decode cX6_takeNumber 24 = .ok (.ireturn, 1) := by decide +kernel
theorem dX6_takeNumber_25 : decode cX6_takeNumber 25 = .ok (.aload_n 0, 1) := by decide +kernel
theorem dX6_takeNumber_26 : decode cX6_takeNumber 26 = .ok (.getfield 100, 3) := by decide +kernel
theorem dX6_takeNumber_29 : decode cX6_takeNumber 29 = .ok (.istore_n 3, 1) := by decide +kernel
theorem dX6_takeNumber_30 : decode cX6_takeNumber 30 = .ok (.iload_n 3, 1) := by decide +kernel
theorem dX6_takeNumber_31 : decode cX6_takeNumber 31 = .ok (.iload_n 1, 1) := by decide +kernel
theorem dX6_takeNumber_32 : decode cX6_takeNumber 32 = .ok (.if_icmp .lt 8, 3) := by decide +kernel
theorem dX6_takeNumber_35 : decode cX6_takeNumber 35 = .ok (.iload_n 3, 1) := by decide +kernel
theorem dX6_takeNumber_36 : decode cX6_takeNumber 36 = .ok (.iload_n 2, 1) := by decide +kernel
theorem dX6_takeNumber_37 : decode cX6_takeNumber 37 = .ok (.if_icmp .le 10, 3) := by decide +kernel
theorem dX6_takeNumber_40 : decode cX6_takeNumber 40 = .ok (.aload_n 0, 1) := by decide +kernel
theorem dX6_takeNumber_41 : decode cX6_takeNumber 41 = .ok (.iconst 2, 1) := by decide +kernel
theorem dX6_takeNumber_42 : decode cX6_takeNumber 42 = .ok (.putfield 24, 3) := by decide +kernel
theorem dX6_takeNumber_45 : decode cX6_takeNumber 45 = .ok (.iconst 0, 1) := by decide +kernel
theorem dX6_takeNumber_46 : decode cX6_takeNumber 46 = .ok (.ireturn, 1) := by decide +kernel
theorem dX6_takeNumber_47 : decode cX6_takeNumber 47 = .ok (.aload_n 0, 1) := by decide +kernel
theorem dX6_takeNumber_48 : decode cX6_takeNumber 48 = .ok (.invokevirtual 30, 3) := by decide +kernel
theorem dX6_takeNumber_51 : decode cX6_takeNumber 51 = .ok (.iload_n 3, 1) := by decide +kernel
theorem dX6_takeNumber_52 : decode cX6_takeNumber 52 = .ok (.ireturn, 1) := by decide +kernel
theorem dX6_advance_0 : decode cX6_advance 0 = .ok (.aload_n 0, 1) := by decide +kernel
theorem dX6_advance_1 : decode cX6_advance 1 = .ok (.aload_n 0, 1) := by decide +kernel
theorem dX6_advance_2 : decode cX6_advance 2 = .ok (.getfield 27, 3) := by decide +kernel
theorem dX6_advance_5 : decode cX6_advance 5 = .ok (.putfield 103, 3) := by decide +kernel
theorem dX6_advance_8 : decode cX6_advance 8 = .ok (.aload_n 0, 1) := by decide +kernel
theorem dX6_advance_9 : decode cX6_advance 9 = .ok (.iconst 0, 1) := by decide +kernel
theorem dX6_advance_10 : decode cX6_advance 10 = .ok (.putfield 100, 3) := by decide +kernel
theorem dX6_advance_13 : decode cX6_advance 13 = .ok (.iconst 0, 1) := by decide +kernel
theorem dX6_advance_14 : decode cX6_advance 14 = .ok (.istore_n 1, 1) := by decide +kernel
theorem dX6_advance_15 : decode cX6_advance 15 = .ok (.aload_n 0, 1) := by decide +kernel
theorem dX6_advance_16 : decode cX6_advance 16 = .ok (.aload_n 0, 1) := by decide +kernel
theorem dX6_advance_17 : decode cX6_advance 17 = .ok (.getfield 103, 3) := by decide +kernel
theorem dX6_advance_20 : decode cX6_advance 20 = .ok (.invokevirtual 106, 3) := by decide +kernel
theorem dX6_advance_23 : decode cX6_advance 23 = .ok (.istore_n 2, 1) := by decide +kernel
theorem dX6_advance_24 : decode cX6_advance 24 = .ok (.iconst 0, 1) := by decide +kernel
theorem dX6_advance_25 : decode cX6_advance 25 = .ok (.istore_n 3, 1) := by decide +kernel
theorem dX6_advance_26 : decode cX6_advance 26 = .ok (.iload_n 3, 1) := by decide +kernel
theorem dX6_advance_27 : decode cX6_advance 27 = .ok (.bipush 120, 2) := by decide +kernel
theorem dX6_advance_29 : decode cX6_advance 29 = .ok (.if_icmp .ge 63, 3) := by decide +kernel
theorem dX6_advance_32 : decode cX6_advance 32 = .ok (.iload_n 2, 1) := by decide +kernel
theorem dX6_advance_33 : decode cX6_advance 33 = .ok (.bipush 48, 2) := by decide +kernel
theorem dX6_advance_35 : decode cX6_advance 35 = .ok (.if_icmp .lt 57, 3) := by decide +kernel
theorem dX6_advance_38 : decode cX6_advance 38 = .ok (.iload_n 2, 1) := by decide +kernel
theorem dX6_advance_39 : decode cX6_advance 39 = .ok (.bipush 57, 2) := by decide +kernel
theorem dX6_advance_41 : decode cX6_advance 41 = .ok (.if_icmp .gt 51, 3) := by decide +kernel
theorem dX6_advance_44 : decode cX6_advance 44 = .ok (.aload_n 0, 1) := by decide +kernel
theorem dX6_advance_45 : decode cX6_advance 45 = .ok (.iload_n 1, 1) := by decide +kernel
theorem dX6_advance_46 : decode cX6_advance 46 = .ok (.iconst 2, 1) := by decide +kernel
theorem dX6_advance_47 : decode cX6_advance 47 = .ok (.if_icmp .ge 18, 3) := by decide +kernel
theorem dX6_advance_50 : decode cX6_advance 50 = .ok (.bipush 10, 2) := by decide +kernel
theorem dX6_advance_52 : decode cX6_advance 52 = .ok (.aload_n 0, 1) := by decide +kernel
theorem dX6_advance_53 : decode cX6_advance 53 = .ok (.getfield 100, 3) := by decide +kernel
theorem dX6_advance_56 : decode cX6_advance 56 = .ok (.imul, 1) := by decide +kernel
theorem dX6_advance_57 : decode cX6_advance 57 = .ok (.iload_n 2, 1) := by decide +kernel
theorem dX6_advance_58 : decode cX6_advance 58 = .ok (.iadd, 1) := by decide +kernel
theorem dX6_advance_59 : decode cX6_advance 59 = .ok (.bipush 48, 2) := by decide +kernel
theorem dX6_advance_61 : decode cX6_advance 61 = .ok (.isub, 1) := by decide +kernel
theorem dX6_advance_62 : decode cX6_advance 62 = .ok (.goto 7, 3) := by decide +kernel
theorem dX6_advance_65 : decode cX6_advance 65 = .ok (.aload_n 0, 1) := by decide +kernel
theorem dX6_advance_66 : decode cX6_advance 66 = .ok (.getfield 100, 3) := by decide +kernel
theorem dX6_advance_69 : decode cX6_advance 69 = .ok (.putfield 100, 3) := by decide +kernel
theorem dX6_advance_72 : decode cX6_advance 72 = .ok (.iinc 1 1, 3) := by decide +kernel
theorem dX6_advance_75 : decode cX6_advance 75 = .ok (.aload_n 0, 1) := by decide +kernel
theorem dX6_advance_76 : decode cX6_advance 76 = .ok (.aload_n 0, 1) := by decide +kernel
theorem dX6_advance_77 : decode cX6_advance 77 = .ok (.getfield 103, 3) := by decide +kernel
theorem dX6_advance_80 : decode cX6_advance 80 = .ok (.iload_n 1, 1) := by decide +kernel
theorem dX6_advance_81 : decode cX6_advance 81 = .ok (.iadd, 1) := by decide +kernel
theorem dX6_advance_82 : decode cX6_advance 82 = .ok (.invokevirtual 106, 3) := by decide +kernel
theorem dX6_advance_85 : decode cX6_advance 85 = .ok (.istore_n 2, 1) := by decide +kernel
theorem dX6_advance_86 : decode cX6_advance 86 = .ok (.iinc 3 1, 3) := by decide +kernel
theorem dX6_advance_89 : decode cX6_advance 89 = .ok (.goto (-63), 3) := by decide +kernel
theorem dX6_advance_92 : decode cX6_advance 92 = .ok (.iload_n 1, 1) := by decide +kernel
theorem dX6_advance_93 : decode cX6_advance 93 = .ok (.ifCond .le 32, 3) := by decide +kernel
theorem dX6_advance_96 : decode cX6_advance 96 = .ok (.aload_n 0, 1) := by decide +kernel
theorem dX6_advance_97 : decode cX6_advance 97 = .ok (.iload_n 1, 1) := by decide +kernel
theorem dX6_advance_98 : decode cX6_advance 98 = .ok (.iconst 2, 1) := by decide +kernel
theorem dX6_advance_99 : decode cX6_advance 99 = .ok (.if_icmp .gt 8, 3) := by decide +kernel
theorem dX6_advance_102 : decode cX6_advance 102 = .ok (.bipush (-2), 2) := by decide +kernel
theorem dX6_advance_104 : decode cX6_advance 104 = .ok (.goto 5, 3) := by decide +kernel
theorem dX6_advance_107 : decode cX6_advance 107 = .ok (.bipush (-3), 2) := by decide +kernel
theorem dX6_advance_109 : decode cX6_advance 109 = .ok (.putfield 47, 3) := by decide +kernel
theorem dX6_advance_112 : decode cX6_advance 112 = .ok (.aload_n 0, 1) := by decide +kernel
theorem dX6_advance_113 : decode cX6_advance 113 = .ok (.aload_n 0, 1) := by decide +kernel
theorem dX6_advance_114 : decode cX6_advance 114 = .ok (.getfield 103, 3) := by decide +kernel
theorem dX6_advance_117 : decode cX6_advance 117 = .ok (.iload_n 1, 1) := by decide +kernel
theorem dX6_advance_118 : decode cX6_advance 118 = .ok (.iadd, 1) := by decide +kernel
theorem dX6_advance_119 : decode cX6_advance 119 = .ok (.putfield 27, 3) := by decide +kernel
theorem dX6_advance_122 : decode cX6_advance 122 = .ok (.goto 30, 3) := by decide +kernel
theorem dX6_advance_125 : decode cX6_advance 125 = .ok (.aload_n 0, 1) := by decide +kernel
theorem dX6_advance_126 : decode cX6_advance 126 = .ok (.iload_n 2, 1) := by decide +kernel
theorem dX6_advance_127 : decode cX6_advance 127 = .ok (.putfield 47, 3) := by decide +kernel
theorem dX6_advance_130 : decode cX6_advance 130 = .ok (.aload_n 0, 1) := by decide +kernel
theorem dX6_advance_131 : decode cX6_advance 131 = .ok (.iload_n 2, 1) := by decide +kernel
theorem dX6_advance_132 : decode cX6_advance 132 = .ok (.iconst (-1), 1) := by decide +kernel
theorem dX6_advance_133 : decode cX6_advance 133 = .ok (.if_icmp .ne 10, 3) := by decide +kernel
theorem dX6_advance_136 : decode cX6_advance 136 = .ok (.aload_n 0, 1) := by decide +kernel
theorem dX6_advance_137 : decode cX6_advance 137 = .ok (.getfield 103, 3) := by decide +kernel
theorem dX6_advance_140 : decode cX6_advance 140 = .ok (.goto 9, 3) := by decide +kernel
theorem dX6_advance_143 : decode cX6_advance 143 = .ok (.aload_n 0, 1) := by decide +kernel
theorem dX6_advance_144 : decode cX6_advance 144 = .ok (.getfield 103, 3) := by decide +kernel
theorem dX6_advance_147 : decode cX6_advance 147 = .ok (.iconst 1, 1) := by decide +kernel
theorem dX6_advance_148 : decode cX6_advance 148 = .ok (.iadd, 1) := by decide +kernel
theorem dX6_advance_149 : decode cX6_advance 149 = .ok (.putfield 27, 3) := by decide +kernel
theorem dX6_advance_152 : decode cX6_advance 152 = .ok (.return_, 1) := by decide +kernel
theorem dX6_byteAt_0 : decode cX6_byteAt 0 = .ok (.iload_n 1, 1) := by decide +kernel
theorem dX6_byteAt_1 : decode cX6_byteAt 1 = .ok (.ifCond .lt 29, 3) := by decide +kernel
theorem dX6_byteAt_4 : decode cX6_byteAt 4 = .ok (.iload_n 1, 1) := by decide +kernel
theorem dX6_byteAt_5 : decode cX6_byteAt 5 = .ok (.aload_n 0, 1) := by decide +kernel
theorem dX6_byteAt_6 : decode cX6_byteAt 6 = .ok (.getfield 15, 3) := by decide +kernel
theorem dX6_byteAt_9 : decode cX6_byteAt 9 = .ok (.if_icmp .ge 21, 3) := by decide +kernel
theorem dX6_byteAt_12 : decode cX6_byteAt 12 = .ok (.iload_n 1, 1) := by decide +kernel
theorem dX6_byteAt_13 : decode cX6_byteAt 13 = .ok (.aload_n 0, 1) := by decide +kernel
theorem dX6_byteAt_14 : decode cX6_byteAt 14 = .ok (.getfield 9, 3) := by decide +kernel
theorem dX6_byteAt_17 : decode cX6_byteAt 17 = .ok (.arraylength, 1) := by decide +kernel
theorem dX6_byteAt_18 : decode cX6_byteAt 18 = .ok (.if_icmp .ge 12, 3) := by decide +kernel
theorem dX6_byteAt_21 : decode cX6_byteAt 21 = .ok (.aload_n 0, 1) := by decide +kernel
theorem dX6_byteAt_22 : decode cX6_byteAt 22 = .ok (.getfield 9, 3) := by decide +kernel
theorem dX6_byteAt_25 : decode cX6_byteAt 25 = .ok (.iload_n 1, 1) := by decide +kernel
theorem dX6_byteAt_26 : decode cX6_byteAt 26 = .ok (.iaload, 1) := by decide +kernel
theorem dX6_byteAt_27 : decode cX6_byteAt 27 = .ok (.goto 4, 3) := by decide +kernel
theorem dX6_byteAt_30 : decode cX6_byteAt 30 = .ok (.iconst (-1), 1) := by decide +kernel
theorem dX6_byteAt_31 : decode cX6_byteAt 31 = .ok (.ireturn, 1) := by decide +kernel
theorem dX7_init_0 : decode cX7_init 0 = .ok (.aload_n 0, 1) := by decide +kernel
theorem dX7_init_1 : decode cX7_init 1 = .ok (.invokespecial 1, 3) := by decide +kernel
theorem dX7_init_4 : decode cX7_init 4 = .ok (.aload_n 0, 1) := by decide +kernel
theorem dX7_init_5 : decode cX7_init 5 = .ok (.bipush 8, 2) := by decide +kernel
theorem dX7_init_7 : decode cX7_init 7 = .ok (.anewarray 9, 3) := by decide +kernel
theorem dX7_init_10 : decode cX7_init 10 = .ok (.putfield 11, 3) := by decide +kernel
theorem dX7_init_13 : decode cX7_init 13 = .ok (.aload_n 0, 1) := by decide +kernel
theorem dX7_init_14 : decode cX7_init 14 = .ok (.new 15, 3) := by decide +kernel
theorem dX7_init_17 : decode cX7_init 17 = .ok (.dup, 1) := by decide +kernel
theorem dX7_init_18 : decode cX7_init 18 = .ok (.invokespecial 17, 3) := by decide +kernel
theorem dX7_init_21 : decode cX7_init 21 = .ok (.putfield 18, 3) := by decide +kernel
theorem dX7_init_24 : decode cX7_init 24 = .ok (.aload_n 0, 1) := by decide +kernel
theorem dX7_init_25 : decode cX7_init 25 = .ok (.new 22, 3) := by decide +kernel
theorem dX7_init_28 : decode cX7_init 28 = .ok (.dup, 1) := by decide +kernel
theorem dX7_init_29 : decode cX7_init 29 = .ok (.invokespecial 24, 3) := by decide +kernel
theorem dX7_init_32 : decode cX7_init 32 = .ok (.putfield 25, 3) := by decide +kernel
theorem dX7_init_35 : decode cX7_init 35 = .ok (.aload_n 0, 1) := by decide +kernel
theorem dX7_init_36 : decode cX7_init 36 = .ok (.new 29, 3) := by decide +kernel
theorem dX7_init_39 : decode cX7_init 39 = .ok (.dup, 1) := by decide +kernel
theorem dX7_init_40 : decode cX7_init 40 = .ok (.invokespecial 31, 3) := by decide +kernel
theorem dX7_init_43 : decode cX7_init 43 = .ok (.putfield 32, 3) := by decide +kernel
theorem dX7_init_46 : decode cX7_init 46 = .ok (.aload_n 0, 1) := by decide +kernel
theorem dX7_init_47 : decode cX7_init 47 = .ok (.new 36, 3) := by decide +kernel
theorem dX7_init_50 : decode cX7_init 50 = .ok (.dup, 1) := by decide +kernel
theorem dX7_init_51 : decode cX7_init 51 = .ok (.invokespecial 38, 3) := by decide +kernel
theorem dX7_init_54 : decode cX7_init 54 = .ok (.putfield 39, 3) := by decide +kernel
theorem dX7_init_57 : decode cX7_init 57 = .ok (.aload_n 0, 1) := by decide +kernel
theorem dX7_init_58 : decode cX7_init 58 = .ok (.new 36, 3) := by decide +kernel
theorem dX7_init_61 : decode cX7_init 61 = .ok (.dup, 1) := by decide +kernel
theorem dX7_init_62 : decode cX7_init 62 = .ok (.invokespecial 38, 3) := by decide +kernel
theorem dX7_init_65 : decode cX7_init 65 = .ok (.putfield 43, 3) := by decide +kernel
theorem dX7_init_68 : decode cX7_init 68 = .ok (.aload_n 0, 1) := by decide +kernel
theorem dX7_init_69 : decode cX7_init 69 = .ok (.new 36, 3) := by decide +kernel
theorem dX7_init_72 : decode cX7_init 72 = .ok (.dup, 1) := by decide +kernel
theorem dX7_init_73 : decode cX7_init 73 = .ok (.invokespecial 38, 3) := by decide +kernel
theorem dX7_init_76 : decode cX7_init 76 = .ok (.putfield 46, 3) := by decide +kernel
theorem dX7_init_79 : decode cX7_init 79 = .ok (.aload_n 0, 1) := by decide +kernel
theorem dX7_init_80 : decode cX7_init 80 = .ok (.new 36, 3) := by decide +kernel
theorem dX7_init_83 : decode cX7_init 83 = .ok (.dup, 1) := by decide +kernel
theorem dX7_init_84 : decode cX7_init 84 = .ok (.invokespecial 38, 3) := by decide +kernel
theorem dX7_init_87 : decode cX7_init 87 = .ok (.putfield 49, 3) := by decide +kernel
theorem dX7_init_90 : decode cX7_init 90 = .ok (.iconst 0, 1) := by decide +kernel
theorem dX7_init_91 : decode cX7_init 91 = .ok (.istore_n 1, 1) := by decide +kernel
theorem dX7_init_92 : decode cX7_init 92 = .ok (.iload_n 1, 1) := by decide +kernel
theorem dX7_init_93 : decode cX7_init 93 = .ok (.aload_n 0, 1) := by decide +kernel
theorem dX7_init_94 : decode cX7_init 94 = .ok (.getfield 11, 3) := by decide +kernel
theorem dX7_init_97 : decode cX7_init 97 = .ok (.arraylength, 1) := by decide +kernel
theorem dX7_init_98 : decode cX7_init 98 = .ok (.if_icmp .ge 22, 3) := by decide +kernel
theorem dX7_init_101 : decode cX7_init 101 = .ok (.aload_n 0, 1) := by decide +kernel
theorem dX7_init_102 : decode cX7_init 102 = .ok (.getfield 11, 3) := by decide +kernel
theorem dX7_init_105 : decode cX7_init 105 = .ok (.iload_n 1, 1) := by decide +kernel
theorem dX7_init_106 : decode cX7_init 106 = .ok (.new 9, 3) := by decide +kernel
theorem dX7_init_109 : decode cX7_init 109 = .ok (.dup, 1) := by decide +kernel
theorem dX7_init_110 : decode cX7_init 110 = .ok (.invokespecial 52, 3) := by decide +kernel
theorem dX7_init_113 : decode cX7_init 113 = .ok (.aastore, 1) := by decide +kernel
theorem dX7_init_114 : decode cX7_init 114 = .ok (.iinc 1 1, 3) := by decide +kernel
theorem dX7_init_117 : decode cX7_init 117 = .ok (.goto (-25), 3) := by decide +kernel
theorem dX7_init_120 : decode cX7_init 120 = .ok (.return_, 1) := by decide +kernel
theorem dX7_row_0 : decode cX7_row 0 = .ok (.aload_n 0, 1) := by decide +kernel
theorem dX7_row_1 : decode cX7_row 1 = .ok (.iload_n 1, 1) := by decide +kernel
theorem dX7_row_2 : decode cX7_row 2 = .ok (.invokevirtual 53, 3) := by decide +kernel
theorem dX7_row_5 : decode cX7_row 5 = .ok (.astore 4, 2) := by decide +kernel
theorem dX7_row_7 : decode cX7_row 7 = .ok (.aload 4, 2) := by decide +kernel
theorem dX7_row_9 : decode cX7_row 9 = .ok (.ifnull 18, 3) := by decide +kernel
theorem dX7_row_12 : decode cX7_row 12 = .ok (.iload_n 2, 1) := by decide +kernel
theorem dX7_row_13 : decode cX7_row 13 = .ok (.iconst 0, 1) := by decide +kernel
theorem dX7_row_14 : decode cX7_row 14 = .ok (.iconst 2, 1) := by decide +kernel
theorem dX7_row_15 : decode cX7_row 15 = .ok (.invokestatic 57, 3) := by decide +kernel
theorem dX7_row_18 : decode cX7_row 18 = .ok (.ifCond .eq 9, 3) := by decide +kernel
theorem dX7_row_21 : decode cX7_row 21 = .ok (.iload_n 3, 1) := by decide +kernel
theorem dX7_row_22 : decode cX7_row 22 = .ok (.bipush 40, 2) := by decide +kernel
theorem dX7_row_24 : decode cX7_row 24 = .ok (.if_icmp .le 6, 3) := by decide +kernel
theorem dX7_row_27 : decode cX7_row 27 = .ok (.ldc 61, 2) := by decide +kernel
theorem dX7_row_29 : decode cX7_row 29 = .ok (.ireturn, 1) := by decide +kernel
theorem dX7_row_30 : decode cX7_row 30 = .ok (.iload_n 3, 1) := by decide +kernel
theorem dX7_row_31 : decode cX7_row 31 = .ok (.ifCond .ge 9, 3) := by decide +kernel
theorem dX7_row_34 : decode cX7_row 34 = .ok (.aload_n 0, 1) := by decide +kernel
theorem dX7_row_35 : decode cX7_row 35 = .ok (.iconst 4, 1) := by decide +kernel
theorem dX7_row_36 : decode cX7_row 36 = .ok (.invokevirtual 62, 3) := by decide +kernel
theorem dX7_row_39 : decode cX7_row 39 = .ok (.ireturn, 1) := by decide +kernel
theorem dX7_row_40 : decode cX7_row 40 = .ok (.aload_n 0, 1) := by decide +kernel
theorem dX7_row_41 : decode cX7_row 41 = .ok (.iconst 0, 1) := by decide +kernel
theorem dX7_row_42 : decode cX7_row 42 = .ok (.putfield 66, 3) := by decide +kernel
theorem dX7_row_45 : decode cX7_row 45 = .ok (.aload 4, 2) := by decide +kernel
theorem dX7_row_47 : decode cX7_row 47 = .ok (.iload_n 2, 1) := by decide +kernel
theorem dX7_row_48 : decode cX7_row 48 = .ok (.iload_n 3, 1) := by decide +kernel
theorem dX7_row_49 : decode cX7_row 49 = .ok (.invokevirtual 70, 3) := by decide +kernel
theorem dX7_row_52 : decode cX7_row 52 = .ok (.iload_n 3, 1) := by decide +kernel
theorem dX7_row_53 : decode cX7_row 53 = .ok (.ireturn, 1) := by decide +kernel
theorem dX7_set_0 : decode cX7_set 0 = .ok (.aload_n 0, 1) := by decide +kernel
theorem dX7_set_1 : decode cX7_set 1 = .ok (.iload_n 1, 1) := by decide +kernel
theorem dX7_set_2 : decode cX7_set 2 = .ok (.invokevirtual 53, 3) := by decide +kernel
theorem dX7_set_5 : decode cX7_set 5 = .ok (.astore 4, 2) := by decide +kernel
theorem dX7_set_7 : decode cX7_set 7 = .ok (.aload 4, 2) := by decide +kernel
theorem dX7_set_9 : decode cX7_set 9 = .ok (.ifnonnull 6, 3) := by decide +kernel
theorem dX7_set_12 : decode cX7_set 12 = .ok (.ldc 61, 2) := by decide +kernel
theorem dX7_set_14 : decode cX7_set 14 = .ok (.ireturn, 1) := by decide +kernel
theorem dX7_set_15 : decode cX7_set 15 = .ok (.aload 4, 2) := by decide +kernel
theorem dX7_set_17 : decode cX7_set 17 = .ok (.getfield 74, 3) := by decide +kernel
theorem dX7_set_20 : decode cX7_set 20 = .ok (.ifCond .ne 9, 3) := by decide +kernel
theorem dX7_set_23 : decode cX7_set 23 = .ok (.aload_n 0, 1) := by decide +kernel
theorem dX7_set_24 : decode cX7_set 24 = .ok (.iconst 1, 1) := by decide +kernel
theorem dX7_set_25 : decode cX7_set 25 = .ok (.invokevirtual 62, 3) := by decide +kernel
theorem dX7_set_28 : decode cX7_set 28 = .ok (.ireturn, 1) := by decide +kernel
theorem dX7_set_29 : decode cX7_set 29 = .ok (.aload 4, 2) := by decide +kernel
theorem dX7_set_31 : decode cX7_set 31 = .ok (.iload_n 2, 1) := by decide +kernel
theorem dX7_set_32 : decode cX7_set 32 = .ok (.iconst 1, 1) := by decide +kernel
theorem dX7_set_33 : decode cX7_set 33 = .ok (.invokevirtual 78, 3) := by decide +kernel
theorem dX7_set_36 : decode cX7_set 36 = .ok (.ifCond .ne 9, 3) := by decide +kernel
theorem dX7_set_39 : decode cX7_set 39 = .ok (.aload_n 0, 1) := by decide +kernel
theorem dX7_set_40 : decode cX7_set 40 = .ok (.iconst 2, 1) := by decide +kernel
theorem dX7_set_41 : decode cX7_set 41 = .ok (.invokevirtual 62, 3) := by decide +kernel
theorem dX7_set_44 : decode cX7_set 44 = .ok (.ireturn, 1) := by decide +kernel
theorem dX7_set_45 : decode cX7_set 45 = .ok (.aload_n 0, 1) := by decide +kernel
theorem dX7_set_46 : decode cX7_set 46 = .ok (.iconst 0, 1) := by decide +kernel
theorem dX7_set_47 : decode cX7_set 47 = .ok (.putfield 66, 3) := by decide +kernel
theorem dX7_set_50 : decode cX7_set 50 = .ok (.aload 4, 2) := by decide +kernel
theorem dX7_set_52 : decode cX7_set 52 = .ok (.iload_n 2, 1) := by decide +kernel
theorem dX7_set_53 : decode cX7_set 53 = .ok (.iload_n 3, 1) := by decide +kernel
theorem dX7_set_54 : decode cX7_set 54 = .ok (.invokevirtual 82, 3) := by decide +kernel
theorem dX7_set_57 : decode cX7_set 57 = .ok (.ireturn, 1) := by decide +kernel
theorem dX7_copy_0 : decode cX7_copy 0 = .ok (.aload_n 0, 1) := by decide +kernel
theorem dX7_copy_1 : decode cX7_copy 1 = .ok (.iload_n 1, 1) := by decide +kernel
theorem dX7_copy_2 : decode cX7_copy 2 = .ok (.invokevirtual 53, 3) := by decide +kernel
theorem dX7_copy_5 : decode cX7_copy 5 = .ok (.astore 6, 2) := by decide +kernel
theorem dX7_copy_7 : decode cX7_copy 7 = .ok (.aload_n 0, 1) := by decide +kernel
theorem dX7_copy_8 : decode cX7_copy 8 = .ok (.iload_n 3, 1) := by decide +kernel
theorem dX7_copy_9 : decode cX7_copy 9 = .ok (.invokevirtual 53, 3) := by decide +kernel
theorem dX7_copy_12 : decode cX7_copy 12 = .ok (.astore 7, 2) := by decide +kernel
theorem dX7_copy_14 : decode cX7_copy 14 = .ok (.aload 6, 2) := by decide +kernel
theorem dX7_copy_16 : decode cX7_copy 16 = .ok (.ifnull 8, 3) := by decide +kernel
theorem dX7_copy_19 : decode cX7_copy 19 = .ok (.aload 7, 2) := by decide +kernel
theorem dX7_copy_21 : decode cX7_copy 21 = .ok (.ifnonnull 6, 3) := by decide +kernel
theorem dX7_copy_24 : decode cX7_copy 24 = .ok (.ldc 61, 2) := by decide +kernel
theorem dX7_copy_26 : decode cX7_copy 26 = .ok (.ireturn, 1) := by decide +kernel
theorem dX7_copy_27 : decode cX7_copy 27 = .ok (.aload 6, 2) := by decide +kernel
theorem dX7_copy_29 : decode cX7_copy 29 = .ok (.getfield 74, 3) := by decide +kernel
theorem dX7_copy_32 : decode cX7_copy 32 = .ok (.ifCond .eq 11, 3) := by decide +kernel
theorem dX7_copy_35 : decode cX7_copy 35 = .ok (.aload 7, 2) := by decide +kernel
theorem dX7_copy_37 : decode cX7_copy 37 = .ok (.getfield 74, 3) := by decide +kernel
theorem dX7_copy_40 : decode cX7_copy 40 = .ok (.ifCond .ne 9, 3) := by decide +kernel
theorem dX7_copy_43 : decode cX7_copy 43 = .ok (.aload_n 0, 1) := by decide +kernel
theorem dX7_copy_44 : decode cX7_copy 44 = .ok (.iconst 1, 1) := by decide +kernel
theorem dX7_copy_45 : decode cX7_copy 45 = .ok (.invokevirtual 62, 3) := by decide +kernel
theorem dX7_copy_48 : decode cX7_copy 48 = .ok (.ireturn, 1) := by decide +kernel
theorem dX7_copy_49 : decode cX7_copy 49 = .ok (.aload 6, 2) := by decide +kernel
theorem dX7_copy_51 : decode cX7_copy 51 = .ok (.getfield 86, 3) := by decide +kernel
theorem dX7_copy_54 : decode cX7_copy 54 = .ok (.aload 7, 2) := by decide +kernel
theorem dX7_copy_56 : decode cX7_copy 56 = .ok (.getfield 86, 3) := by decide +kernel
theorem dX7_copy_59 : decode cX7_copy 59 = .ok (.if_icmp .eq 9, 3) := by decide +kernel
theorem dX7_copy_62 : decode cX7_copy 62 = .ok (.aload_n 0, 1) := by decide +kernel
theorem dX7_copy_63 : decode cX7_copy 63 = .ok (.iconst 5, 1) := by decide +kernel
theorem dX7_copy_64 : decode cX7_copy 64 = .ok (.invokevirtual 62, 3) := by decide +kernel
theorem dX7_copy_67 : decode cX7_copy 67 = .ok (.ireturn, 1) := by decide +kernel
theorem dX7_copy_68 : decode cX7_copy 68 = .ok (.aload 6, 2) := by decide +kernel
theorem dX7_copy_70 : decode cX7_copy 70 = .ok (.iload_n 2, 1) := by decide +kernel
theorem dX7_copy_71 : decode cX7_copy 71 = .ok (.iload 5, 2) := by decide +kernel
theorem dX7_copy_73 : decode cX7_copy 73 = .ok (.invokevirtual 78, 3) := by decide +kernel
theorem dX7_copy_76 : decode cX7_copy 76 = .ok (.ifCond .eq 15, 3) := by decide +kernel
theorem dX7_copy_79 : decode cX7_copy 79 = .ok (.aload 7, 2) := by decide +kernel
theorem dX7_copy_81 : decode cX7_copy 81 = .ok (.iload 4, 2) := by decide +kernel
theorem dX7_copy_83 : decode cX7_copy 83 = .ok (.iload 5, 2) := by decide +kernel
theorem dX7_copy_85 : decode cX7_copy 85 = .ok (.invokevirtual 78, 3) := by decide +kernel
theorem dX7_copy_88 : decode cX7_copy 88 = .ok (.ifCond .ne 9, 3) := by decide +kernel
theorem dX7_copy_91 : decode cX7_copy 91 = .ok (.aload_n 0, 1) := by decide +kernel
theorem dX7_copy_92 : decode cX7_copy 92 = .ok (.iconst 2, 1) := by decide +kernel
theorem dX7_copy_93 : decode cX7_copy 93 = .ok (.invokevirtual 62, 3) := by decide +kernel
theorem dX7_copy_96 : decode cX7_copy 96 = .ok (.ireturn, 1) := by decide +kernel
theorem dX7_copy_97 : decode cX7_copy 97 = .ok (.aload_n 0, 1) := by decide +kernel
theorem dX7_copy_98 : decode cX7_copy 98 = .ok (.iconst 0, 1) := by decide +kernel
theorem dX7_copy_99 : decode cX7_copy 99 = .ok (.putfield 66, 3) := by decide +kernel
theorem dX7_copy_102 : decode cX7_copy 102 = .ok (.aload 6, 2) := by decide +kernel
theorem dX7_copy_104 : decode cX7_copy 104 = .ok (.getfield 89, 3) := by decide +kernel
theorem dX7_copy_107 : decode cX7_copy 107 = .ok (.iload_n 2, 1) := by decide +kernel
theorem dX7_copy_108 : decode cX7_copy 108 = .ok (.aload 7, 2) := by decide +kernel
theorem dX7_copy_110 : decode cX7_copy 110 = .ok (.getfield 89, 3) := by decide +kernel
theorem dX7_copy_113 : decode cX7_copy 113 = .ok (.iload 4, 2) := by decide +kernel
theorem dX7_copy_115 : decode cX7_copy 115 = .ok (.iload 5, 2) := by decide +kernel
theorem dX7_copy_117 : decode cX7_copy 117 = .ok (.invokestatic 93, 3) := by decide +kernel
theorem dX7_copy_120 : decode cX7_copy 120 = .ok (.iload 5, 2) := by decide +kernel
theorem dX7_copy_122 : decode cX7_copy 122 = .ok (.ireturn, 1) := by decide +kernel
theorem dX7_drop_0 : decode cX7_drop 0 = .ok (.aload_n 0, 1) := by decide +kernel
theorem dX7_drop_1 : decode cX7_drop 1 = .ok (.iload_n 1, 1) := by decide +kernel
theorem dX7_drop_2 : decode cX7_drop 2 = .ok (.invokevirtual 53, 3) := by decide +kernel
theorem dX7_drop_5 : decode cX7_drop 5 = .ok (.astore_n 2, 1) := by decide +kernel
theorem dX7_drop_6 : decode cX7_drop 6 = .ok (.aload_n 2, 1) := by decide +kernel
theorem dX7_drop_7 : decode cX7_drop 7 = .ok (.ifnonnull 6, 3) := by decide +kernel
theorem dX7_drop_10 : decode cX7_drop 10 = .ok (.ldc 61, 2) := by decide +kernel
theorem dX7_drop_12 : decode cX7_drop 12 = .ok (.ireturn, 1) := by decide +kernel
theorem dX7_drop_13 : decode cX7_drop 13 = .ok (.aload_n 2, 1) := by decide +kernel
theorem dX7_drop_14 : decode cX7_drop 14 = .ok (.getfield 74, 3) := by decide +kernel
theorem dX7_drop_17 : decode cX7_drop 17 = .ok (.ifCond .ne 9, 3) := by decide +kernel
theorem dX7_drop_20 : decode cX7_drop 20 = .ok (.aload_n 0, 1) := by decide +kernel
theorem dX7_drop_21 : decode cX7_drop 21 = .ok (.iconst 1, 1) := by decide +kernel
theorem dX7_drop_22 : decode cX7_drop 22 = .ok (.invokevirtual 62, 3) := by decide +kernel
theorem dX7_drop_25 : decode cX7_drop 25 = .ok (.ireturn, 1) := by decide +kernel
theorem dX7_drop_26 : decode cX7_drop 26 = .ok (.aload_n 0, 1) := by decide +kernel
theorem dX7_drop_27 : decode cX7_drop 27 = .ok (.iconst 0, 1) := by decide +kernel
theorem dX7_drop_28 : decode cX7_drop 28 = .ok (.putfield 66, 3) := by decide +kernel
theorem dX7_drop_31 : decode cX7_drop 31 = .ok (.aload_n 2, 1) := by decide +kernel
theorem dX7_drop_32 : decode cX7_drop 32 = .ok (.iconst 0, 1) := by decide +kernel
theorem dX7_drop_33 : decode cX7_drop 33 = .ok (.putfield 74, 3) := by decide +kernel
theorem dX7_drop_36 : decode cX7_drop 36 = .ok (.aload_n 2, 1) := by decide +kernel
theorem dX7_drop_37 : decode cX7_drop 37 = .ok (.getfield 99, 3) := by decide +kernel
theorem dX7_drop_40 : decode cX7_drop 40 = .ok (.ireturn, 1) := by decide +kernel
theorem dX7_feed_0 : decode cX7_feed 0 = .ok (.iload_n 1, 1) := by decide +kernel
theorem dX7_feed_1 : decode cX7_feed 1 = .ok (.iconst 0, 1) := by decide +kernel
theorem dX7_feed_2 : decode cX7_feed 2 = .ok (.sipush 255, 3) := by decide +kernel
theorem dX7_feed_5 : decode cX7_feed 5 = .ok (.invokestatic 57, 3) := by decide +kernel
theorem dX7_feed_8 : decode cX7_feed 8 = .ok (.ifCond .ne 6, 3) := by decide +kernel
theorem dX7_feed_11 : decode cX7_feed 11 = .ok (.ldc 61, 2) := by decide +kernel
theorem dX7_feed_13 : decode cX7_feed 13 = .ok (.ireturn, 1) := by decide +kernel
theorem dX7_feed_14 : decode cX7_feed 14 = .ok (.aload_n 0, 1) := by decide +kernel
theorem dX7_feed_15 : decode cX7_feed 15 = .ok (.getfield 18, 3) := by decide +kernel
theorem dX7_feed_18 : decode cX7_feed 18 = .ok (.iload_n 1, 1) := by decide +kernel
theorem dX7_feed_19 : decode cX7_feed 19 = .ok (.invokevirtual 102, 3) := by decide +kernel
theorem dX7_feed_22 : decode cX7_feed 22 = .ok (.ifCond .eq 13, 3) := by decide +kernel
theorem dX7_feed_25 : decode cX7_feed 25 = .ok (.aload_n 0, 1) := by decide +kernel
theorem dX7_feed_26 : decode cX7_feed 26 = .ok (.getfield 18, 3) := by decide +kernel
theorem dX7_feed_29 : decode cX7_feed 29 = .ok (.getfield 106, 3) := by decide +kernel
theorem dX7_feed_32 : decode cX7_feed 32 = .ok (.goto 5, 3) := by decide +kernel
theorem dX7_feed_35 : decode cX7_feed 35 = .ok (.ldc 107, 2) := by decide +kernel
theorem dX7_feed_37 : decode cX7_feed 37 = .ok (.ireturn, 1) := by decide +kernel
theorem dX7_square_0 : decode cX7_square 0 = .ok (.aload_n 0, 1) := by decide +kernel
theorem dX7_square_1 : decode cX7_square 1 = .ok (.getfield 18, 3) := by decide +kernel
theorem dX7_square_4 : decode cX7_square 4 = .ok (.aload_n 0, 1) := by decide +kernel
theorem dX7_square_5 : decode cX7_square 5 = .ok (.getfield 43, 3) := by decide +kernel
theorem dX7_square_8 : decode cX7_square 8 = .ok (.invokevirtual 108, 3) := by decide +kernel
theorem dX7_square_11 : decode cX7_square 11 = .ok (.istore_n 1, 1) := by decide +kernel
theorem dX7_square_12 : decode cX7_square 12 = .ok (.aload_n 0, 1) := by decide +kernel
theorem dX7_square_13 : decode cX7_square 13 = .ok (.getfield 18, 3) := by decide +kernel
theorem dX7_square_16 : decode cX7_square 16 = .ok (.iconst 0, 1) := by decide +kernel
theorem dX7_square_17 : decode cX7_square 17 = .ok (.putfield 106, 3) := by decide +kernel
theorem dX7_square_20 : decode cX7_square 20 = .ok (.iload_n 1, 1) := by decide +kernel
theorem dX7_square_21 : decode cX7_square 21 = .ok (.ifCond .ne 25, 3) := by decide +kernel
theorem dX7_square_24 : decode cX7_square 24 = .ok (.aload_n 0, 1) := by decide +kernel
theorem dX7_square_25 : decode cX7_square 25 = .ok (.aload_n 0, 1) := by decide +kernel
theorem dX7_square_26 : decode cX7_square 26 = .ok (.getfield 18, 3) := by decide +kernel
theorem dX7_square_29 : decode cX7_square 29 = .ok (.getfield 112, 3) := by decide +kernel
theorem dX7_square_32 : decode cX7_square 32 = .ok (.putfield 115, 3) := by decide +kernel
theorem dX7_square_35 : decode cX7_square 35 = .ok (.ldc 118, 2) := by decide +kernel
theorem dX7_square_37 : decode cX7_square 37 = .ok (.aload_n 0, 1) := by decide +kernel
theorem dX7_square_38 : decode cX7_square 38 = .ok (.getfield 18, 3) := by decide +kernel
theorem dX7_square_41 : decode cX7_square 41 = .ok (.getfield 119, 3) := by decide +kernel
theorem dX7_square_44 : decode cX7_square 44 = .ok (.isub, 1) := by decide +kernel
theorem dX7_square_45 : decode cX7_square 45 = .ok (.ireturn, 1) := by decide +kernel
theorem dX7_square_46 : decode cX7_square 46 = .ok (.aload_n 0, 1) := by decide +kernel
theorem dX7_square_47 : decode cX7_square 47 = .ok (.getfield 39, 3) := by decide +kernel
theorem dX7_square_50 : decode cX7_square 50 = .ok (.aload_n 0, 1) := by decide +kernel
theorem dX7_square_51 : decode cX7_square 51 = .ok (.getfield 43, 3) := by decide +kernel
theorem dX7_square_54 : decode cX7_square 54 = .ok (.invokevirtual 122, 3) := by decide +kernel
theorem dX7_square_57 : decode cX7_square 57 = .ok (.aload_n 0, 1) := by decide +kernel
theorem dX7_square_58 : decode cX7_square 58 = .ok (.getfield 25, 3) := by decide +kernel
theorem dX7_square_61 : decode cX7_square 61 = .ok (.invokevirtual 126, 3) := by decide +kernel
theorem dX7_square_64 : decode cX7_square 64 = .ok (.aload_n 0, 1) := by decide +kernel
theorem dX7_square_65 : decode cX7_square 65 = .ok (.getfield 39, 3) := by decide +kernel
theorem dX7_square_68 : decode cX7_square 68 = .ok (.getfield 129, 3) := by decide +kernel
theorem dX7_square_71 : decode cX7_square 71 = .ok (.ireturn, 1) := by decide +kernel
theorem dX7_fault_0 : decode cX7_fault 0 = .ok (.aload_n 0, 1) := by decide +kernel
theorem dX7_fault_1 : decode cX7_fault 1 = .ok (.getfield 115, 3) := by decide +kernel
theorem dX7_fault_4 : decode cX7_fault 4 = .ok (.ireturn, 1) := by decide +kernel
theorem dX7_undo_0 : decode cX7_undo 0 = .ok (.aload_n 0, 1) := by decide +kernel
theorem dX7_undo_1 : decode cX7_undo 1 = .ok (.getfield 25, 3) := by decide +kernel
theorem dX7_undo_4 : decode cX7_undo 4 = .ok (.aload_n 0, 1) := by decide +kernel
theorem dX7_undo_5 : decode cX7_undo 5 = .ok (.getfield 39, 3) := by decide +kernel
theorem dX7_undo_8 : decode cX7_undo 8 = .ok (.invokevirtual 132, 3) := by decide +kernel
theorem dX7_undo_11 : decode cX7_undo 11 = .ok (.ifCond .eq 13, 3) := by decide +kernel
theorem dX7_undo_14 : decode cX7_undo 14 = .ok (.aload_n 0, 1) := by decide +kernel
theorem dX7_undo_15 : decode cX7_undo 15 = .ok (.getfield 25, 3) := by decide +kernel
theorem dX7_undo_18 : decode cX7_undo 18 = .ok (.getfield 135, 3) := by decide +kernel
theorem dX7_undo_21 : decode cX7_undo 21 = .ok (.goto 5, 3) := by decide +kernel
theorem dX7_undo_24 : decode cX7_undo 24 = .ok (.ldc 138, 2) := by decide +kernel
theorem dX7_undo_26 : decode cX7_undo 26 = .ok (.ireturn, 1) := by decide +kernel
theorem dX7_hours_0 : decode cX7_hours 0 = .ok (.aload_n 0, 1) := by decide +kernel
theorem dX7_hours_1 : decode cX7_hours 1 = .ok (.getfield 39, 3) := by decide +kernel
theorem dX7_hours_4 : decode cX7_hours 4 = .ok (.invokevirtual 139, 3) := by decide +kernel
theorem dX7_hours_7 : decode cX7_hours 7 = .ok (.ifCond .ne 6, 3) := by decide +kernel
theorem dX7_hours_10 : decode cX7_hours 10 = .ok (.ldc 138, 2) := by decide +kernel
theorem dX7_hours_12 : decode cX7_hours 12 = .ok (.ireturn, 1) := by decide +kernel
theorem dX7_hours_13 : decode cX7_hours 13 = .ok (.iload_n 1, 1) := by decide +kernel
theorem dX7_hours_14 : decode cX7_hours 14 = .ok (.iconst 1, 1) := by decide +kernel
theorem dX7_hours_15 : decode cX7_hours 15 = .ok (.bipush 24, 2) := by decide +kernel
theorem dX7_hours_17 : decode cX7_hours 17 = .ok (.invokestatic 57, 3) := by decide +kernel
theorem dX7_hours_20 : decode cX7_hours 20 = .ok (.ifCond .ne 6, 3) := by decide +kernel
theorem dX7_hours_23 : decode cX7_hours 23 = .ok (.ldc 61, 2) := by decide +kernel
theorem dX7_hours_25 : decode cX7_hours 25 = .ok (.ireturn, 1) := by decide +kernel
theorem dX7_hours_26 : decode cX7_hours 26 = .ok (.aload_n 0, 1) := by decide +kernel
theorem dX7_hours_27 : decode cX7_hours 27 = .ok (.getfield 39, 3) := by decide +kernel
theorem dX7_hours_30 : decode cX7_hours 30 = .ok (.getfield 143, 3) := by decide +kernel
theorem dX7_hours_33 : decode cX7_hours 33 = .ok (.iload_n 1, 1) := by decide +kernel
theorem dX7_hours_34 : decode cX7_hours 34 = .ok (.iadd, 1) := by decide +kernel
theorem dX7_hours_35 : decode cX7_hours 35 = .ok (.sipush 999, 3) := by decide +kernel
theorem dX7_hours_38 : decode cX7_hours 38 = .ok (.if_icmp .le 6, 3) := by decide +kernel
theorem dX7_hours_41 : decode cX7_hours 41 = .ok (.ldc 107, 2) := by decide +kernel
theorem dX7_hours_43 : decode cX7_hours 43 = .ok (.ireturn, 1) := by decide +kernel
theorem dX7_hours_44 : decode cX7_hours 44 = .ok (.iconst 0, 1) := by decide +kernel
theorem dX7_hours_45 : decode cX7_hours 45 = .ok (.istore_n 2, 1) := by decide +kernel
theorem dX7_hours_46 : decode cX7_hours 46 = .ok (.iconst 0, 1) := by decide +kernel
theorem dX7_hours_47 : decode cX7_hours 47 = .ok (.istore_n 3, 1) := by decide +kernel
theorem dX7_hours_48 : decode cX7_hours 48 = .ok (.iload_n 3, 1) := by decide +kernel
theorem dX7_hours_49 : decode cX7_hours 49 = .ok (.iload_n 1, 1) := by decide +kernel
theorem dX7_hours_50 : decode cX7_hours 50 = .ok (.if_icmp .ge 30, 3) := by decide +kernel
theorem dX7_hours_53 : decode cX7_hours 53 = .ok (.aload_n 0, 1) := by decide +kernel
theorem dX7_hours_54 : decode cX7_hours 54 = .ok (.getfield 25, 3) := by decide +kernel
theorem dX7_hours_57 : decode cX7_hours 57 = .ok (.aload_n 0, 1) := by decide +kernel
theorem dX7_hours_58 : decode cX7_hours 58 = .ok (.getfield 39, 3) := by decide +kernel
theorem dX7_hours_61 : decode cX7_hours 61 = .ok (.invokevirtual 146, 3) := by decide +kernel
theorem dX7_hours_64 : decode cX7_hours 64 = .ok (.iload_n 2, 1) := by decide +kernel
theorem dX7_hours_65 : decode cX7_hours 65 = .ok (.aload_n 0, 1) := by decide +kernel
theorem dX7_hours_66 : decode cX7_hours 66 = .ok (.getfield 39, 3) := by decide +kernel
theorem dX7_hours_69 : decode cX7_hours 69 = .ok (.invokevirtual 149, 3) := by decide +kernel
theorem dX7_hours_72 : decode cX7_hours 72 = .ok (.iadd, 1) := by decide +kernel
theorem dX7_hours_73 : decode cX7_hours 73 = .ok (.istore_n 2, 1) := by decide +kernel
theorem dX7_hours_74 : decode cX7_hours 74 = .ok (.iinc 3 1, 3) := by decide +kernel
theorem dX7_hours_77 : decode cX7_hours 77 = .ok (.goto (-29), 3) := by decide +kernel
theorem dX7_hours_80 : decode cX7_hours 80 = .ok (.iload_n 2, 1) := by decide +kernel
theorem dX7_hours_81 : decode cX7_hours 81 = .ok (.ireturn, 1) := by decide +kernel
theorem dX7_hang_0 : decode cX7_hang 0 = .ok (.aload_n 0, 1) := by decide +kernel
theorem dX7_hang_1 : decode cX7_hang 1 = .ok (.getfield 39, 3) := by decide +kernel
theorem dX7_hang_4 : decode cX7_hang 4 = .ok (.iload_n 1, 1) := by decide +kernel
theorem dX7_hang_5 : decode cX7_hang 5 = .ok (.invokevirtual 153, 3) := by decide +kernel
theorem dX7_hang_8 : decode cX7_hang 8 = .ok (.astore_n 3, 1) := by decide +kernel
theorem dX7_hang_9 : decode cX7_hang 9 = .ok (.aload_n 3, 1) := by decide +kernel
theorem dX7_hang_10 : decode cX7_hang 10 = .ok (.ifnull 13, 3) := by decide +kernel
theorem dX7_hang_13 : decode cX7_hang 13 = .ok (.iload_n 2, 1) := by decide +kernel
theorem dX7_hang_14 : decode cX7_hang 14 = .ok (.iconst 0, 1) := by decide +kernel
theorem dX7_hang_15 : decode cX7_hang 15 = .ok (.bipush 9, 2) := by decide +kernel
theorem dX7_hang_17 : decode cX7_hang 17 = .ok (.invokestatic 57, 3) := by decide +kernel
theorem dX7_hang_20 : decode cX7_hang 20 = .ok (.ifCond .ne 6, 3) := by decide +kernel
theorem dX7_hang_23 : decode cX7_hang 23 = .ok (.ldc 61, 2) := by decide +kernel
theorem dX7_hang_25 : decode cX7_hang 25 = .ok (.ireturn, 1) := by decide +kernel
theorem dX7_hang_26 : decode cX7_hang 26 = .ok (.aload_n 3, 1) := by decide +kernel
theorem dX7_hang_27 : decode cX7_hang 27 = .ok (.invokevirtual 157, 3) := by decide +kernel
theorem dX7_hang_30 : decode cX7_hang 30 = .ok (.ifCond .eq 6, 3) := by decide +kernel
theorem dX7_hang_33 : decode cX7_hang 33 = .ok (.ldc 138, 2) := by decide +kernel
theorem dX7_hang_35 : decode cX7_hang 35 = .ok (.ireturn, 1) := by decide +kernel
theorem dX7_hang_36 : decode cX7_hang 36 = .ok (.aload_n 0, 1) := by decide +kernel
theorem dX7_hang_37 : decode cX7_hang 37 = .ok (.getfield 25, 3) := by decide +kernel
theorem dX7_hang_40 : decode cX7_hang 40 = .ok (.aload_n 0, 1) := by decide +kernel
theorem dX7_hang_41 : decode cX7_hang 41 = .ok (.getfield 39, 3) := by decide +kernel
theorem dX7_hang_44 : decode cX7_hang 44 = .ok (.invokevirtual 146, 3) := by decide +kernel
theorem dX7_hang_47 : decode cX7_hang 47 = .ok (.aload_n 3, 1) := by decide +kernel
theorem dX7_hang_48 : decode cX7_hang 48 = .ok (.getfield 162, 3) := by decide +kernel
theorem dX7_hang_51 : decode cX7_hang 51 = .ok (.istore 4, 2) := by decide +kernel
theorem dX7_hang_53 : decode cX7_hang 53 = .ok (.aload_n 3, 1) := by decide +kernel
theorem dX7_hang_54 : decode cX7_hang 54 = .ok (.iload_n 2, 1) := by decide +kernel
theorem dX7_hang_55 : decode cX7_hang 55 = .ok (.putfield 162, 3) := by decide +kernel
theorem dX7_hang_58 : decode cX7_hang 58 = .ok (.iload 4, 2) := by decide +kernel
theorem dX7_hang_60 : decode cX7_hang 60 = .ok (.ireturn, 1) := by decide +kernel
theorem dX7_salt_0 : decode cX7_salt 0 = .ok (.aload_n 0, 1) := by decide +kernel
theorem dX7_salt_1 : decode cX7_salt 1 = .ok (.getfield 39, 3) := by decide +kernel
theorem dX7_salt_4 : decode cX7_salt 4 = .ok (.iload_n 1, 1) := by decide +kernel
theorem dX7_salt_5 : decode cX7_salt 5 = .ok (.invokevirtual 153, 3) := by decide +kernel
theorem dX7_salt_8 : decode cX7_salt 8 = .ok (.astore_n 2, 1) := by decide +kernel
theorem dX7_salt_9 : decode cX7_salt 9 = .ok (.aload_n 2, 1) := by decide +kernel
theorem dX7_salt_10 : decode cX7_salt 10 = .ok (.ifnonnull 6, 3) := by decide +kernel
theorem dX7_salt_13 : decode cX7_salt 13 = .ok (.ldc 61, 2) := by decide +kernel
theorem dX7_salt_15 : decode cX7_salt 15 = .ok (.ireturn, 1) := by decide +kernel
theorem dX7_salt_16 : decode cX7_salt 16 = .ok (.aload_n 2, 1) := by decide +kernel
theorem dX7_salt_17 : decode cX7_salt 17 = .ok (.getfield 165, 3) := by decide +kernel
theorem dX7_salt_20 : decode cX7_salt 20 = .ok (.bipush 19, 2) := by decide +kernel
theorem dX7_salt_22 : decode cX7_salt 22 = .ok (.if_icmp .lt 6, 3) := by decide +kernel
theorem dX7_salt_25 : decode cX7_salt 25 = .ok (.ldc 107, 2) := by decide +kernel
theorem dX7_salt_27 : decode cX7_salt 27 = .ok (.ireturn, 1) := by decide +kernel
theorem dX7_salt_28 : decode cX7_salt 28 = .ok (.aload_n 0, 1) := by decide +kernel
theorem dX7_salt_29 : decode cX7_salt 29 = .ok (.getfield 25, 3) := by decide +kernel
theorem dX7_salt_32 : decode cX7_salt 32 = .ok (.aload_n 0, 1) := by decide +kernel
theorem dX7_salt_33 : decode cX7_salt 33 = .ok (.getfield 39, 3) := by decide +kernel
theorem dX7_salt_36 : decode cX7_salt 36 = .ok (.invokevirtual 146, 3) := by decide +kernel
theorem dX7_salt_39 : decode cX7_salt 39 = .ok (.aload_n 2, 1) := by decide +kernel
theorem dX7_salt_40 : decode cX7_salt 40 = .ok (.dup, 1) := by decide +kernel
theorem dX7_salt_41 : decode cX7_salt 41 = .ok (.getfield 165, 3) := by decide +kernel
theorem dX7_salt_44 : decode cX7_salt 44 = .ok (.iconst 1, 1) := by decide +kernel
theorem dX7_salt_45 : decode cX7_salt 45 = .ok (.iadd, 1) := by decide +kernel
theorem dX7_salt_46 : decode cX7_salt 46 = .ok (.putfield 165, 3) := by decide +kernel
theorem dX7_salt_49 : decode cX7_salt 49 = .ok (.aload_n 2, 1) := by decide +kernel
theorem dX7_salt_50 : decode cX7_salt 50 = .ok (.getfield 165, 3) := by decide +kernel
theorem dX7_salt_53 : decode cX7_salt 53 = .ok (.ireturn, 1) := by decide +kernel
theorem dX7_transcribe_0 : decode cX7_transcribe 0 = .ok (.aload_n 0, 1) := by decide +kernel
theorem dX7_transcribe_1 : decode cX7_transcribe 1 = .ok (.getfield 39, 3) := by decide +kernel
theorem dX7_transcribe_4 : decode cX7_transcribe 4 = .ok (.iload_n 1, 1) := by decide +kernel
theorem dX7_transcribe_5 : decode cX7_transcribe 5 = .ok (.invokevirtual 153, 3) := by decide +kernel
theorem dX7_transcribe_8 : decode cX7_transcribe 8 = .ok (.astore_n 2, 1) := by decide +kernel
theorem dX7_transcribe_9 : decode cX7_transcribe 9 = .ok (.aload_n 2, 1) := by decide +kernel
theorem dX7_transcribe_10 : decode cX7_transcribe 10 = .ok (.ifnonnull 6, 3) := by decide +kernel
theorem dX7_transcribe_13 : decode cX7_transcribe 13 = .ok (.ldc 61, 2) := by decide +kernel
theorem dX7_transcribe_15 : decode cX7_transcribe 15 = .ok (.ireturn, 1) := by decide +kernel
theorem dX7_transcribe_16 : decode cX7_transcribe 16 = .ok (.aload_n 0, 1) := by decide +kernel
theorem dX7_transcribe_17 : decode cX7_transcribe 17 = .ok (.getfield 25, 3) := by decide +kernel
theorem dX7_transcribe_20 : decode cX7_transcribe 20 = .ok (.aload_n 0, 1) := by decide +kernel
theorem dX7_transcribe_21 : decode cX7_transcribe 21 = .ok (.getfield 39, 3) := by decide +kernel
theorem dX7_transcribe_24 : decode cX7_transcribe 24 = .ok (.invokevirtual 146, 3) := by decide +kernel
theorem dX7_transcribe_27 : decode cX7_transcribe 27 = .ok (.aload_n 2, 1) := by decide +kernel
theorem dX7_transcribe_28 : decode cX7_transcribe 28 = .ok (.getfield 168, 3) := by decide +kernel
theorem dX7_transcribe_31 : decode cX7_transcribe 31 = .ok (.istore_n 3, 1) := by decide +kernel
theorem dX7_transcribe_32 : decode cX7_transcribe 32 = .ok (.aload_n 2, 1) := by decide +kernel
theorem dX7_transcribe_33 : decode cX7_transcribe 33 = .ok (.aload_n 2, 1) := by decide +kernel
theorem dX7_transcribe_34 : decode cX7_transcribe 34 = .ok (.getfield 171, 3) := by decide +kernel
theorem dX7_transcribe_37 : decode cX7_transcribe 37 = .ok (.putfield 168, 3) := by decide +kernel
theorem dX7_transcribe_40 : decode cX7_transcribe 40 = .ok (.iload_n 3, 1) := by decide +kernel
theorem dX7_transcribe_41 : decode cX7_transcribe 41 = .ok (.ireturn, 1) := by decide +kernel
theorem dX7_drive_0 : decode cX7_drive 0 = .ok (.aload_n 0, 1) := by decide +kernel
theorem dX7_drive_1 : decode cX7_drive 1 = .ok (.getfield 39, 3) := by decide +kernel
theorem dX7_drive_4 : decode cX7_drive 4 = .ok (.iload_n 1, 1) := by decide +kernel
theorem dX7_drive_5 : decode cX7_drive 5 = .ok (.invokevirtual 174, 3) := by decide +kernel
theorem dX7_drive_8 : decode cX7_drive 8 = .ok (.astore_n 3, 1) := by decide +kernel
theorem dX7_drive_9 : decode cX7_drive 9 = .ok (.aload_n 3, 1) := by decide +kernel
theorem dX7_drive_10 : decode cX7_drive 10 = .ok (.ifnull 13, 3) := by decide +kernel
theorem dX7_drive_13 : decode cX7_drive 13 = .ok (.iload_n 2, 1) := by decide +kernel
theorem dX7_drive_14 : decode cX7_drive 14 = .ok (.iconst 0, 1) := by decide +kernel
theorem dX7_drive_15 : decode cX7_drive 15 = .ok (.bipush 60, 2) := by decide +kernel
theorem dX7_drive_17 : decode cX7_drive 17 = .ok (.invokestatic 57, 3) := by decide +kernel
theorem dX7_drive_20 : decode cX7_drive 20 = .ok (.ifCond .ne 6, 3) := by decide +kernel
theorem dX7_drive_23 : decode cX7_drive 23 = .ok (.ldc 61, 2) := by decide +kernel
theorem dX7_drive_25 : decode cX7_drive 25 = .ok (.ireturn, 1) := by decide +kernel
theorem dX7_drive_26 : decode cX7_drive 26 = .ok (.aload_n 0, 1) := by decide +kernel
theorem dX7_drive_27 : decode cX7_drive 27 = .ok (.getfield 25, 3) := by decide +kernel
theorem dX7_drive_30 : decode cX7_drive 30 = .ok (.aload_n 0, 1) := by decide +kernel
theorem dX7_drive_31 : decode cX7_drive 31 = .ok (.getfield 39, 3) := by decide +kernel
theorem dX7_drive_34 : decode cX7_drive 34 = .ok (.invokevirtual 146, 3) := by decide +kernel
theorem dX7_drive_37 : decode cX7_drive 37 = .ok (.aload_n 3, 1) := by decide +kernel
theorem dX7_drive_38 : decode cX7_drive 38 = .ok (.getfield 178, 3) := by decide +kernel
theorem dX7_drive_41 : decode cX7_drive 41 = .ok (.istore 4, 2) := by decide +kernel
theorem dX7_drive_43 : decode cX7_drive 43 = .ok (.aload_n 3, 1) := by decide +kernel
theorem dX7_drive_44 : decode cX7_drive 44 = .ok (.iload_n 2, 1) := by decide +kernel
theorem dX7_drive_45 : decode cX7_drive 45 = .ok (.putfield 178, 3) := by decide +kernel
theorem dX7_drive_48 : decode cX7_drive 48 = .ok (.iload 4, 2) := by decide +kernel
theorem dX7_drive_50 : decode cX7_drive 50 = .ok (.ireturn, 1) := by decide +kernel
theorem dX7_fodder_0 : decode cX7_fodder 0 = .ok (.aload_n 0, 1) := by decide +kernel
theorem dX7_fodder_1 : decode cX7_fodder 1 = .ok (.getfield 39, 3) := by decide +kernel
theorem dX7_fodder_4 : decode cX7_fodder 4 = .ok (.iload_n 1, 1) := by decide +kernel
theorem dX7_fodder_5 : decode cX7_fodder 5 = .ok (.invokevirtual 174, 3) := by decide +kernel
theorem dX7_fodder_8 : decode cX7_fodder 8 = .ok (.astore_n 2, 1) := by decide +kernel
theorem dX7_fodder_9 : decode cX7_fodder 9 = .ok (.aload_n 2, 1) := by decide +kernel
theorem dX7_fodder_10 : decode cX7_fodder 10 = .ok (.ifnonnull 6, 3) := by decide +kernel
theorem dX7_fodder_13 : decode cX7_fodder 13 = .ok (.ldc 61, 2) := by decide +kernel
theorem dX7_fodder_15 : decode cX7_fodder 15 = .ok (.ireturn, 1) := by decide +kernel
theorem dX7_fodder_16 : decode cX7_fodder 16 = .ok (.aload_n 0, 1) := by decide +kernel
theorem dX7_fodder_17 : decode cX7_fodder 17 = .ok (.getfield 25, 3) := by decide +kernel
theorem dX7_fodder_20 : decode cX7_fodder 20 = .ok (.aload_n 0, 1) := by decide +kernel
theorem dX7_fodder_21 : decode cX7_fodder 21 = .ok (.getfield 39, 3) := by decide +kernel
theorem dX7_fodder_24 : decode cX7_fodder 24 = .ok (.invokevirtual 146, 3) := by decide +kernel
theorem dX7_fodder_27 : decode cX7_fodder 27 = .ok (.aload_n 2, 1) := by decide +kernel
theorem dX7_fodder_28 : decode cX7_fodder 28 = .ok (.getfield 183, 3) := by decide +kernel
theorem dX7_fodder_31 : decode cX7_fodder 31 = .ok (.istore_n 3, 1) := by decide +kernel
theorem dX7_fodder_32 : decode cX7_fodder 32 = .ok (.aload_n 2, 1) := by decide +kernel
theorem dX7_fodder_33 : decode cX7_fodder 33 = .ok (.iconst 0, 1) := by decide +kernel
theorem dX7_fodder_34 : decode cX7_fodder 34 = .ok (.putfield 183, 3) := by decide +kernel
theorem dX7_fodder_37 : decode cX7_fodder 37 = .ok (.iload_n 3, 1) := by decide +kernel
theorem dX7_fodder_38 : decode cX7_fodder 38 = .ok (.ireturn, 1) := by decide +kernel
theorem dX7_leaf_0 : decode cX7_leaf 0 = .ok (.aload_n 0, 1) := by decide +kernel
theorem dX7_leaf_1 : decode cX7_leaf 1 = .ok (.getfield 39, 3) := by decide +kernel
theorem dX7_leaf_4 : decode cX7_leaf 4 = .ok (.iload_n 1, 1) := by decide +kernel
theorem dX7_leaf_5 : decode cX7_leaf 5 = .ok (.invokevirtual 153, 3) := by decide +kernel
theorem dX7_leaf_8 : decode cX7_leaf 8 = .ok (.astore_n 3, 1) := by decide +kernel
theorem dX7_leaf_9 : decode cX7_leaf 9 = .ok (.aload_n 3, 1) := by decide +kernel
theorem dX7_leaf_10 : decode cX7_leaf 10 = .ok (.ifnonnull 6, 3) := by decide +kernel
theorem dX7_leaf_13 : decode cX7_leaf 13 = .ok (.ldc 61, 2) := by decide +kernel
theorem dX7_leaf_15 : decode cX7_leaf 15 = .ok (.ireturn, 1) := by decide +kernel
theorem dX7_leaf_16 : decode cX7_leaf 16 = .ok (.iload_n 2, 1) := by decide +kernel
theorem dX7_leaf_17 : decode cX7_leaf 17 = .ok (.tableswitch 83 0 5 #[39, 44, 49, 54, 59, 78], 39) := by decide +kernel
theorem dX7_leaf_56 : decode cX7_leaf 56 = .ok (.aload_n 3, 1) := by decide +kernel
theorem dX7_leaf_57 : decode cX7_leaf 57 = .ok (.getfield 171, 3) := by decide +kernel
theorem dX7_leaf_60 : decode cX7_leaf 60 = .ok (.ireturn, 1) := by decide +kernel
theorem dX7_leaf_61 : decode cX7_leaf 61 = .ok (.aload_n 3, 1) := by decide +kernel
theorem dX7_leaf_62 : decode cX7_leaf 62 = .ok (.getfield 162, 3) := by decide +kernel
theorem dX7_leaf_65 : decode cX7_leaf 65 = .ok (.ireturn, 1) := by decide +kernel
theorem dX7_leaf_66 : decode cX7_leaf 66 = .ok (.aload_n 3, 1) := by decide +kernel
theorem dX7_leaf_67 : decode cX7_leaf 67 = .ok (.getfield 165, 3) := by decide +kernel
theorem dX7_leaf_70 : decode cX7_leaf 70 = .ok (.ireturn, 1) := by decide +kernel
theorem dX7_leaf_71 : decode cX7_leaf 71 = .ok (.aload_n 3, 1) := by decide +kernel
theorem dX7_leaf_72 : decode cX7_leaf 72 = .ok (.getfield 168, 3) := by decide +kernel
theorem dX7_leaf_75 : decode cX7_leaf 75 = .ok (.ireturn, 1) := by decide +kernel
theorem dX7_leaf_76 : decode cX7_leaf 76 = .ok (.aload_n 3, 1) := by decide +kernel
theorem dX7_leaf_77 : decode cX7_leaf 77 = .ok (.aload_n 0, 1) := by decide +kernel
theorem dX7_leaf_78 : decode cX7_leaf 78 = .ok (.getfield 39, 3) := by decide +kernel
theorem dX7_leaf_81 : decode cX7_leaf 81 = .ok (.getfield 143, 3) := by decide +kernel
theorem dX7_leaf_84 : decode cX7_leaf 84 = .ok (.aload_n 0, 1) := by decide +kernel
theorem dX7_leaf_85 : decode cX7_leaf 85 = .ok (.getfield 39, 3) := by decide +kernel
theorem dX7_leaf_88 : decode cX7_leaf 88 = .ok (.getfield 186, 3) := by decide +kernel
theorem dX7_leaf_91 : decode cX7_leaf 91 = .ok (.invokevirtual 189, 3) := by decide +kernel
theorem dX7_leaf_94 : decode cX7_leaf 94 = .ok (.ireturn, 1) := by decide +kernel
theorem dX7_leaf_95 : decode cX7_leaf 95 = .ok (.aload_n 3, 1) := by decide +kernel
theorem dX7_leaf_96 : decode cX7_leaf 96 = .ok (.invokevirtual 192, 3) := by decide +kernel
theorem dX7_leaf_99 : decode cX7_leaf 99 = .ok (.ireturn, 1) := by decide +kernel
theorem dX7_leaf_100 : decode cX7_leaf 100 = .ok (.ldc 61, 2) := by decide +kernel
theorem dX7_leaf_102 : decode cX7_leaf 102 = .ok (.ireturn, 1) := by decide +kernel
theorem dX7_goat_0 : decode cX7_goat 0 = .ok (.aload_n 0, 1) := by decide +kernel
theorem dX7_goat_1 : decode cX7_goat 1 = .ok (.getfield 39, 3) := by decide +kernel
theorem dX7_goat_4 : decode cX7_goat 4 = .ok (.iload_n 1, 1) := by decide +kernel
theorem dX7_goat_5 : decode cX7_goat 5 = .ok (.invokevirtual 174, 3) := by decide +kernel
theorem dX7_goat_8 : decode cX7_goat 8 = .ok (.astore_n 3, 1) := by decide +kernel
theorem dX7_goat_9 : decode cX7_goat 9 = .ok (.aload_n 3, 1) := by decide +kernel
theorem dX7_goat_10 : decode cX7_goat 10 = .ok (.ifnonnull 6, 3) := by decide +kernel
theorem dX7_goat_13 : decode cX7_goat 13 = .ok (.ldc 61, 2) := by decide +kernel
theorem dX7_goat_15 : decode cX7_goat 15 = .ok (.ireturn, 1) := by decide +kernel
theorem dX7_goat_16 : decode cX7_goat 16 = .ok (.iload_n 2, 1) := by decide +kernel
theorem dX7_goat_17 : decode cX7_goat 17 = .ok (.tableswitch 72 0 3 #[31, 36, 41, 46], 31) := by decide +kernel
theorem dX7_goat_48 : decode cX7_goat 48 = .ok (.aload_n 3, 1) := by decide +kernel
theorem dX7_goat_49 : decode cX7_goat 49 = .ok (.getfield 183, 3) := by decide +kernel
theorem dX7_goat_52 : decode cX7_goat 52 = .ok (.ireturn, 1) := by decide +kernel
theorem dX7_goat_53 : decode cX7_goat 53 = .ok (.aload_n 3, 1) := by decide +kernel
theorem dX7_goat_54 : decode cX7_goat 54 = .ok (.getfield 195, 3) := by decide +kernel
theorem dX7_goat_57 : decode cX7_goat 57 = .ok (.ireturn, 1) := by decide +kernel
theorem dX7_goat_58 : decode cX7_goat 58 = .ok (.aload_n 3, 1) := by decide +kernel
theorem dX7_goat_59 : decode cX7_goat 59 = .ok (.getfield 178, 3) := by decide +kernel
theorem dX7_goat_62 : decode cX7_goat 62 = .ok (.ireturn, 1) := by decide +kernel
theorem dX7_goat_63 : decode cX7_goat 63 = .ok (.aload_n 0, 1) := by decide +kernel
theorem dX7_goat_64 : decode cX7_goat 64 = .ok (.getfield 39, 3) := by decide +kernel
theorem dX7_goat_67 : decode cX7_goat 67 = .ok (.aload_n 3, 1) := by decide +kernel
theorem dX7_goat_68 : decode cX7_goat 68 = .ok (.invokevirtual 198, 3) := by decide +kernel
theorem dX7_goat_71 : decode cX7_goat 71 = .ok (.astore 4, 2) := by decide +kernel
theorem dX7_goat_73 : decode cX7_goat 73 = .ok (.aload 4, 2) := by decide +kernel
theorem dX7_goat_75 : decode cX7_goat 75 = .ok (.ifnonnull 8, 3) := by decide +kernel
theorem dX7_goat_78 : decode cX7_goat 78 = .ok (.ldc 202, 2) := by decide +kernel
theorem dX7_goat_80 : decode cX7_goat 80 = .ok (.goto 8, 3) := by decide +kernel
theorem dX7_goat_83 : decode cX7_goat 83 = .ok (.aload 4, 2) := by decide +kernel
theorem dX7_goat_85 : decode cX7_goat 85 = .ok (.getfield 203, 3) := by decide +kernel
theorem dX7_goat_88 : decode cX7_goat 88 = .ok (.ireturn, 1) := by decide +kernel
theorem dX7_goat_89 : decode cX7_goat 89 = .ok (.ldc 61, 2) := by decide +kernel
theorem dX7_goat_91 : decode cX7_goat 91 = .ok (.ireturn, 1) := by decide +kernel
theorem dX7_ahead_0 : decode cX7_ahead 0 = .ok (.aload_n 0, 1) := by decide +kernel
theorem dX7_ahead_1 : decode cX7_ahead 1 = .ok (.getfield 43, 3) := by decide +kernel
theorem dX7_ahead_4 : decode cX7_ahead 4 = .ok (.aload_n 0, 1) := by decide +kernel
theorem dX7_ahead_5 : decode cX7_ahead 5 = .ok (.getfield 39, 3) := by decide +kernel
theorem dX7_ahead_8 : decode cX7_ahead 8 = .ok (.iload_n 1, 1) := by decide +kernel
theorem dX7_ahead_9 : decode cX7_ahead 9 = .ok (.invokevirtual 206, 3) := by decide +kernel
theorem dX7_ahead_12 : decode cX7_ahead 12 = .ok (.astore_n 3, 1) := by decide +kernel
theorem dX7_ahead_13 : decode cX7_ahead 13 = .ok (.aload_n 3, 1) := by decide +kernel
theorem dX7_ahead_14 : decode cX7_ahead 14 = .ok (.ifnull 13, 3) := by decide +kernel
theorem dX7_ahead_17 : decode cX7_ahead 17 = .ok (.iload_n 2, 1) := by decide +kernel
theorem dX7_ahead_18 : decode cX7_ahead 18 = .ok (.iconst 0, 1) := by decide +kernel
theorem dX7_ahead_19 : decode cX7_ahead 19 = .ok (.bipush 60, 2) := by decide +kernel
theorem dX7_ahead_21 : decode cX7_ahead 21 = .ok (.invokestatic 57, 3) := by decide +kernel
theorem dX7_ahead_24 : decode cX7_ahead 24 = .ok (.ifCond .ne 6, 3) := by decide +kernel
theorem dX7_ahead_27 : decode cX7_ahead 27 = .ok (.ldc 61, 2) := by decide +kernel
theorem dX7_ahead_29 : decode cX7_ahead 29 = .ok (.ireturn, 1) := by decide +kernel
theorem dX7_ahead_30 : decode cX7_ahead 30 = .ok (.aload_n 0, 1) := by decide +kernel
theorem dX7_ahead_31 : decode cX7_ahead 31 = .ok (.getfield 43, 3) := by decide +kernel
theorem dX7_ahead_34 : decode cX7_ahead 34 = .ok (.iload_n 2, 1) := by decide +kernel
theorem dX7_ahead_35 : decode cX7_ahead 35 = .ok (.invokevirtual 210, 3) := by decide +kernel
theorem dX7_ahead_38 : decode cX7_ahead 38 = .ok (.aload_n 3, 1) := by decide +kernel
theorem dX7_ahead_39 : decode cX7_ahead 39 = .ok (.getfield 168, 3) := by decide +kernel
theorem dX7_ahead_42 : decode cX7_ahead 42 = .ok (.ireturn, 1) := by decide +kernel
theorem dX7_force_0 : decode cX7_force 0 = .ok (.aload_n 0, 1) := by decide +kernel
theorem dX7_force_1 : decode cX7_force 1 = .ok (.getfield 39, 3) := by decide +kernel
theorem dX7_force_4 : decode cX7_force 4 = .ok (.invokevirtual 139, 3) := by decide +kernel
theorem dX7_force_7 : decode cX7_force 7 = .ok (.ifCond .ne 6, 3) := by decide +kernel
theorem dX7_force_10 : decode cX7_force 10 = .ok (.ldc 138, 2) := by decide +kernel
theorem dX7_force_12 : decode cX7_force 12 = .ok (.ireturn, 1) := by decide +kernel
theorem dX7_force_13 : decode cX7_force 13 = .ok (.iload_n 1, 1) := by decide +kernel
theorem dX7_force_14 : decode cX7_force 14 = .ok (.iconst 0, 1) := by decide +kernel
theorem dX7_force_15 : decode cX7_force 15 = .ok (.bipush 60, 2) := by decide +kernel
theorem dX7_force_17 : decode cX7_force 17 = .ok (.invokestatic 57, 3) := by decide +kernel
theorem dX7_force_20 : decode cX7_force 20 = .ok (.ifCond .ne 6, 3) := by decide +kernel
theorem dX7_force_23 : decode cX7_force 23 = .ok (.ldc 61, 2) := by decide +kernel
theorem dX7_force_25 : decode cX7_force 25 = .ok (.ireturn, 1) := by decide +kernel
theorem dX7_force_26 : decode cX7_force 26 = .ok (.aload_n 0, 1) := by decide +kernel
theorem dX7_force_27 : decode cX7_force 27 = .ok (.getfield 43, 3) := by decide +kernel
theorem dX7_force_30 : decode cX7_force 30 = .ok (.aload_n 0, 1) := by decide +kernel
theorem dX7_force_31 : decode cX7_force 31 = .ok (.getfield 39, 3) := by decide +kernel
theorem dX7_force_34 : decode cX7_force 34 = .ok (.invokevirtual 122, 3) := by decide +kernel
theorem dX7_force_37 : decode cX7_force 37 = .ok (.aload_n 0, 1) := by decide +kernel
theorem dX7_force_38 : decode cX7_force 38 = .ok (.getfield 43, 3) := by decide +kernel
theorem dX7_force_41 : decode cX7_force 41 = .ok (.iload_n 1, 1) := by decide +kernel
theorem dX7_force_42 : decode cX7_force 42 = .ok (.invokevirtual 210, 3) := by decide +kernel
theorem dX7_force_45 : decode cX7_force 45 = .ok (.aload_n 0, 1) := by decide +kernel
theorem dX7_force_46 : decode cX7_force 46 = .ok (.getfield 43, 3) := by decide +kernel
theorem dX7_force_49 : decode cX7_force 49 = .ok (.invokevirtual 214, 3) := by decide +kernel
theorem dX7_force_52 : decode cX7_force 52 = .ok (.ireturn, 1) := by decide +kernel
theorem dX7_emptied_0 : decode cX7_emptied 0 = .ok (.aload_n 0, 1) := by decide +kernel
theorem dX7_emptied_1 : decode cX7_emptied 1 = .ok (.getfield 43, 3) := by decide +kernel
theorem dX7_emptied_4 : decode cX7_emptied 4 = .ok (.aload_n 0, 1) := by decide +kernel
theorem dX7_emptied_5 : decode cX7_emptied 5 = .ok (.getfield 39, 3) := by decide +kernel
theorem dX7_emptied_8 : decode cX7_emptied 8 = .ok (.iload_n 1, 1) := by decide +kernel
theorem dX7_emptied_9 : decode cX7_emptied 9 = .ok (.invokevirtual 206, 3) := by decide +kernel
theorem dX7_emptied_12 : decode cX7_emptied 12 = .ok (.astore_n 2, 1) := by decide +kernel
theorem dX7_emptied_13 : decode cX7_emptied 13 = .ok (.aload_n 2, 1) := by decide +kernel
theorem dX7_emptied_14 : decode cX7_emptied 14 = .ok (.ifnonnull 6, 3) := by decide +kernel
theorem dX7_emptied_17 : decode cX7_emptied 17 = .ok (.ldc 61, 2) := by decide +kernel
theorem dX7_emptied_19 : decode cX7_emptied 19 = .ok (.ireturn, 1) := by decide +kernel
theorem dX7_emptied_20 : decode cX7_emptied 20 = .ok (.iconst 0, 1) := by decide +kernel
theorem dX7_emptied_21 : decode cX7_emptied 21 = .ok (.istore_n 3, 1) := by decide +kernel
theorem dX7_emptied_22 : decode cX7_emptied 22 = .ok (.iload_n 3, 1) := by decide +kernel
theorem dX7_emptied_23 : decode cX7_emptied 23 = .ok (.bipush 60, 2) := by decide +kernel
theorem dX7_emptied_25 : decode cX7_emptied 25 = .ok (.if_icmp .gt 26, 3) := by decide +kernel
theorem dX7_emptied_28 : decode cX7_emptied 28 = .ok (.aload_n 2, 1) := by decide +kernel
theorem dX7_emptied_29 : decode cX7_emptied 29 = .ok (.invokevirtual 157, 3) := by decide +kernel
theorem dX7_emptied_32 : decode cX7_emptied 32 = .ok (.ifCond .eq 5, 3) := by decide +kernel
theorem dX7_emptied_35 : decode cX7_emptied 35 = .ok (.iload_n 3, 1) := by decide +kernel
theorem dX7_emptied_36 : decode cX7_emptied 36 = .ok (.ireturn, 1) := by decide +kernel
theorem dX7_emptied_37 : decode cX7_emptied 37 = .ok (.aload_n 0, 1) := by decide +kernel
theorem dX7_emptied_38 : decode cX7_emptied 38 = .ok (.getfield 43, 3) := by decide +kernel
theorem dX7_emptied_41 : decode cX7_emptied 41 = .ok (.invokevirtual 149, 3) := by decide +kernel
theorem dX7_emptied_44 : decode cX7_emptied 44 = .ok (.pop, 1) := by decide +kernel
theorem dX7_emptied_45 : decode cX7_emptied 45 = .ok (.iinc 3 1, 3) := by decide +kernel
theorem dX7_emptied_48 : decode cX7_emptied 48 = .ok (.goto (-26), 3) := by decide +kernel
theorem dX7_emptied_51 : decode cX7_emptied 51 = .ok (.ldc 202, 2) := by decide +kernel
theorem dX7_emptied_53 : decode cX7_emptied 53 = .ok (.ireturn, 1) := by decide +kernel
theorem dX7_eats_0 : decode cX7_eats 0 = .ok (.aload_n 0, 1) := by decide +kernel
theorem dX7_eats_1 : decode cX7_eats 1 = .ok (.getfield 43, 3) := by decide +kernel
theorem dX7_eats_4 : decode cX7_eats 4 = .ok (.aload_n 0, 1) := by decide +kernel
theorem dX7_eats_5 : decode cX7_eats 5 = .ok (.getfield 39, 3) := by decide +kernel
theorem dX7_eats_8 : decode cX7_eats 8 = .ok (.invokevirtual 122, 3) := by decide +kernel
theorem dX7_eats_11 : decode cX7_eats 11 = .ok (.aload_n 0, 1) := by decide +kernel
theorem dX7_eats_12 : decode cX7_eats 12 = .ok (.getfield 43, 3) := by decide +kernel
theorem dX7_eats_15 : decode cX7_eats 15 = .ok (.iload_n 1, 1) := by decide +kernel
theorem dX7_eats_16 : decode cX7_eats 16 = .ok (.invokevirtual 174, 3) := by decide +kernel
theorem dX7_eats_19 : decode cX7_eats 19 = .ok (.astore_n 3, 1) := by decide +kernel
theorem dX7_eats_20 : decode cX7_eats 20 = .ok (.aload_n 3, 1) := by decide +kernel
theorem dX7_eats_21 : decode cX7_eats 21 = .ok (.ifnull 13, 3) := by decide +kernel
theorem dX7_eats_24 : decode cX7_eats 24 = .ok (.iload_n 2, 1) := by decide +kernel
theorem dX7_eats_25 : decode cX7_eats 25 = .ok (.iconst 0, 1) := by decide +kernel
theorem dX7_eats_26 : decode cX7_eats 26 = .ok (.bipush 60, 2) := by decide +kernel
theorem dX7_eats_28 : decode cX7_eats 28 = .ok (.invokestatic 57, 3) := by decide +kernel
theorem dX7_eats_31 : decode cX7_eats 31 = .ok (.ifCond .ne 6, 3) := by decide +kernel
theorem dX7_eats_34 : decode cX7_eats 34 = .ok (.ldc 61, 2) := by decide +kernel
theorem dX7_eats_36 : decode cX7_eats 36 = .ok (.ireturn, 1) := by decide +kernel
theorem dX7_eats_37 : decode cX7_eats 37 = .ok (.aload_n 0, 1) := by decide +kernel
theorem dX7_eats_38 : decode cX7_eats 38 = .ok (.getfield 43, 3) := by decide +kernel
theorem dX7_eats_41 : decode cX7_eats 41 = .ok (.iload_n 2, 1) := by decide +kernel
theorem dX7_eats_42 : decode cX7_eats 42 = .ok (.invokevirtual 210, 3) := by decide +kernel
theorem dX7_eats_45 : decode cX7_eats 45 = .ok (.aload_n 3, 1) := by decide +kernel
theorem dX7_eats_46 : decode cX7_eats 46 = .ok (.getfield 217, 3) := by decide +kernel
theorem dX7_eats_49 : decode cX7_eats 49 = .ok (.ireturn, 1) := by decide +kernel
theorem dX7_guilt_0 : decode cX7_guilt 0 = .ok (.aload_n 0, 1) := by decide +kernel
theorem dX7_guilt_1 : decode cX7_guilt 1 = .ok (.getfield 43, 3) := by decide +kernel
theorem dX7_guilt_4 : decode cX7_guilt 4 = .ok (.aload_n 0, 1) := by decide +kernel
theorem dX7_guilt_5 : decode cX7_guilt 5 = .ok (.getfield 39, 3) := by decide +kernel
theorem dX7_guilt_8 : decode cX7_guilt 8 = .ok (.iload_n 1, 1) := by decide +kernel
theorem dX7_guilt_9 : decode cX7_guilt 9 = .ok (.invokevirtual 206, 3) := by decide +kernel
theorem dX7_guilt_12 : decode cX7_guilt 12 = .ok (.astore_n 3, 1) := by decide +kernel
theorem dX7_guilt_13 : decode cX7_guilt 13 = .ok (.aload_n 3, 1) := by decide +kernel
theorem dX7_guilt_14 : decode cX7_guilt 14 = .ok (.ifnull 13, 3) := by decide +kernel
theorem dX7_guilt_17 : decode cX7_guilt 17 = .ok (.iload_n 2, 1) := by decide +kernel
theorem dX7_guilt_18 : decode cX7_guilt 18 = .ok (.iconst 1, 1) := by decide +kernel
theorem dX7_guilt_19 : decode cX7_guilt 19 = .ok (.bipush 60, 2) := by decide +kernel
theorem dX7_guilt_21 : decode cX7_guilt 21 = .ok (.invokestatic 57, 3) := by decide +kernel
theorem dX7_guilt_24 : decode cX7_guilt 24 = .ok (.ifCond .ne 6, 3) := by decide +kernel
theorem dX7_guilt_27 : decode cX7_guilt 27 = .ok (.ldc 61, 2) := by decide +kernel
theorem dX7_guilt_29 : decode cX7_guilt 29 = .ok (.ireturn, 1) := by decide +kernel
theorem dX7_guilt_30 : decode cX7_guilt 30 = .ok (.aload_n 0, 1) := by decide +kernel
theorem dX7_guilt_31 : decode cX7_guilt 31 = .ok (.getfield 43, 3) := by decide +kernel
theorem dX7_guilt_34 : decode cX7_guilt 34 = .ok (.iload_n 2, 1) := by decide +kernel
theorem dX7_guilt_35 : decode cX7_guilt 35 = .ok (.invokevirtual 210, 3) := by decide +kernel
theorem dX7_guilt_38 : decode cX7_guilt 38 = .ok (.aload_n 3, 1) := by decide +kernel
theorem dX7_guilt_39 : decode cX7_guilt 39 = .ok (.getfield 220, 3) := by decide +kernel
theorem dX7_guilt_42 : decode cX7_guilt 42 = .ok (.ireturn, 1) := by decide +kernel
theorem dX7_gap_0 : decode cX7_gap 0 = .ok (.aload_n 0, 1) := by decide +kernel
theorem dX7_gap_1 : decode cX7_gap 1 = .ok (.getfield 39, 3) := by decide +kernel
theorem dX7_gap_4 : decode cX7_gap 4 = .ok (.invokevirtual 139, 3) := by decide +kernel
theorem dX7_gap_7 : decode cX7_gap 7 = .ok (.ifCond .ne 6, 3) := by decide +kernel
theorem dX7_gap_10 : decode cX7_gap 10 = .ok (.ldc 138, 2) := by decide +kernel
theorem dX7_gap_12 : decode cX7_gap 12 = .ok (.ireturn, 1) := by decide +kernel
theorem dX7_gap_13 : decode cX7_gap 13 = .ok (.aload_n 0, 1) := by decide +kernel
theorem dX7_gap_14 : decode cX7_gap 14 = .ok (.getfield 39, 3) := by decide +kernel
theorem dX7_gap_17 : decode cX7_gap 17 = .ok (.iload_n 1, 1) := by decide +kernel
theorem dX7_gap_18 : decode cX7_gap 18 = .ok (.invokevirtual 223, 3) := by decide +kernel
theorem dX7_gap_21 : decode cX7_gap 21 = .ok (.ifCond .ne 6, 3) := by decide +kernel
theorem dX7_gap_24 : decode cX7_gap 24 = .ok (.ldc 61, 2) := by decide +kernel
theorem dX7_gap_26 : decode cX7_gap 26 = .ok (.ireturn, 1) := by decide +kernel
theorem dX7_gap_27 : decode cX7_gap 27 = .ok (.aload_n 0, 1) := by decide +kernel
theorem dX7_gap_28 : decode cX7_gap 28 = .ok (.getfield 43, 3) := by decide +kernel
theorem dX7_gap_31 : decode cX7_gap 31 = .ok (.aload_n 0, 1) := by decide +kernel
theorem dX7_gap_32 : decode cX7_gap 32 = .ok (.getfield 39, 3) := by decide +kernel
theorem dX7_gap_35 : decode cX7_gap 35 = .ok (.invokevirtual 122, 3) := by decide +kernel
theorem dX7_gap_38 : decode cX7_gap 38 = .ok (.iconst 0, 1) := by decide +kernel
theorem dX7_gap_39 : decode cX7_gap 39 = .ok (.istore_n 2, 1) := by decide +kernel
theorem dX7_gap_40 : decode cX7_gap 40 = .ok (.iload_n 2, 1) := by decide +kernel
theorem dX7_gap_41 : decode cX7_gap 41 = .ok (.bipush 60, 2) := by decide +kernel
theorem dX7_gap_43 : decode cX7_gap 43 = .ok (.if_icmp .gt 31, 3) := by decide +kernel
theorem dX7_gap_46 : decode cX7_gap 46 = .ok (.aload_n 0, 1) := by decide +kernel
theorem dX7_gap_47 : decode cX7_gap 47 = .ok (.getfield 43, 3) := by decide +kernel
theorem dX7_gap_50 : decode cX7_gap 50 = .ok (.invokevirtual 214, 3) := by decide +kernel
theorem dX7_gap_53 : decode cX7_gap 53 = .ok (.iload_n 1, 1) := by decide +kernel
theorem dX7_gap_54 : decode cX7_gap 54 = .ok (.iand, 1) := by decide +kernel
theorem dX7_gap_55 : decode cX7_gap 55 = .ok (.ifCond .ne 5, 3) := by decide +kernel
theorem dX7_gap_58 : decode cX7_gap 58 = .ok (.iload_n 2, 1) := by decide +kernel
theorem dX7_gap_59 : decode cX7_gap 59 = .ok (.ireturn, 1) := by decide +kernel
theorem dX7_gap_60 : decode cX7_gap 60 = .ok (.aload_n 0, 1) := by decide +kernel
theorem dX7_gap_61 : decode cX7_gap 61 = .ok (.getfield 43, 3) := by decide +kernel
theorem dX7_gap_64 : decode cX7_gap 64 = .ok (.invokevirtual 149, 3) := by decide +kernel
theorem dX7_gap_67 : decode cX7_gap 67 = .ok (.pop, 1) := by decide +kernel
theorem dX7_gap_68 : decode cX7_gap 68 = .ok (.iinc 2 1, 3) := by decide +kernel
theorem dX7_gap_71 : decode cX7_gap 71 = .ok (.goto (-31), 3) := by decide +kernel
theorem dX7_gap_74 : decode cX7_gap 74 = .ok (.ldc 202, 2) := by decide +kernel
theorem dX7_gap_76 : decode cX7_gap 76 = .ok (.ireturn, 1) := by decide +kernel
theorem dX7_hangs_0 : decode cX7_hangs 0 = .ok (.aload_n 0, 1) := by decide +kernel
theorem dX7_hangs_1 : decode cX7_hangs 1 = .ok (.getfield 39, 3) := by decide +kernel
theorem dX7_hangs_4 : decode cX7_hangs 4 = .ok (.invokevirtual 139, 3) := by decide +kernel
theorem dX7_hangs_7 : decode cX7_hangs 7 = .ok (.ifCond .ne 6, 3) := by decide +kernel
theorem dX7_hangs_10 : decode cX7_hangs 10 = .ok (.ldc 138, 2) := by decide +kernel
theorem dX7_hangs_12 : decode cX7_hangs 12 = .ok (.ireturn, 1) := by decide +kernel
theorem dX7_hangs_13 : decode cX7_hangs 13 = .ok (.aload_n 0, 1) := by decide +kernel
theorem dX7_hangs_14 : decode cX7_hangs 14 = .ok (.getfield 39, 3) := by decide +kernel
theorem dX7_hangs_17 : decode cX7_hangs 17 = .ok (.iload_n 1, 1) := by decide +kernel
theorem dX7_hangs_18 : decode cX7_hangs 18 = .ok (.invokevirtual 223, 3) := by decide +kernel
theorem dX7_hangs_21 : decode cX7_hangs 21 = .ok (.ifCond .eq 22, 3) := by decide +kernel
theorem dX7_hangs_24 : decode cX7_hangs 24 = .ok (.iload_n 2, 1) := by decide +kernel
theorem dX7_hangs_25 : decode cX7_hangs 25 = .ok (.iconst 1, 1) := by decide +kernel
theorem dX7_hangs_26 : decode cX7_hangs 26 = .ok (.bipush 30, 2) := by decide +kernel
theorem dX7_hangs_28 : decode cX7_hangs 28 = .ok (.invokestatic 57, 3) := by decide +kernel
theorem dX7_hangs_31 : decode cX7_hangs 31 = .ok (.ifCond .eq 12, 3) := by decide +kernel
theorem dX7_hangs_34 : decode cX7_hangs 34 = .ok (.iload_n 3, 1) := by decide +kernel
theorem dX7_hangs_35 : decode cX7_hangs 35 = .ok (.iconst 0, 1) := by decide +kernel
theorem dX7_hangs_36 : decode cX7_hangs 36 = .ok (.iconst 1, 1) := by decide +kernel
theorem dX7_hangs_37 : decode cX7_hangs 37 = .ok (.invokestatic 57, 3) := by decide +kernel
theorem dX7_hangs_40 : decode cX7_hangs 40 = .ok (.ifCond .ne 6, 3) := by decide +kernel
theorem dX7_hangs_43 : decode cX7_hangs 43 = .ok (.ldc 61, 2) := by decide +kernel
theorem dX7_hangs_45 : decode cX7_hangs 45 = .ok (.ireturn, 1) := by decide +kernel
theorem dX7_hangs_46 : decode cX7_hangs 46 = .ok (.aload_n 0, 1) := by decide +kernel
theorem dX7_hangs_47 : decode cX7_hangs 47 = .ok (.aload_n 0, 1) := by decide +kernel
theorem dX7_hangs_48 : decode cX7_hangs 48 = .ok (.getfield 39, 3) := by decide +kernel
theorem dX7_hangs_51 : decode cX7_hangs 51 = .ok (.invokevirtual 226, 3) := by decide +kernel
theorem dX7_hangs_54 : decode cX7_hangs 54 = .ok (.iconst 0, 1) := by decide +kernel
theorem dX7_hangs_55 : decode cX7_hangs 55 = .ok (.iload_n 1, 1) := by decide +kernel
theorem dX7_hangs_56 : decode cX7_hangs 56 = .ok (.iload_n 2, 1) := by decide +kernel
theorem dX7_hangs_57 : decode cX7_hangs 57 = .ok (.invokevirtual 229, 3) := by decide +kernel
theorem dX7_hangs_60 : decode cX7_hangs 60 = .ok (.istore 4, 2) := by decide +kernel
theorem dX7_hangs_62 : decode cX7_hangs 62 = .ok (.iload_n 3, 1) := by decide +kernel
theorem dX7_hangs_63 : decode cX7_hangs 63 = .ok (.ifCond .ne 18, 3) := by decide +kernel
theorem dX7_hangs_66 : decode cX7_hangs 66 = .ok (.iload 4, 2) := by decide +kernel
theorem dX7_hangs_68 : decode cX7_hangs 68 = .ok (.ldc 202, 2) := by decide +kernel
theorem dX7_hangs_70 : decode cX7_hangs 70 = .ok (.if_icmp .eq 11, 3) := by decide +kernel
theorem dX7_hangs_73 : decode cX7_hangs 73 = .ok (.iload 4, 2) := by decide +kernel
theorem dX7_hangs_75 : decode cX7_hangs 75 = .ok (.invokestatic 233, 3) := by decide +kernel
theorem dX7_hangs_78 : decode cX7_hangs 78 = .ok (.goto 5, 3) := by decide +kernel
theorem dX7_hangs_81 : decode cX7_hangs 81 = .ok (.iload 4, 2) := by decide +kernel
theorem dX7_hangs_83 : decode cX7_hangs 83 = .ok (.ireturn, 1) := by decide +kernel
theorem dX7_drives_0 : decode cX7_drives 0 = .ok (.aload_n 0, 1) := by decide +kernel
theorem dX7_drives_1 : decode cX7_drives 1 = .ok (.getfield 39, 3) := by decide +kernel
theorem dX7_drives_4 : decode cX7_drives 4 = .ok (.invokevirtual 139, 3) := by decide +kernel
theorem dX7_drives_7 : decode cX7_drives 7 = .ok (.ifCond .ne 6, 3) := by decide +kernel
theorem dX7_drives_10 : decode cX7_drives 10 = .ok (.ldc 138, 2) := by decide +kernel
theorem dX7_drives_12 : decode cX7_drives 12 = .ok (.ireturn, 1) := by decide +kernel
theorem dX7_drives_13 : decode cX7_drives 13 = .ok (.aload_n 0, 1) := by decide +kernel
theorem dX7_drives_14 : decode cX7_drives 14 = .ok (.getfield 39, 3) := by decide +kernel
theorem dX7_drives_17 : decode cX7_drives 17 = .ok (.iload_n 1, 1) := by decide +kernel
theorem dX7_drives_18 : decode cX7_drives 18 = .ok (.invokevirtual 223, 3) := by decide +kernel
theorem dX7_drives_21 : decode cX7_drives 21 = .ok (.ifCond .eq 22, 3) := by decide +kernel
theorem dX7_drives_24 : decode cX7_drives 24 = .ok (.iload_n 2, 1) := by decide +kernel
theorem dX7_drives_25 : decode cX7_drives 25 = .ok (.iconst 1, 1) := by decide +kernel
theorem dX7_drives_26 : decode cX7_drives 26 = .ok (.bipush 30, 2) := by decide +kernel
theorem dX7_drives_28 : decode cX7_drives 28 = .ok (.invokestatic 57, 3) := by decide +kernel
theorem dX7_drives_31 : decode cX7_drives 31 = .ok (.ifCond .eq 12, 3) := by decide +kernel
theorem dX7_drives_34 : decode cX7_drives 34 = .ok (.iload_n 3, 1) := by decide +kernel
theorem dX7_drives_35 : decode cX7_drives 35 = .ok (.iconst 0, 1) := by decide +kernel
theorem dX7_drives_36 : decode cX7_drives 36 = .ok (.iconst 1, 1) := by decide +kernel
theorem dX7_drives_37 : decode cX7_drives 37 = .ok (.invokestatic 57, 3) := by decide +kernel
theorem dX7_drives_40 : decode cX7_drives 40 = .ok (.ifCond .ne 6, 3) := by decide +kernel
theorem dX7_drives_43 : decode cX7_drives 43 = .ok (.ldc 61, 2) := by decide +kernel
theorem dX7_drives_45 : decode cX7_drives 45 = .ok (.ireturn, 1) := by decide +kernel
theorem dX7_drives_46 : decode cX7_drives 46 = .ok (.aload_n 0, 1) := by decide +kernel
theorem dX7_drives_47 : decode cX7_drives 47 = .ok (.iconst 1, 1) := by decide +kernel
theorem dX7_drives_48 : decode cX7_drives 48 = .ok (.aload_n 0, 1) := by decide +kernel
theorem dX7_drives_49 : decode cX7_drives 49 = .ok (.getfield 39, 3) := by decide +kernel
theorem dX7_drives_52 : decode cX7_drives 52 = .ok (.getfield 238, 3) := by decide +kernel
theorem dX7_drives_55 : decode cX7_drives 55 = .ok (.ishl, 1) := by decide +kernel
theorem dX7_drives_56 : decode cX7_drives 56 = .ok (.iconst 1, 1) := by decide +kernel
theorem dX7_drives_57 : decode cX7_drives 57 = .ok (.isub, 1) := by decide +kernel
theorem dX7_drives_58 : decode cX7_drives 58 = .ok (.iconst 1, 1) := by decide +kernel
theorem dX7_drives_59 : decode cX7_drives 59 = .ok (.iload_n 1, 1) := by decide +kernel
theorem dX7_drives_60 : decode cX7_drives 60 = .ok (.iload_n 2, 1) := by decide +kernel
theorem dX7_drives_61 : decode cX7_drives 61 = .ok (.invokevirtual 229, 3) := by decide +kernel
theorem dX7_drives_64 : decode cX7_drives 64 = .ok (.istore 4, 2) := by decide +kernel
theorem dX7_drives_66 : decode cX7_drives 66 = .ok (.iload_n 3, 1) := by decide +kernel
theorem dX7_drives_67 : decode cX7_drives 67 = .ok (.ifCond .ne 18, 3) := by decide +kernel
theorem dX7_drives_70 : decode cX7_drives 70 = .ok (.iload 4, 2) := by decide +kernel
theorem dX7_drives_72 : decode cX7_drives 72 = .ok (.ldc 202, 2) := by decide +kernel
theorem dX7_drives_74 : decode cX7_drives 74 = .ok (.if_icmp .eq 11, 3) := by decide +kernel
theorem dX7_drives_77 : decode cX7_drives 77 = .ok (.iload 4, 2) := by decide +kernel
theorem dX7_drives_79 : decode cX7_drives 79 = .ok (.invokestatic 233, 3) := by decide +kernel
theorem dX7_drives_82 : decode cX7_drives 82 = .ok (.goto 5, 3) := by decide +kernel
theorem dX7_drives_85 : decode cX7_drives 85 = .ok (.iload 4, 2) := by decide +kernel
theorem dX7_drives_87 : decode cX7_drives 87 = .ok (.ireturn, 1) := by decide +kernel
theorem dX7_harm_0 : decode cX7_harm 0 = .ok (.aload_n 0, 1) := by decide +kernel
theorem dX7_harm_1 : decode cX7_harm 1 = .ok (.getfield 39, 3) := by decide +kernel
theorem dX7_harm_4 : decode cX7_harm 4 = .ok (.invokevirtual 139, 3) := by decide +kernel
theorem dX7_harm_7 : decode cX7_harm 7 = .ok (.ifCond .ne 6, 3) := by decide +kernel
theorem dX7_harm_10 : decode cX7_harm 10 = .ok (.ldc 138, 2) := by decide +kernel
theorem dX7_harm_12 : decode cX7_harm 12 = .ok (.ireturn, 1) := by decide +kernel
theorem dX7_harm_13 : decode cX7_harm 13 = .ok (.iload_n 1, 1) := by decide +kernel
theorem dX7_harm_14 : decode cX7_harm 14 = .ok (.iconst 1, 1) := by decide +kernel
theorem dX7_harm_15 : decode cX7_harm 15 = .ok (.bipush 60, 2) := by decide +kernel
theorem dX7_harm_17 : decode cX7_harm 17 = .ok (.invokestatic 57, 3) := by decide +kernel
theorem dX7_harm_20 : decode cX7_harm 20 = .ok (.ifCond .eq 12, 3) := by decide +kernel
theorem dX7_harm_23 : decode cX7_harm 23 = .ok (.iload_n 2, 1) := by decide +kernel
theorem dX7_harm_24 : decode cX7_harm 24 = .ok (.iconst 0, 1) := by decide +kernel
theorem dX7_harm_25 : decode cX7_harm 25 = .ok (.iconst 1, 1) := by decide +kernel
theorem dX7_harm_26 : decode cX7_harm 26 = .ok (.invokestatic 57, 3) := by decide +kernel
theorem dX7_harm_29 : decode cX7_harm 29 = .ok (.ifCond .ne 6, 3) := by decide +kernel
theorem dX7_harm_32 : decode cX7_harm 32 = .ok (.ldc 61, 2) := by decide +kernel
theorem dX7_harm_34 : decode cX7_harm 34 = .ok (.ireturn, 1) := by decide +kernel
theorem dX7_harm_35 : decode cX7_harm 35 = .ok (.ldc 202, 2) := by decide +kernel
theorem dX7_harm_37 : decode cX7_harm 37 = .ok (.istore_n 3, 1) := by decide +kernel
theorem dX7_harm_38 : decode cX7_harm 38 = .ok (.ldc 202, 2) := by decide +kernel
theorem dX7_harm_40 : decode cX7_harm 40 = .ok (.istore 4, 2) := by decide +kernel
theorem dX7_harm_42 : decode cX7_harm 42 = .ok (.iconst 0, 1) := by decide +kernel
theorem dX7_harm_43 : decode cX7_harm 43 = .ok (.istore 5, 2) := by decide +kernel
theorem dX7_harm_45 : decode cX7_harm 45 = .ok (.iload 5, 2) := by decide +kernel
theorem dX7_harm_47 : decode cX7_harm 47 = .ok (.aload_n 0, 1) := by decide +kernel
theorem dX7_harm_48 : decode cX7_harm 48 = .ok (.getfield 39, 3) := by decide +kernel
theorem dX7_harm_51 : decode cX7_harm 51 = .ok (.getfield 238, 3) := by decide +kernel
theorem dX7_harm_54 : decode cX7_harm 54 = .ok (.if_icmp .ge 66, 3) := by decide +kernel
theorem dX7_harm_57 : decode cX7_harm 57 = .ok (.aload_n 0, 1) := by decide +kernel
theorem dX7_harm_58 : decode cX7_harm 58 = .ok (.getfield 43, 3) := by decide +kernel
theorem dX7_harm_61 : decode cX7_harm 61 = .ok (.aload_n 0, 1) := by decide +kernel
theorem dX7_harm_62 : decode cX7_harm 62 = .ok (.getfield 39, 3) := by decide +kernel
theorem dX7_harm_65 : decode cX7_harm 65 = .ok (.invokevirtual 122, 3) := by decide +kernel
theorem dX7_harm_68 : decode cX7_harm 68 = .ok (.aload_n 0, 1) := by decide +kernel
theorem dX7_harm_69 : decode cX7_harm 69 = .ok (.getfield 43, 3) := by decide +kernel
theorem dX7_harm_72 : decode cX7_harm 72 = .ok (.iconst 1, 1) := by decide +kernel
theorem dX7_harm_73 : decode cX7_harm 73 = .ok (.iload 5, 2) := by decide +kernel
theorem dX7_harm_75 : decode cX7_harm 75 = .ok (.ishl, 1) := by decide +kernel
theorem dX7_harm_76 : decode cX7_harm 76 = .ok (.iload_n 1, 1) := by decide +kernel
theorem dX7_harm_77 : decode cX7_harm 77 = .ok (.invokevirtual 241, 3) := by decide +kernel
theorem dX7_harm_80 : decode cX7_harm 80 = .ok (.aload_n 0, 1) := by decide +kernel
theorem dX7_harm_81 : decode cX7_harm 81 = .ok (.getfield 43, 3) := by decide +kernel
theorem dX7_harm_84 : decode cX7_harm 84 = .ok (.iload_n 1, 1) := by decide +kernel
theorem dX7_harm_85 : decode cX7_harm 85 = .ok (.invokevirtual 210, 3) := by decide +kernel
theorem dX7_harm_88 : decode cX7_harm 88 = .ok (.aload_n 0, 1) := by decide +kernel
theorem dX7_harm_89 : decode cX7_harm 89 = .ok (.getfield 43, 3) := by decide +kernel
theorem dX7_harm_92 : decode cX7_harm 92 = .ok (.invokevirtual 214, 3) := by decide +kernel
theorem dX7_harm_95 : decode cX7_harm 95 = .ok (.invokestatic 233, 3) := by decide +kernel
theorem dX7_harm_98 : decode cX7_harm 98 = .ok (.istore 6, 2) := by decide +kernel
theorem dX7_harm_100 : decode cX7_harm 100 = .ok (.iload 6, 2) := by decide +kernel
theorem dX7_harm_102 : decode cX7_harm 102 = .ok (.iload 4, 2) := by decide +kernel
theorem dX7_harm_104 : decode cX7_harm 104 = .ok (.if_icmp .le 10, 3) := by decide +kernel
theorem dX7_harm_107 : decode cX7_harm 107 = .ok (.iload 5, 2) := by decide +kernel
theorem dX7_harm_109 : decode cX7_harm 109 = .ok (.istore_n 3, 1) := by decide +kernel
theorem dX7_harm_110 : decode cX7_harm 110 = .ok (.iload 6, 2) := by decide +kernel
theorem dX7_harm_112 : decode cX7_harm 112 = .ok (.istore 4, 2) := by decide +kernel
theorem dX7_harm_114 : decode cX7_harm 114 = .ok (.iinc 5 1, 3) := by decide +kernel
theorem dX7_harm_117 : decode cX7_harm 117 = .ok (.goto (-72), 3) := by decide +kernel
theorem dX7_harm_120 : decode cX7_harm 120 = .ok (.iload_n 2, 1) := by decide +kernel
theorem dX7_harm_121 : decode cX7_harm 121 = .ok (.ifCond .ne 7, 3) := by decide +kernel
theorem dX7_harm_124 : decode cX7_harm 124 = .ok (.iload_n 3, 1) := by decide +kernel
theorem dX7_harm_125 : decode cX7_harm 125 = .ok (.goto 5, 3) := by decide +kernel
theorem dX7_harm_128 : decode cX7_harm 128 = .ok (.iload 4, 2) := by decide +kernel
theorem dX7_harm_130 : decode cX7_harm 130 = .ok (.ireturn, 1) := by decide +kernel
theorem dX7_bait_0 : decode cX7_bait 0 = .ok (.aload_n 0, 1) := by decide +kernel
theorem dX7_bait_1 : decode cX7_bait 1 = .ok (.getfield 39, 3) := by decide +kernel
theorem dX7_bait_4 : decode cX7_bait 4 = .ok (.iload_n 1, 1) := by decide +kernel
theorem dX7_bait_5 : decode cX7_bait 5 = .ok (.invokevirtual 153, 3) := by decide +kernel
theorem dX7_bait_8 : decode cX7_bait 8 = .ok (.ifnull 22, 3) := by decide +kernel
theorem dX7_bait_11 : decode cX7_bait 11 = .ok (.iload_n 2, 1) := by decide +kernel
theorem dX7_bait_12 : decode cX7_bait 12 = .ok (.iconst 1, 1) := by decide +kernel
theorem dX7_bait_13 : decode cX7_bait 13 = .ok (.bipush 30, 2) := by decide +kernel
theorem dX7_bait_15 : decode cX7_bait 15 = .ok (.invokestatic 57, 3) := by decide +kernel
theorem dX7_bait_18 : decode cX7_bait 18 = .ok (.ifCond .eq 12, 3) := by decide +kernel
theorem dX7_bait_21 : decode cX7_bait 21 = .ok (.iload_n 3, 1) := by decide +kernel
theorem dX7_bait_22 : decode cX7_bait 22 = .ok (.iconst 0, 1) := by decide +kernel
theorem dX7_bait_23 : decode cX7_bait 23 = .ok (.iconst 1, 1) := by decide +kernel
theorem dX7_bait_24 : decode cX7_bait 24 = .ok (.invokestatic 57, 3) := by decide +kernel
theorem dX7_bait_27 : decode cX7_bait 27 = .ok (.ifCond .ne 6, 3) := by decide +kernel
theorem dX7_bait_30 : decode cX7_bait 30 = .ok (.ldc 61, 2) := by decide +kernel
theorem dX7_bait_32 : decode cX7_bait 32 = .ok (.ireturn, 1) := by decide +kernel
theorem dX7_bait_33 : decode cX7_bait 33 = .ok (.ldc 202, 2) := by decide +kernel
theorem dX7_bait_35 : decode cX7_bait 35 = .ok (.istore 4, 2) := by decide +kernel
theorem dX7_bait_37 : decode cX7_bait 37 = .ok (.ldc 202, 2) := by decide +kernel
theorem dX7_bait_39 : decode cX7_bait 39 = .ok (.istore 5, 2) := by decide +kernel
theorem dX7_bait_41 : decode cX7_bait 41 = .ok (.iconst 0, 1) := by decide +kernel
theorem dX7_bait_42 : decode cX7_bait 42 = .ok (.istore 6, 2) := by decide +kernel
theorem dX7_bait_44 : decode cX7_bait 44 = .ok (.iload 6, 2) := by decide +kernel
theorem dX7_bait_46 : decode cX7_bait 46 = .ok (.aload_n 0, 1) := by decide +kernel
theorem dX7_bait_47 : decode cX7_bait 47 = .ok (.getfield 39, 3) := by decide +kernel
theorem dX7_bait_50 : decode cX7_bait 50 = .ok (.getfield 129, 3) := by decide +kernel
theorem dX7_bait_53 : decode cX7_bait 53 = .ok (.if_icmp .ge 45, 3) := by decide +kernel
theorem dX7_bait_56 : decode cX7_bait 56 = .ok (.iload 6, 2) := by decide +kernel
theorem dX7_bait_58 : decode cX7_bait 58 = .ok (.iload_n 1, 1) := by decide +kernel
theorem dX7_bait_59 : decode cX7_bait 59 = .ok (.if_icmp .ne 8, 3) := by decide +kernel
theorem dX7_bait_62 : decode cX7_bait 62 = .ok (.ldc 202, 2) := by decide +kernel
theorem dX7_bait_64 : decode cX7_bait 64 = .ok (.goto 11, 3) := by decide +kernel
theorem dX7_bait_67 : decode cX7_bait 67 = .ok (.aload_n 0, 1) := by decide +kernel
theorem dX7_bait_68 : decode cX7_bait 68 = .ok (.iload_n 1, 1) := by decide +kernel
theorem dX7_bait_69 : decode cX7_bait 69 = .ok (.iload 6, 2) := by decide +kernel
theorem dX7_bait_71 : decode cX7_bait 71 = .ok (.iload_n 2, 1) := by decide +kernel
theorem dX7_bait_72 : decode cX7_bait 72 = .ok (.invokevirtual 244, 3) := by decide +kernel
theorem dX7_bait_75 : decode cX7_bait 75 = .ok (.istore 7, 2) := by decide +kernel
theorem dX7_bait_77 : decode cX7_bait 77 = .ok (.iload 7, 2) := by decide +kernel
theorem dX7_bait_79 : decode cX7_bait 79 = .ok (.iload 5, 2) := by decide +kernel
theorem dX7_bait_81 : decode cX7_bait 81 = .ok (.if_icmp .le 11, 3) := by decide +kernel
theorem dX7_bait_84 : decode cX7_bait 84 = .ok (.iload 6, 2) := by decide +kernel
theorem dX7_bait_86 : decode cX7_bait 86 = .ok (.istore 4, 2) := by decide +kernel
theorem dX7_bait_88 : decode cX7_bait 88 = .ok (.iload 7, 2) := by decide +kernel
theorem dX7_bait_90 : decode cX7_bait 90 = .ok (.istore 5, 2) := by decide +kernel
theorem dX7_bait_92 : decode cX7_bait 92 = .ok (.iinc 6 1, 3) := by decide +kernel
theorem dX7_bait_95 : decode cX7_bait 95 = .ok (.goto (-51), 3) := by decide +kernel
theorem dX7_bait_98 : decode cX7_bait 98 = .ok (.iload_n 3, 1) := by decide +kernel
theorem dX7_bait_99 : decode cX7_bait 99 = .ok (.ifCond .ne 8, 3) := by decide +kernel
theorem dX7_bait_102 : decode cX7_bait 102 = .ok (.iload 4, 2) := by decide +kernel
theorem dX7_bait_104 : decode cX7_bait 104 = .ok (.goto 5, 3) := by decide +kernel
theorem dX7_bait_107 : decode cX7_bait 107 = .ok (.iload 5, 2) := by decide +kernel
theorem dX7_bait_109 : decode cX7_bait 109 = .ok (.ireturn, 1) := by decide +kernel
theorem dX7_safeHeight_0 : decode cX7_safeHeight 0 = .ok (.aload_n 0, 1) := by decide +kernel
theorem dX7_safeHeight_1 : decode cX7_safeHeight 1 = .ok (.getfield 39, 3) := by decide +kernel
theorem dX7_safeHeight_4 : decode cX7_safeHeight 4 = .ok (.iload_n 1, 1) := by decide +kernel
theorem dX7_safeHeight_5 : decode cX7_safeHeight 5 = .ok (.invokevirtual 153, 3) := by decide +kernel
theorem dX7_safeHeight_8 : decode cX7_safeHeight 8 = .ok (.astore_n 3, 1) := by decide +kernel
theorem dX7_safeHeight_9 : decode cX7_safeHeight 9 = .ok (.aload_n 3, 1) := by decide +kernel
theorem dX7_safeHeight_10 : decode cX7_safeHeight 10 = .ok (.ifnull 13, 3) := by decide +kernel
theorem dX7_safeHeight_13 : decode cX7_safeHeight 13 = .ok (.iload_n 2, 1) := by decide +kernel
theorem dX7_safeHeight_14 : decode cX7_safeHeight 14 = .ok (.iconst 1, 1) := by decide +kernel
theorem dX7_safeHeight_15 : decode cX7_safeHeight 15 = .ok (.bipush 60, 2) := by decide +kernel
theorem dX7_safeHeight_17 : decode cX7_safeHeight 17 = .ok (.invokestatic 57, 3) := by decide +kernel
theorem dX7_safeHeight_20 : decode cX7_safeHeight 20 = .ok (.ifCond .ne 6, 3) := by decide +kernel
theorem dX7_safeHeight_23 : decode cX7_safeHeight 23 = .ok (.ldc 61, 2) := by decide +kernel
theorem dX7_safeHeight_25 : decode cX7_safeHeight 25 = .ok (.ireturn, 1) := by decide +kernel
theorem dX7_safeHeight_26 : decode cX7_safeHeight 26 = .ok (.aload_n 3, 1) := by decide +kernel
theorem dX7_safeHeight_27 : decode cX7_safeHeight 27 = .ok (.invokevirtual 157, 3) := by decide +kernel
theorem dX7_safeHeight_30 : decode cX7_safeHeight 30 = .ok (.ifCond .eq 6, 3) := by decide +kernel
theorem dX7_safeHeight_33 : decode cX7_safeHeight 33 = .ok (.ldc 138, 2) := by decide +kernel
theorem dX7_safeHeight_35 : decode cX7_safeHeight 35 = .ok (.ireturn, 1) := by decide +kernel
theorem dX7_safeHeight_36 : decode cX7_safeHeight 36 = .ok (.iconst 0, 1) := by decide +kernel
theorem dX7_safeHeight_37 : decode cX7_safeHeight 37 = .ok (.istore 4, 2) := by decide +kernel
theorem dX7_safeHeight_39 : decode cX7_safeHeight 39 = .ok (.iload 4, 2) := by decide +kernel
theorem dX7_safeHeight_41 : decode cX7_safeHeight 41 = .ok (.bipush 9, 2) := by decide +kernel
theorem dX7_safeHeight_43 : decode cX7_safeHeight 43 = .ok (.if_icmp .gt 57, 3) := by decide +kernel
theorem dX7_safeHeight_46 : decode cX7_safeHeight 46 = .ok (.aload_n 0, 1) := by decide +kernel
theorem dX7_safeHeight_47 : decode cX7_safeHeight 47 = .ok (.getfield 43, 3) := by decide +kernel
theorem dX7_safeHeight_50 : decode cX7_safeHeight 50 = .ok (.aload_n 0, 1) := by decide +kernel
theorem dX7_safeHeight_51 : decode cX7_safeHeight 51 = .ok (.getfield 39, 3) := by decide +kernel
theorem dX7_safeHeight_54 : decode cX7_safeHeight 54 = .ok (.iload_n 1, 1) := by decide +kernel
theorem dX7_safeHeight_55 : decode cX7_safeHeight 55 = .ok (.invokevirtual 206, 3) := by decide +kernel
theorem dX7_safeHeight_58 : decode cX7_safeHeight 58 = .ok (.astore 5, 2) := by decide +kernel
theorem dX7_safeHeight_60 : decode cX7_safeHeight 60 = .ok (.aload 5, 2) := by decide +kernel
theorem dX7_safeHeight_62 : decode cX7_safeHeight 62 = .ok (.ifnonnull 6, 3) := by decide +kernel
theorem dX7_safeHeight_65 : decode cX7_safeHeight 65 = .ok (.ldc 61, 2) := by decide +kernel
theorem dX7_safeHeight_67 : decode cX7_safeHeight 67 = .ok (.ireturn, 1) := by decide +kernel
theorem dX7_safeHeight_68 : decode cX7_safeHeight 68 = .ok (.aload 5, 2) := by decide +kernel
theorem dX7_safeHeight_70 : decode cX7_safeHeight 70 = .ok (.iload 4, 2) := by decide +kernel
theorem dX7_safeHeight_72 : decode cX7_safeHeight 72 = .ok (.putfield 162, 3) := by decide +kernel
theorem dX7_safeHeight_75 : decode cX7_safeHeight 75 = .ok (.aload_n 0, 1) := by decide +kernel
theorem dX7_safeHeight_76 : decode cX7_safeHeight 76 = .ok (.getfield 43, 3) := by decide +kernel
theorem dX7_safeHeight_79 : decode cX7_safeHeight 79 = .ok (.iload_n 2, 1) := by decide +kernel
theorem dX7_safeHeight_80 : decode cX7_safeHeight 80 = .ok (.invokevirtual 210, 3) := by decide +kernel
theorem dX7_safeHeight_83 : decode cX7_safeHeight 83 = .ok (.aload 5, 2) := by decide +kernel
theorem dX7_safeHeight_85 : decode cX7_safeHeight 85 = .ok (.getfield 220, 3) := by decide +kernel
theorem dX7_safeHeight_88 : decode cX7_safeHeight 88 = .ok (.ifCond .ne 6, 3) := by decide +kernel
theorem dX7_safeHeight_91 : decode cX7_safeHeight 91 = .ok (.iload 4, 2) := by decide +kernel
theorem dX7_safeHeight_93 : decode cX7_safeHeight 93 = .ok (.ireturn, 1) := by decide +kernel
theorem dX7_safeHeight_94 : decode cX7_safeHeight 94 = .ok (.iinc 4 1, 3) := by decide +kernel
theorem dX7_safeHeight_97 : decode cX7_safeHeight 97 = .ok (.goto (-58), 3) := by decide +kernel
theorem dX7_safeHeight_100 : decode cX7_safeHeight 100 = .ok (.ldc 202, 2) := by decide +kernel
theorem dX7_safeHeight_102 : decode cX7_safeHeight 102 = .ok (.ireturn, 1) := by decide +kernel
theorem dX7_who_0 : decode cX7_who 0 = .ok (.aload_n 0, 1) := by decide +kernel
theorem dX7_who_1 : decode cX7_who 1 = .ok (.iload 4, 2) := by decide +kernel
theorem dX7_who_3 : decode cX7_who 3 = .ok (.invokevirtual 53, 3) := by decide +kernel
theorem dX7_who_6 : decode cX7_who 6 = .ok (.astore 7, 2) := by decide +kernel
theorem dX7_who_8 : decode cX7_who 8 = .ok (.aload_n 0, 1) := by decide +kernel
theorem dX7_who_9 : decode cX7_who 9 = .ok (.getfield 39, 3) := by decide +kernel
theorem dX7_who_12 : decode cX7_who 12 = .ok (.iload_n 1, 1) := by decide +kernel
theorem dX7_who_13 : decode cX7_who 13 = .ok (.invokevirtual 153, 3) := by decide +kernel
theorem dX7_who_16 : decode cX7_who 16 = .ok (.ifnull 39, 3) := by decide +kernel
theorem dX7_who_19 : decode cX7_who 19 = .ok (.aload_n 0, 1) := by decide +kernel
theorem dX7_who_20 : decode cX7_who 20 = .ok (.getfield 39, 3) := by decide +kernel
theorem dX7_who_23 : decode cX7_who 23 = .ok (.iload_n 3, 1) := by decide +kernel
theorem dX7_who_24 : decode cX7_who 24 = .ok (.invokevirtual 153, 3) := by decide +kernel
theorem dX7_who_27 : decode cX7_who 27 = .ok (.ifnull 28, 3) := by decide +kernel
theorem dX7_who_30 : decode cX7_who 30 = .ok (.aload 7, 2) := by decide +kernel
theorem dX7_who_32 : decode cX7_who 32 = .ok (.ifnull 23, 3) := by decide +kernel
theorem dX7_who_35 : decode cX7_who 35 = .ok (.iload_n 2, 1) := by decide +kernel
theorem dX7_who_36 : decode cX7_who 36 = .ok (.iconst 0, 1) := by decide +kernel
theorem dX7_who_37 : decode cX7_who 37 = .ok (.iconst 2, 1) := by decide +kernel
theorem dX7_who_38 : decode cX7_who 38 = .ok (.invokestatic 57, 3) := by decide +kernel
theorem dX7_who_41 : decode cX7_who 41 = .ok (.ifCond .eq 14, 3) := by decide +kernel
theorem dX7_who_44 : decode cX7_who 44 = .ok (.iload 6, 2) := by decide +kernel
theorem dX7_who_46 : decode cX7_who 46 = .ok (.iconst 1, 1) := by decide +kernel
theorem dX7_who_47 : decode cX7_who 47 = .ok (.bipush 12, 2) := by decide +kernel
theorem dX7_who_49 : decode cX7_who 49 = .ok (.invokestatic 57, 3) := by decide +kernel
theorem dX7_who_52 : decode cX7_who 52 = .ok (.ifCond .ne 6, 3) := by decide +kernel
theorem dX7_who_55 : decode cX7_who 55 = .ok (.ldc 61, 2) := by decide +kernel
theorem dX7_who_57 : decode cX7_who 57 = .ok (.ireturn, 1) := by decide +kernel
theorem dX7_who_58 : decode cX7_who 58 = .ok (.aload 7, 2) := by decide +kernel
theorem dX7_who_60 : decode cX7_who 60 = .ok (.getfield 74, 3) := by decide +kernel
theorem dX7_who_63 : decode cX7_who 63 = .ok (.ifCond .ne 9, 3) := by decide +kernel
theorem dX7_who_66 : decode cX7_who 66 = .ok (.aload_n 0, 1) := by decide +kernel
theorem dX7_who_67 : decode cX7_who 67 = .ok (.iconst 1, 1) := by decide +kernel
theorem dX7_who_68 : decode cX7_who 68 = .ok (.invokevirtual 62, 3) := by decide +kernel
theorem dX7_who_71 : decode cX7_who 71 = .ok (.ireturn, 1) := by decide +kernel
theorem dX7_who_72 : decode cX7_who 72 = .ok (.aload 7, 2) := by decide +kernel
theorem dX7_who_74 : decode cX7_who 74 = .ok (.iload 5, 2) := by decide +kernel
theorem dX7_who_76 : decode cX7_who 76 = .ok (.iload 6, 2) := by decide +kernel
theorem dX7_who_78 : decode cX7_who 78 = .ok (.invokevirtual 78, 3) := by decide +kernel
theorem dX7_who_81 : decode cX7_who 81 = .ok (.ifCond .ne 9, 3) := by decide +kernel
theorem dX7_who_84 : decode cX7_who 84 = .ok (.aload_n 0, 1) := by decide +kernel
theorem dX7_who_85 : decode cX7_who 85 = .ok (.iconst 2, 1) := by decide +kernel
theorem dX7_who_86 : decode cX7_who 86 = .ok (.invokevirtual 62, 3) := by decide +kernel
theorem dX7_who_89 : decode cX7_who 89 = .ok (.ireturn, 1) := by decide +kernel
theorem dX7_who_90 : decode cX7_who 90 = .ok (.aload_n 0, 1) := by decide +kernel
theorem dX7_who_91 : decode cX7_who 91 = .ok (.iconst 0, 1) := by decide +kernel
theorem dX7_who_92 : decode cX7_who 92 = .ok (.putfield 66, 3) := by decide +kernel
theorem dX7_who_95 : decode cX7_who 95 = .ok (.iload_n 2, 1) := by decide +kernel
theorem dX7_who_96 : decode cX7_who 96 = .ok (.ifCond .ne 7, 3) := by decide +kernel
theorem dX7_who_99 : decode cX7_who 99 = .ok (.iconst 1, 1) := by decide +kernel
theorem dX7_who_100 : decode cX7_who 100 = .ok (.goto 4, 3) := by decide +kernel
theorem dX7_who_103 : decode cX7_who 103 = .ok (.iconst 0, 1) := by decide +kernel
theorem dX7_who_104 : decode cX7_who 104 = .ok (.istore 8, 2) := by decide +kernel
theorem dX7_who_106 : decode cX7_who 106 = .ok (.iload_n 2, 1) := by decide +kernel
theorem dX7_who_107 : decode cX7_who 107 = .ok (.ifCond .ne 7, 3) := by decide +kernel
theorem dX7_who_110 : decode cX7_who 110 = .ok (.iconst 5, 1) := by decide +kernel
theorem dX7_who_111 : decode cX7_who 111 = .ok (.goto 15, 3) := by decide +kernel
theorem dX7_who_114 : decode cX7_who 114 = .ok (.iload_n 2, 1) := by decide +kernel
theorem dX7_who_115 : decode cX7_who 115 = .ok (.iconst 1, 1) := by decide +kernel
theorem dX7_who_116 : decode cX7_who 116 = .ok (.if_icmp .ne 8, 3) := by decide +kernel
theorem dX7_who_119 : decode cX7_who 119 = .ok (.bipush 9, 2) := by decide +kernel
theorem dX7_who_121 : decode cX7_who 121 = .ok (.goto 5, 3) := by decide +kernel
theorem dX7_who_124 : decode cX7_who 124 = .ok (.bipush 19, 2) := by decide +kernel
theorem dX7_who_126 : decode cX7_who 126 = .ok (.istore 9, 2) := by decide +kernel
theorem dX7_who_128 : decode cX7_who 128 = .ok (.iconst 0, 1) := by decide +kernel
theorem dX7_who_129 : decode cX7_who 129 = .ok (.istore 10, 2) := by decide +kernel
theorem dX7_who_131 : decode cX7_who 131 = .ok (.iload 8, 2) := by decide +kernel
theorem dX7_who_133 : decode cX7_who 133 = .ok (.istore 11, 2) := by decide +kernel
theorem dX7_who_135 : decode cX7_who 135 = .ok (.iload 11, 2) := by decide +kernel
theorem dX7_who_137 : decode cX7_who 137 = .ok (.iload 9, 2) := by decide +kernel
theorem dX7_who_139 : decode cX7_who 139 = .ok (.if_icmp .gt 65, 3) := by decide +kernel
theorem dX7_who_142 : decode cX7_who 142 = .ok (.aload_n 0, 1) := by decide +kernel
theorem dX7_who_143 : decode cX7_who 143 = .ok (.getfield 43, 3) := by decide +kernel
theorem dX7_who_146 : decode cX7_who 146 = .ok (.aload_n 0, 1) := by decide +kernel
theorem dX7_who_147 : decode cX7_who 147 = .ok (.getfield 39, 3) := by decide +kernel
theorem dX7_who_150 : decode cX7_who 150 = .ok (.iload_n 1, 1) := by decide +kernel
theorem dX7_who_151 : decode cX7_who 151 = .ok (.invokevirtual 206, 3) := by decide +kernel
theorem dX7_who_154 : decode cX7_who 154 = .ok (.astore 12, 2) := by decide +kernel
theorem dX7_who_156 : decode cX7_who 156 = .ok (.aload 12, 2) := by decide +kernel
theorem dX7_who_158 : decode cX7_who 158 = .ok (.ifnonnull 6, 3) := by decide +kernel
theorem dX7_who_161 : decode cX7_who 161 = .ok (.ldc 61, 2) := by decide +kernel
theorem dX7_who_163 : decode cX7_who 163 = .ok (.ireturn, 1) := by decide +kernel
theorem dX7_who_164 : decode cX7_who 164 = .ok (.aload 12, 2) := by decide +kernel
theorem dX7_who_166 : decode cX7_who 166 = .ok (.iload_n 2, 1) := by decide +kernel
theorem dX7_who_167 : decode cX7_who 167 = .ok (.iload 11, 2) := by decide +kernel
theorem dX7_who_169 : decode cX7_who 169 = .ok (.invokevirtual 248, 3) := by decide +kernel
theorem dX7_who_172 : decode cX7_who 172 = .ok (.aload_n 0, 1) := by decide +kernel
theorem dX7_who_173 : decode cX7_who 173 = .ok (.getfield 43, 3) := by decide +kernel
theorem dX7_who_176 : decode cX7_who 176 = .ok (.iload_n 3, 1) := by decide +kernel
theorem dX7_who_177 : decode cX7_who 177 = .ok (.aload 7, 2) := by decide +kernel
theorem dX7_who_179 : decode cX7_who 179 = .ok (.iload 5, 2) := by decide +kernel
theorem dX7_who_181 : decode cX7_who 181 = .ok (.iload 6, 2) := by decide +kernel
theorem dX7_who_183 : decode cX7_who 183 = .ok (.invokevirtual 251, 3) := by decide +kernel
theorem dX7_who_186 : decode cX7_who 186 = .ok (.ifCond .eq 12, 3) := by decide +kernel
theorem dX7_who_189 : decode cX7_who 189 = .ok (.iload 10, 2) := by decide +kernel
theorem dX7_who_191 : decode cX7_who 191 = .ok (.iconst 1, 1) := by decide +kernel
theorem dX7_who_192 : decode cX7_who 192 = .ok (.iload 11, 2) := by decide +kernel
theorem dX7_who_194 : decode cX7_who 194 = .ok (.ishl, 1) := by decide +kernel
theorem dX7_who_195 : decode cX7_who 195 = .ok (.ior, 1) := by decide +kernel
theorem dX7_who_196 : decode cX7_who 196 = .ok (.istore 10, 2) := by decide +kernel
theorem dX7_who_198 : decode cX7_who 198 = .ok (.iinc 11 1, 3) := by decide +kernel
theorem dX7_who_201 : decode cX7_who 201 = .ok (.goto (-66), 3) := by decide +kernel
theorem dX7_who_204 : decode cX7_who 204 = .ok (.iload 10, 2) := by decide +kernel
theorem dX7_who_206 : decode cX7_who 206 = .ok (.ireturn, 1) := by decide +kernel
theorem dX7_strayed_0 : decode cX7_strayed 0 = .ok (.aload_n 0, 1) := by decide +kernel
theorem dX7_strayed_1 : decode cX7_strayed 1 = .ok (.iload_n 2, 1) := by decide +kernel
theorem dX7_strayed_2 : decode cX7_strayed 2 = .ok (.invokevirtual 53, 3) := by decide +kernel
theorem dX7_strayed_5 : decode cX7_strayed 5 = .ok (.astore 5, 2) := by decide +kernel
theorem dX7_strayed_7 : decode cX7_strayed 7 = .ok (.aload_n 0, 1) := by decide +kernel
theorem dX7_strayed_8 : decode cX7_strayed 8 = .ok (.getfield 39, 3) := by decide +kernel
theorem dX7_strayed_11 : decode cX7_strayed 11 = .ok (.iload_n 1, 1) := by decide +kernel
theorem dX7_strayed_12 : decode cX7_strayed 12 = .ok (.invokevirtual 153, 3) := by decide +kernel
theorem dX7_strayed_15 : decode cX7_strayed 15 = .ok (.ifnull 19, 3) := by decide +kernel
theorem dX7_strayed_18 : decode cX7_strayed 18 = .ok (.aload 5, 2) := by decide +kernel
theorem dX7_strayed_20 : decode cX7_strayed 20 = .ok (.ifnull 14, 3) := by decide +kernel
theorem dX7_strayed_23 : decode cX7_strayed 23 = .ok (.iload 4, 2) := by decide +kernel
theorem dX7_strayed_25 : decode cX7_strayed 25 = .ok (.iconst 1, 1) := by decide +kernel
theorem dX7_strayed_26 : decode cX7_strayed 26 = .ok (.bipush 12, 2) := by decide +kernel
theorem dX7_strayed_28 : decode cX7_strayed 28 = .ok (.invokestatic 57, 3) := by decide +kernel
theorem dX7_strayed_31 : decode cX7_strayed 31 = .ok (.ifCond .ne 6, 3) := by decide +kernel
theorem dX7_strayed_34 : decode cX7_strayed 34 = .ok (.ldc 61, 2) := by decide +kernel
theorem dX7_strayed_36 : decode cX7_strayed 36 = .ok (.ireturn, 1) := by decide +kernel
theorem dX7_strayed_37 : decode cX7_strayed 37 = .ok (.aload 5, 2) := by decide +kernel
theorem dX7_strayed_39 : decode cX7_strayed 39 = .ok (.getfield 74, 3) := by decide +kernel
theorem dX7_strayed_42 : decode cX7_strayed 42 = .ok (.ifCond .ne 9, 3) := by decide +kernel
theorem dX7_strayed_45 : decode cX7_strayed 45 = .ok (.aload_n 0, 1) := by decide +kernel
theorem dX7_strayed_46 : decode cX7_strayed 46 = .ok (.iconst 1, 1) := by decide +kernel
theorem dX7_strayed_47 : decode cX7_strayed 47 = .ok (.invokevirtual 62, 3) := by decide +kernel
theorem dX7_strayed_50 : decode cX7_strayed 50 = .ok (.ireturn, 1) := by decide +kernel
theorem dX7_strayed_51 : decode cX7_strayed 51 = .ok (.aload 5, 2) := by decide +kernel
theorem dX7_strayed_53 : decode cX7_strayed 53 = .ok (.iload_n 3, 1) := by decide +kernel
theorem dX7_strayed_54 : decode cX7_strayed 54 = .ok (.iload 4, 2) := by decide +kernel
theorem dX7_strayed_56 : decode cX7_strayed 56 = .ok (.invokevirtual 78, 3) := by decide +kernel
theorem dX7_strayed_59 : decode cX7_strayed 59 = .ok (.ifCond .ne 9, 3) := by decide +kernel
theorem dX7_strayed_62 : decode cX7_strayed 62 = .ok (.aload_n 0, 1) := by decide +kernel
theorem dX7_strayed_63 : decode cX7_strayed 63 = .ok (.iconst 2, 1) := by decide +kernel
theorem dX7_strayed_64 : decode cX7_strayed 64 = .ok (.invokevirtual 62, 3) := by decide +kernel
theorem dX7_strayed_67 : decode cX7_strayed 67 = .ok (.ireturn, 1) := by decide +kernel
theorem dX7_strayed_68 : decode cX7_strayed 68 = .ok (.aload_n 0, 1) := by decide +kernel
theorem dX7_strayed_69 : decode cX7_strayed 69 = .ok (.iconst 0, 1) := by decide +kernel
theorem dX7_strayed_70 : decode cX7_strayed 70 = .ok (.putfield 66, 3) := by decide +kernel
theorem dX7_strayed_73 : decode cX7_strayed 73 = .ok (.aload_n 0, 1) := by decide +kernel
theorem dX7_strayed_74 : decode cX7_strayed 74 = .ok (.getfield 43, 3) := by decide +kernel
theorem dX7_strayed_77 : decode cX7_strayed 77 = .ok (.aload_n 0, 1) := by decide +kernel
theorem dX7_strayed_78 : decode cX7_strayed 78 = .ok (.getfield 39, 3) := by decide +kernel
theorem dX7_strayed_81 : decode cX7_strayed 81 = .ok (.invokevirtual 122, 3) := by decide +kernel
theorem dX7_strayed_84 : decode cX7_strayed 84 = .ok (.aload_n 0, 1) := by decide +kernel
theorem dX7_strayed_85 : decode cX7_strayed 85 = .ok (.getfield 43, 3) := by decide +kernel
theorem dX7_strayed_88 : decode cX7_strayed 88 = .ok (.iload_n 1, 1) := by decide +kernel
theorem dX7_strayed_89 : decode cX7_strayed 89 = .ok (.aload 5, 2) := by decide +kernel
theorem dX7_strayed_91 : decode cX7_strayed 91 = .ok (.iload_n 3, 1) := by decide +kernel
theorem dX7_strayed_92 : decode cX7_strayed 92 = .ok (.iload 4, 2) := by decide +kernel
theorem dX7_strayed_94 : decode cX7_strayed 94 = .ok (.invokevirtual 251, 3) := by decide +kernel
theorem dX7_strayed_97 : decode cX7_strayed 97 = .ok (.ifCond .eq 8, 3) := by decide +kernel
theorem dX7_strayed_100 : decode cX7_strayed 100 = .ok (.bipush 16, 2) := by decide +kernel
theorem dX7_strayed_102 : decode cX7_strayed 102 = .ok (.goto 4, 3) := by decide +kernel
theorem dX7_strayed_105 : decode cX7_strayed 105 = .ok (.iconst 0, 1) := by decide +kernel
theorem dX7_strayed_106 : decode cX7_strayed 106 = .ok (.istore 6, 2) := by decide +kernel
theorem dX7_strayed_108 : decode cX7_strayed 108 = .ok (.iconst 0, 1) := by decide +kernel
theorem dX7_strayed_109 : decode cX7_strayed 109 = .ok (.istore 7, 2) := by decide +kernel
theorem dX7_strayed_111 : decode cX7_strayed 111 = .ok (.iload 7, 2) := by decide +kernel
theorem dX7_strayed_113 : decode cX7_strayed 113 = .ok (.aload_n 0, 1) := by decide +kernel
theorem dX7_strayed_114 : decode cX7_strayed 114 = .ok (.getfield 39, 3) := by decide +kernel
theorem dX7_strayed_117 : decode cX7_strayed 117 = .ok (.getfield 238, 3) := by decide +kernel
theorem dX7_strayed_120 : decode cX7_strayed 120 = .ok (.if_icmp .ge 58, 3) := by decide +kernel
theorem dX7_strayed_123 : decode cX7_strayed 123 = .ok (.aload_n 0, 1) := by decide +kernel
theorem dX7_strayed_124 : decode cX7_strayed 124 = .ok (.getfield 43, 3) := by decide +kernel
theorem dX7_strayed_127 : decode cX7_strayed 127 = .ok (.aload_n 0, 1) := by decide +kernel
theorem dX7_strayed_128 : decode cX7_strayed 128 = .ok (.getfield 39, 3) := by decide +kernel
theorem dX7_strayed_131 : decode cX7_strayed 131 = .ok (.invokevirtual 122, 3) := by decide +kernel
theorem dX7_strayed_134 : decode cX7_strayed 134 = .ok (.aload_n 0, 1) := by decide +kernel
theorem dX7_strayed_135 : decode cX7_strayed 135 = .ok (.getfield 43, 3) := by decide +kernel
theorem dX7_strayed_138 : decode cX7_strayed 138 = .ok (.iconst 1, 1) := by decide +kernel
theorem dX7_strayed_139 : decode cX7_strayed 139 = .ok (.iload 7, 2) := by decide +kernel
theorem dX7_strayed_141 : decode cX7_strayed 141 = .ok (.ishl, 1) := by decide +kernel
theorem dX7_strayed_142 : decode cX7_strayed 142 = .ok (.iload 4, 2) := by decide +kernel
theorem dX7_strayed_144 : decode cX7_strayed 144 = .ok (.invokevirtual 241, 3) := by decide +kernel
theorem dX7_strayed_147 : decode cX7_strayed 147 = .ok (.aload_n 0, 1) := by decide +kernel
theorem dX7_strayed_148 : decode cX7_strayed 148 = .ok (.getfield 43, 3) := by decide +kernel
theorem dX7_strayed_151 : decode cX7_strayed 151 = .ok (.iload_n 1, 1) := by decide +kernel
theorem dX7_strayed_152 : decode cX7_strayed 152 = .ok (.aload 5, 2) := by decide +kernel
theorem dX7_strayed_154 : decode cX7_strayed 154 = .ok (.iload_n 3, 1) := by decide +kernel
theorem dX7_strayed_155 : decode cX7_strayed 155 = .ok (.iload 4, 2) := by decide +kernel
theorem dX7_strayed_157 : decode cX7_strayed 157 = .ok (.invokevirtual 251, 3) := by decide +kernel
theorem dX7_strayed_160 : decode cX7_strayed 160 = .ok (.ifCond .eq 12, 3) := by decide +kernel
theorem dX7_strayed_163 : decode cX7_strayed 163 = .ok (.iload 6, 2) := by decide +kernel
theorem dX7_strayed_165 : decode cX7_strayed 165 = .ok (.iconst 1, 1) := by decide +kernel
theorem dX7_strayed_166 : decode cX7_strayed 166 = .ok (.iload 7, 2) := by decide +kernel
theorem dX7_strayed_168 : decode cX7_strayed 168 = .ok (.ishl, 1) := by decide +kernel
theorem dX7_strayed_169 : decode cX7_strayed 169 = .ok (.ior, 1) := by decide +kernel
theorem dX7_strayed_170 : decode cX7_strayed 170 = .ok (.istore 6, 2) := by decide +kernel
theorem dX7_strayed_172 : decode cX7_strayed 172 = .ok (.iinc 7 1, 3) := by decide +kernel
theorem dX7_strayed_175 : decode cX7_strayed 175 = .ok (.goto (-64), 3) := by decide +kernel
theorem dX7_strayed_178 : decode cX7_strayed 178 = .ok (.iload 6, 2) := by decide +kernel
theorem dX7_strayed_180 : decode cX7_strayed 180 = .ok (.ireturn, 1) := by decide +kernel
theorem dX7_rivals_0 : decode cX7_rivals 0 = .ok (.aload_n 0, 1) := by decide +kernel
theorem dX7_rivals_1 : decode cX7_rivals 1 = .ok (.getfield 39, 3) := by decide +kernel
theorem dX7_rivals_4 : decode cX7_rivals 4 = .ok (.invokevirtual 139, 3) := by decide +kernel
theorem dX7_rivals_7 : decode cX7_rivals 7 = .ok (.ifCond .ne 6, 3) := by decide +kernel
theorem dX7_rivals_10 : decode cX7_rivals 10 = .ok (.ldc 138, 2) := by decide +kernel
theorem dX7_rivals_12 : decode cX7_rivals 12 = .ok (.ireturn, 1) := by decide +kernel
theorem dX7_rivals_13 : decode cX7_rivals 13 = .ok (.iload_n 1, 1) := by decide +kernel
theorem dX7_rivals_14 : decode cX7_rivals 14 = .ok (.iconst 0, 1) := by decide +kernel
theorem dX7_rivals_15 : decode cX7_rivals 15 = .ok (.iconst 1, 1) := by decide +kernel
theorem dX7_rivals_16 : decode cX7_rivals 16 = .ok (.invokestatic 57, 3) := by decide +kernel
theorem dX7_rivals_19 : decode cX7_rivals 19 = .ok (.ifCond .ne 6, 3) := by decide +kernel
theorem dX7_rivals_22 : decode cX7_rivals 22 = .ok (.ldc 61, 2) := by decide +kernel
theorem dX7_rivals_24 : decode cX7_rivals 24 = .ok (.ireturn, 1) := by decide +kernel
theorem dX7_rivals_25 : decode cX7_rivals 25 = .ok (.iconst 0, 1) := by decide +kernel
theorem dX7_rivals_26 : decode cX7_rivals 26 = .ok (.istore_n 2, 1) := by decide +kernel
theorem dX7_rivals_27 : decode cX7_rivals 27 = .ok (.ldc 202, 2) := by decide +kernel
theorem dX7_rivals_29 : decode cX7_rivals 29 = .ok (.istore_n 3, 1) := by decide +kernel
theorem dX7_rivals_30 : decode cX7_rivals 30 = .ok (.aload_n 0, 1) := by decide +kernel
theorem dX7_rivals_31 : decode cX7_rivals 31 = .ok (.getfield 39, 3) := by decide +kernel
theorem dX7_rivals_34 : decode cX7_rivals 34 = .ok (.getfield 255, 3) := by decide +kernel
theorem dX7_rivals_37 : decode cX7_rivals 37 = .ok (.astore 4, 2) := by decide +kernel
theorem dX7_rivals_39 : decode cX7_rivals 39 = .ok (.aload 4, 2) := by decide +kernel
theorem dX7_rivals_41 : decode cX7_rivals 41 = .ok (.arraylength, 1) := by decide +kernel
theorem dX7_rivals_42 : decode cX7_rivals 42 = .ok (.istore 5, 2) := by decide +kernel
theorem dX7_rivals_44 : decode cX7_rivals 44 = .ok (.iconst 0, 1) := by decide +kernel
theorem dX7_rivals_45 : decode cX7_rivals 45 = .ok (.istore 6, 2) := by decide +kernel
theorem dX7_rivals_47 : decode cX7_rivals 47 = .ok (.iload 6, 2) := by decide +kernel
theorem dX7_rivals_49 : decode cX7_rivals 49 = .ok (.iload 5, 2) := by decide +kernel
theorem dX7_rivals_51 : decode cX7_rivals 51 = .ok (.if_icmp .ge 106, 3) := by decide +kernel
theorem dX7_rivals_54 : decode cX7_rivals 54 = .ok (.aload 4, 2) := by decide +kernel
theorem dX7_rivals_56 : decode cX7_rivals 56 = .ok (.iload 6, 2) := by decide +kernel
theorem dX7_rivals_58 : decode cX7_rivals 58 = .ok (.aaload, 1) := by decide +kernel
theorem dX7_rivals_59 : decode cX7_rivals 59 = .ok (.astore 7, 2) := by decide +kernel
theorem dX7_rivals_61 : decode cX7_rivals 61 = .ok (.aload_n 0, 1) := by decide +kernel
theorem dX7_rivals_62 : decode cX7_rivals 62 = .ok (.getfield 39, 3) := by decide +kernel
theorem dX7_rivals_65 : decode cX7_rivals 65 = .ok (.getfield 255, 3) := by decide +kernel
theorem dX7_rivals_68 : decode cX7_rivals 68 = .ok (.astore 8, 2) := by decide +kernel
theorem dX7_rivals_70 : decode cX7_rivals 70 = .ok (.aload 8, 2) := by decide +kernel
theorem dX7_rivals_72 : decode cX7_rivals 72 = .ok (.arraylength, 1) := by decide +kernel
theorem dX7_rivals_73 : decode cX7_rivals 73 = .ok (.istore 9, 2) := by decide +kernel
theorem dX7_rivals_75 : decode cX7_rivals 75 = .ok (.iconst 0, 1) := by decide +kernel
theorem dX7_rivals_76 : decode cX7_rivals 76 = .ok (.istore 10, 2) := by decide +kernel
theorem dX7_rivals_78 : decode cX7_rivals 78 = .ok (.iload 10, 2) := by decide +kernel
theorem dX7_rivals_80 : decode cX7_rivals 80 = .ok (.iload 9, 2) := by decide +kernel
theorem dX7_rivals_82 : decode cX7_rivals 82 = .ok (.if_icmp .ge 69, 3) := by decide +kernel
theorem dX7_rivals_85 : decode cX7_rivals 85 = .ok (.aload 8, 2) := by decide +kernel
theorem dX7_rivals_87 : decode cX7_rivals 87 = .ok (.iload 10, 2) := by decide +kernel
theorem dX7_rivals_89 : decode cX7_rivals 89 = .ok (.aaload, 1) := by decide +kernel
theorem dX7_rivals_90 : decode cX7_rivals 90 = .ok (.astore 11, 2) := by decide +kernel
theorem dX7_rivals_92 : decode cX7_rivals 92 = .ok (.aload 7, 2) := by decide +kernel
theorem dX7_rivals_94 : decode cX7_rivals 94 = .ok (.getfield 203, 3) := by decide +kernel
theorem dX7_rivals_97 : decode cX7_rivals 97 = .ok (.aload 11, 2) := by decide +kernel
theorem dX7_rivals_99 : decode cX7_rivals 99 = .ok (.getfield 203, 3) := by decide +kernel
theorem dX7_rivals_102 : decode cX7_rivals 102 = .ok (.if_icmp .ge 43, 3) := by decide +kernel
theorem dX7_rivals_105 : decode cX7_rivals 105 = .ok (.aload_n 0, 1) := by decide +kernel
theorem dX7_rivals_106 : decode cX7_rivals 106 = .ok (.getfield 39, 3) := by decide +kernel
theorem dX7_rivals_109 : decode cX7_rivals 109 = .ok (.aload 7, 2) := by decide +kernel
theorem dX7_rivals_111 : decode cX7_rivals 111 = .ok (.aload 11, 2) := by decide +kernel
theorem dX7_rivals_113 : decode cX7_rivals 113 = .ok (.invokevirtual 259, 3) := by decide +kernel
theorem dX7_rivals_116 : decode cX7_rivals 116 = .ok (.ifCond .eq 29, 3) := by decide +kernel
theorem dX7_rivals_119 : decode cX7_rivals 119 = .ok (.iload_n 2, 1) := by decide +kernel
theorem dX7_rivals_120 : decode cX7_rivals 120 = .ok (.ifCond .ne 20, 3) := by decide +kernel
theorem dX7_rivals_123 : decode cX7_rivals 123 = .ok (.bipush 10, 2) := by decide +kernel
theorem dX7_rivals_125 : decode cX7_rivals 125 = .ok (.aload 7, 2) := by decide +kernel
theorem dX7_rivals_127 : decode cX7_rivals 127 = .ok (.getfield 203, 3) := by decide +kernel
theorem dX7_rivals_130 : decode cX7_rivals 130 = .ok (.imul, 1) := by decide +kernel
theorem dX7_rivals_131 : decode cX7_rivals 131 = .ok (.aload 11, 2) := by decide +kernel
theorem dX7_rivals_133 : decode cX7_rivals 133 = .ok (.getfield 203, 3) := by decide +kernel
theorem dX7_rivals_136 : decode cX7_rivals 136 = .ok (.iadd, 1) := by decide +kernel
theorem dX7_rivals_137 : decode cX7_rivals 137 = .ok (.goto 4, 3) := by decide +kernel
theorem dX7_rivals_140 : decode cX7_rivals 140 = .ok (.iload_n 3, 1) := by decide +kernel
theorem dX7_rivals_141 : decode cX7_rivals 141 = .ok (.istore_n 3, 1) := by decide +kernel
theorem dX7_rivals_142 : decode cX7_rivals 142 = .ok (.iinc 2 1, 3) := by decide +kernel
theorem dX7_rivals_145 : decode cX7_rivals 145 = .ok (.iinc 10 1, 3) := by decide +kernel
theorem dX7_rivals_148 : decode cX7_rivals 148 = .ok (.goto (-70), 3) := by decide +kernel
theorem dX7_rivals_151 : decode cX7_rivals 151 = .ok (.iinc 6 1, 3) := by decide +kernel
theorem dX7_rivals_154 : decode cX7_rivals 154 = .ok (.goto (-107), 3) := by decide +kernel
theorem dX7_rivals_157 : decode cX7_rivals 157 = .ok (.iload_n 1, 1) := by decide +kernel
theorem dX7_rivals_158 : decode cX7_rivals 158 = .ok (.ifCond .ne 7, 3) := by decide +kernel
theorem dX7_rivals_161 : decode cX7_rivals 161 = .ok (.iload_n 2, 1) := by decide +kernel
theorem dX7_rivals_162 : decode cX7_rivals 162 = .ok (.goto 4, 3) := by decide +kernel
theorem dX7_rivals_165 : decode cX7_rivals 165 = .ok (.iload_n 3, 1) := by decide +kernel
theorem dX7_rivals_166 : decode cX7_rivals 166 = .ok (.ireturn, 1) := by decide +kernel
theorem dX7_wind_0 : decode cX7_wind 0 = .ok (.aload_n 0, 1) := by decide +kernel
theorem dX7_wind_1 : decode cX7_wind 1 = .ok (.getfield 39, 3) := by decide +kernel
theorem dX7_wind_4 : decode cX7_wind 4 = .ok (.invokevirtual 139, 3) := by decide +kernel
theorem dX7_wind_7 : decode cX7_wind 7 = .ok (.ifCond .ne 7, 3) := by decide +kernel
theorem dX7_wind_10 : decode cX7_wind 10 = .ok (.ldc2_w 263, 3) := by decide +kernel
theorem dX7_wind_13 : decode cX7_wind 13 = .ok (.lreturn, 1) := by decide +kernel
theorem dX7_wind_14 : decode cX7_wind 14 = .ok (.iload_n 1, 1) := by decide +kernel
theorem dX7_wind_15 : decode cX7_wind 15 = .ok (.iconst 0, 1) := by decide +kernel
theorem dX7_wind_16 : decode cX7_wind 16 = .ok (.bipush 7, 2) := by decide +kernel
theorem dX7_wind_18 : decode cX7_wind 18 = .ok (.invokestatic 57, 3) := by decide +kernel
theorem dX7_wind_21 : decode cX7_wind 21 = .ok (.ifCond .eq 22, 3) := by decide +kernel
theorem dX7_wind_24 : decode cX7_wind 24 = .ok (.iload_n 2, 1) := by decide +kernel
theorem dX7_wind_25 : decode cX7_wind 25 = .ok (.iconst 0, 1) := by decide +kernel
theorem dX7_wind_26 : decode cX7_wind 26 = .ok (.bipush 10, 2) := by decide +kernel
theorem dX7_wind_28 : decode cX7_wind 28 = .ok (.invokestatic 57, 3) := by decide +kernel
theorem dX7_wind_31 : decode cX7_wind 31 = .ok (.ifCond .eq 12, 3) := by decide +kernel
theorem dX7_wind_34 : decode cX7_wind 34 = .ok (.iload_n 3, 1) := by decide +kernel
theorem dX7_wind_35 : decode cX7_wind 35 = .ok (.iconst 0, 1) := by decide +kernel
theorem dX7_wind_36 : decode cX7_wind 36 = .ok (.iconst 1, 1) := by decide +kernel
theorem dX7_wind_37 : decode cX7_wind 37 = .ok (.invokestatic 57, 3) := by decide +kernel
theorem dX7_wind_40 : decode cX7_wind 40 = .ok (.ifCond .ne 7, 3) := by decide +kernel
theorem dX7_wind_43 : decode cX7_wind 43 = .ok (.ldc2_w 265, 3) := by decide +kernel
theorem dX7_wind_46 : decode cX7_wind 46 = .ok (.lreturn, 1) := by decide +kernel
theorem dX7_wind_47 : decode cX7_wind 47 = .ok (.aload_n 0, 1) := by decide +kernel
