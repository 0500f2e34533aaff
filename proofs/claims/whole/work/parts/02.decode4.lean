theorem dX8_readLeaf_20 : decode cX8_readLeaf 20 = .ok (.iconst 3, 1) := by decide +kernel
theorem dX8_readLeaf_21 : decode cX8_readLeaf 21 = .ok (.invokevirtual 108, 3) := by decide +kernel
theorem dX8_readLeaf_24 : decode cX8_readLeaf 24 = .ok (.aload_n 0, 1) := by decide +kernel
theorem dX8_readLeaf_25 : decode cX8_readLeaf 25 = .ok (.iconst 1, 1) := by decide +kernel
theorem dX8_readLeaf_26 : decode cX8_readLeaf 26 = .ok (.invokevirtual 115, 3) := by decide +kernel
theorem dX8_readLeaf_29 : decode cX8_readLeaf 29 = .ok (.aload_n 0, 1) := by decide +kernel
theorem dX8_readLeaf_30 : decode cX8_readLeaf 30 = .ok (.iconst 1, 1) := by decide +kernel
theorem dX8_readLeaf_31 : decode cX8_readLeaf 31 = .ok (.bipush 20, 2) := by decide +kernel
theorem dX8_readLeaf_33 : decode cX8_readLeaf 33 = .ok (.invokevirtual 125, 3) := by decide +kernel
theorem dX8_readLeaf_36 : decode cX8_readLeaf 36 = .ok (.istore_n 2, 1) := by decide +kernel
theorem dX8_readLeaf_37 : decode cX8_readLeaf 37 = .ok (.aload_n 0, 1) := by decide +kernel
theorem dX8_readLeaf_38 : decode cX8_readLeaf 38 = .ok (.bipush 44, 2) := by decide +kernel
theorem dX8_readLeaf_40 : decode cX8_readLeaf 40 = .ok (.invokevirtual 129, 3) := by decide +kernel
theorem dX8_readLeaf_43 : decode cX8_readLeaf 43 = .ok (.aload_n 0, 1) := by decide +kernel
theorem dX8_readLeaf_44 : decode cX8_readLeaf 44 = .ok (.iconst 0, 1) := by decide +kernel
theorem dX8_readLeaf_45 : decode cX8_readLeaf 45 = .ok (.bipush 9, 2) := by decide +kernel
theorem dX8_readLeaf_47 : decode cX8_readLeaf 47 = .ok (.invokevirtual 125, 3) := by decide +kernel
theorem dX8_readLeaf_50 : decode cX8_readLeaf 50 = .ok (.istore_n 3, 1) := by decide +kernel
theorem dX8_readLeaf_51 : decode cX8_readLeaf 51 = .ok (.aload_n 0, 1) := by decide +kernel
theorem dX8_readLeaf_52 : decode cX8_readLeaf 52 = .ok (.bipush 44, 2) := by decide +kernel
theorem dX8_readLeaf_54 : decode cX8_readLeaf 54 = .ok (.invokevirtual 129, 3) := by decide +kernel
theorem dX8_readLeaf_57 : decode cX8_readLeaf 57 = .ok (.aload_n 0, 1) := by decide +kernel
theorem dX8_readLeaf_58 : decode cX8_readLeaf 58 = .ok (.iconst 0, 1) := by decide +kernel
theorem dX8_readLeaf_59 : decode cX8_readLeaf 59 = .ok (.bipush 9, 2) := by decide +kernel
theorem dX8_readLeaf_61 : decode cX8_readLeaf 61 = .ok (.invokevirtual 125, 3) := by decide +kernel
theorem dX8_readLeaf_64 : decode cX8_readLeaf 64 = .ok (.istore 4, 2) := by decide +kernel
theorem dX8_readLeaf_66 : decode cX8_readLeaf 66 = .ok (.aload_n 0, 1) := by decide +kernel
theorem dX8_readLeaf_67 : decode cX8_readLeaf 67 = .ok (.bipush 59, 2) := by decide +kernel
theorem dX8_readLeaf_69 : decode cX8_readLeaf 69 = .ok (.invokevirtual 129, 3) := by decide +kernel
theorem dX8_readLeaf_72 : decode cX8_readLeaf 72 = .ok (.aload_n 0, 1) := by decide +kernel
theorem dX8_readLeaf_73 : decode cX8_readLeaf 73 = .ok (.getfield 81, 3) := by decide +kernel
theorem dX8_readLeaf_76 : decode cX8_readLeaf 76 = .ok (.ifCond .ne 75, 3) := by decide +kernel
theorem dX8_readLeaf_79 : decode cX8_readLeaf 79 = .ok (.bipush 6, 2) := by decide +kernel
theorem dX8_readLeaf_81 : decode cX8_readLeaf 81 = .ok (.iconst 5, 1) := by decide +kernel
theorem dX8_readLeaf_82 : decode cX8_readLeaf 82 = .ok (.aload_n 0, 1) := by decide +kernel
theorem dX8_readLeaf_83 : decode cX8_readLeaf 83 = .ok (.getfield 22, 3) := by decide +kernel
theorem dX8_readLeaf_86 : decode cX8_readLeaf 86 = .ok (.iconst 3, 1) := by decide +kernel
theorem dX8_readLeaf_87 : decode cX8_readLeaf 87 = .ok (.iaload, 1) := by decide +kernel
theorem dX8_readLeaf_88 : decode cX8_readLeaf 88 = .ok (.imul, 1) := by decide +kernel
theorem dX8_readLeaf_89 : decode cX8_readLeaf 89 = .ok (.iadd, 1) := by decide +kernel
theorem dX8_readLeaf_90 : decode cX8_readLeaf 90 = .ok (.istore 5, 2) := by decide +kernel
theorem dX8_readLeaf_92 : decode cX8_readLeaf 92 = .ok (.aload_n 0, 1) := by decide +kernel
theorem dX8_readLeaf_93 : decode cX8_readLeaf 93 = .ok (.getfield 22, 3) := by decide +kernel
theorem dX8_readLeaf_96 : decode cX8_readLeaf 96 = .ok (.iload 5, 2) := by decide +kernel
theorem dX8_readLeaf_98 : decode cX8_readLeaf 98 = .ok (.iload_n 1, 1) := by decide +kernel
theorem dX8_readLeaf_99 : decode cX8_readLeaf 99 = .ok (.iastore, 1) := by decide +kernel
theorem dX8_readLeaf_100 : decode cX8_readLeaf 100 = .ok (.aload_n 0, 1) := by decide +kernel
theorem dX8_readLeaf_101 : decode cX8_readLeaf 101 = .ok (.getfield 22, 3) := by decide +kernel
theorem dX8_readLeaf_104 : decode cX8_readLeaf 104 = .ok (.iload 5, 2) := by decide +kernel
theorem dX8_readLeaf_106 : decode cX8_readLeaf 106 = .ok (.iconst 1, 1) := by decide +kernel
theorem dX8_readLeaf_107 : decode cX8_readLeaf 107 = .ok (.iadd, 1) := by decide +kernel
theorem dX8_readLeaf_108 : decode cX8_readLeaf 108 = .ok (.iload_n 2, 1) := by decide +kernel
theorem dX8_readLeaf_109 : decode cX8_readLeaf 109 = .ok (.iastore, 1) := by decide +kernel
theorem dX8_readLeaf_110 : decode cX8_readLeaf 110 = .ok (.aload_n 0, 1) := by decide +kernel
theorem dX8_readLeaf_111 : decode cX8_readLeaf 111 = .ok (.getfield 22, 3) := by decide +kernel
theorem dX8_readLeaf_114 : decode cX8_readLeaf 114 = .ok (.iload 5, 2) := by decide +kernel
theorem dX8_readLeaf_116 : decode cX8_readLeaf 116 = .ok (.iconst 2, 1) := by decide +kernel
theorem dX8_readLeaf_117 : decode cX8_readLeaf 117 = .ok (.iadd, 1) := by decide +kernel
theorem dX8_readLeaf_118 : decode cX8_readLeaf 118 = .ok (.iload_n 3, 1) := by decide +kernel
theorem dX8_readLeaf_119 : decode cX8_readLeaf 119 = .ok (.iastore, 1) := by decide +kernel
theorem dX8_readLeaf_120 : decode cX8_readLeaf 120 = .ok (.aload_n 0, 1) := by decide +kernel
theorem dX8_readLeaf_121 : decode cX8_readLeaf 121 = .ok (.getfield 22, 3) := by decide +kernel
theorem dX8_readLeaf_124 : decode cX8_readLeaf 124 = .ok (.iload 5, 2) := by decide +kernel
theorem dX8_readLeaf_126 : decode cX8_readLeaf 126 = .ok (.iconst 3, 1) := by decide +kernel
theorem dX8_readLeaf_127 : decode cX8_readLeaf 127 = .ok (.iadd, 1) := by decide +kernel
theorem dX8_readLeaf_128 : decode cX8_readLeaf 128 = .ok (.iload 4, 2) := by decide +kernel
theorem dX8_readLeaf_130 : decode cX8_readLeaf 130 = .ok (.iastore, 1) := by decide +kernel
theorem dX8_readLeaf_131 : decode cX8_readLeaf 131 = .ok (.aload_n 0, 1) := by decide +kernel
theorem dX8_readLeaf_132 : decode cX8_readLeaf 132 = .ok (.getfield 22, 3) := by decide +kernel
theorem dX8_readLeaf_135 : decode cX8_readLeaf 135 = .ok (.iload 5, 2) := by decide +kernel
theorem dX8_readLeaf_137 : decode cX8_readLeaf 137 = .ok (.iconst 4, 1) := by decide +kernel
theorem dX8_readLeaf_138 : decode cX8_readLeaf 138 = .ok (.iadd, 1) := by decide +kernel
theorem dX8_readLeaf_139 : decode cX8_readLeaf 139 = .ok (.iload_n 2, 1) := by decide +kernel
theorem dX8_readLeaf_140 : decode cX8_readLeaf 140 = .ok (.iastore, 1) := by decide +kernel
theorem dX8_readLeaf_141 : decode cX8_readLeaf 141 = .ok (.aload_n 0, 1) := by decide +kernel
theorem dX8_readLeaf_142 : decode cX8_readLeaf 142 = .ok (.getfield 22, 3) := by decide +kernel
theorem dX8_readLeaf_145 : decode cX8_readLeaf 145 = .ok (.iconst 3, 1) := by decide +kernel
theorem dX8_readLeaf_146 : decode cX8_readLeaf 146 = .ok (.dup2, 1) := by decide +kernel
theorem dX8_readLeaf_147 : decode cX8_readLeaf 147 = .ok (.iaload, 1) := by decide +kernel
theorem dX8_readLeaf_148 : decode cX8_readLeaf 148 = .ok (.iconst 1, 1) := by decide +kernel
theorem dX8_readLeaf_149 : decode cX8_readLeaf 149 = .ok (.iadd, 1) := by decide +kernel
theorem dX8_readLeaf_150 : decode cX8_readLeaf 150 = .ok (.iastore, 1) := by decide +kernel
theorem dX8_readLeaf_151 : decode cX8_readLeaf 151 = .ok (.return_, 1) := by decide +kernel
theorem dX8_readGoat_0 : decode cX8_readGoat 0 = .ok (.aload_n 0, 1) := by decide +kernel
theorem dX8_readGoat_1 : decode cX8_readGoat 1 = .ok (.getfield 22, 3) := by decide +kernel
theorem dX8_readGoat_4 : decode cX8_readGoat 4 = .ok (.iconst 4, 1) := by decide +kernel
theorem dX8_readGoat_5 : decode cX8_readGoat 5 = .ok (.iaload, 1) := by decide +kernel
theorem dX8_readGoat_6 : decode cX8_readGoat 6 = .ok (.iconst 4, 1) := by decide +kernel
theorem dX8_readGoat_7 : decode cX8_readGoat 7 = .ok (.if_icmp .ne 8, 3) := by decide +kernel
theorem dX8_readGoat_10 : decode cX8_readGoat 10 = .ok (.aload_n 0, 1) := by decide +kernel
theorem dX8_readGoat_11 : decode cX8_readGoat 11 = .ok (.iconst 3, 1) := by decide +kernel
theorem dX8_readGoat_12 : decode cX8_readGoat 12 = .ok (.invokevirtual 108, 3) := by decide +kernel
theorem dX8_readGoat_15 : decode cX8_readGoat 15 = .ok (.aload_n 0, 1) := by decide +kernel
theorem dX8_readGoat_16 : decode cX8_readGoat 16 = .ok (.aload_n 0, 1) := by decide +kernel
theorem dX8_readGoat_17 : decode cX8_readGoat 17 = .ok (.bipush 103, 2) := by decide +kernel
theorem dX8_readGoat_19 : decode cX8_readGoat 19 = .ok (.invokevirtual 132, 3) := by decide +kernel
theorem dX8_readGoat_22 : decode cX8_readGoat 22 = .ok (.invokevirtual 115, 3) := by decide +kernel
theorem dX8_readGoat_25 : decode cX8_readGoat 25 = .ok (.aload_n 0, 1) := by decide +kernel
theorem dX8_readGoat_26 : decode cX8_readGoat 26 = .ok (.iconst 0, 1) := by decide +kernel
theorem dX8_readGoat_27 : decode cX8_readGoat 27 = .ok (.bipush 40, 2) := by decide +kernel
theorem dX8_readGoat_29 : decode cX8_readGoat 29 = .ok (.invokevirtual 125, 3) := by decide +kernel
theorem dX8_readGoat_32 : decode cX8_readGoat 32 = .ok (.istore_n 1, 1) := by decide +kernel
theorem dX8_readGoat_33 : decode cX8_readGoat 33 = .ok (.aload_n 0, 1) := by decide +kernel
theorem dX8_readGoat_34 : decode cX8_readGoat 34 = .ok (.bipush 44, 2) := by decide +kernel
theorem dX8_readGoat_36 : decode cX8_readGoat 36 = .ok (.invokevirtual 129, 3) := by decide +kernel
theorem dX8_readGoat_39 : decode cX8_readGoat 39 = .ok (.aload_n 0, 1) := by decide +kernel
theorem dX8_readGoat_40 : decode cX8_readGoat 40 = .ok (.iconst 0, 1) := by decide +kernel
theorem dX8_readGoat_41 : decode cX8_readGoat 41 = .ok (.bipush 9, 2) := by decide +kernel
theorem dX8_readGoat_43 : decode cX8_readGoat 43 = .ok (.invokevirtual 125, 3) := by decide +kernel
theorem dX8_readGoat_46 : decode cX8_readGoat 46 = .ok (.istore_n 2, 1) := by decide +kernel
theorem dX8_readGoat_47 : decode cX8_readGoat 47 = .ok (.aload_n 0, 1) := by decide +kernel
theorem dX8_readGoat_48 : decode cX8_readGoat 48 = .ok (.bipush 59, 2) := by decide +kernel
theorem dX8_readGoat_50 : decode cX8_readGoat 50 = .ok (.invokevirtual 129, 3) := by decide +kernel
theorem dX8_readGoat_53 : decode cX8_readGoat 53 = .ok (.aload_n 0, 1) := by decide +kernel
theorem dX8_readGoat_54 : decode cX8_readGoat 54 = .ok (.getfield 81, 3) := by decide +kernel
theorem dX8_readGoat_57 : decode cX8_readGoat 57 = .ok (.ifCond .ne 49, 3) := by decide +kernel
theorem dX8_readGoat_60 : decode cX8_readGoat 60 = .ok (.aload_n 0, 1) := by decide +kernel
theorem dX8_readGoat_61 : decode cX8_readGoat 61 = .ok (.getfield 22, 3) := by decide +kernel
theorem dX8_readGoat_64 : decode cX8_readGoat 64 = .ok (.bipush 41, 2) := by decide +kernel
theorem dX8_readGoat_66 : decode cX8_readGoat 66 = .ok (.iconst 3, 1) := by decide +kernel
theorem dX8_readGoat_67 : decode cX8_readGoat 67 = .ok (.aload_n 0, 1) := by decide +kernel
theorem dX8_readGoat_68 : decode cX8_readGoat 68 = .ok (.getfield 22, 3) := by decide +kernel
theorem dX8_readGoat_71 : decode cX8_readGoat 71 = .ok (.iconst 4, 1) := by decide +kernel
theorem dX8_readGoat_72 : decode cX8_readGoat 72 = .ok (.iaload, 1) := by decide +kernel
theorem dX8_readGoat_73 : decode cX8_readGoat 73 = .ok (.imul, 1) := by decide +kernel
theorem dX8_readGoat_74 : decode cX8_readGoat 74 = .ok (.iadd, 1) := by decide +kernel
theorem dX8_readGoat_75 : decode cX8_readGoat 75 = .ok (.iload_n 1, 1) := by decide +kernel
theorem dX8_readGoat_76 : decode cX8_readGoat 76 = .ok (.iastore, 1) := by decide +kernel
theorem dX8_readGoat_77 : decode cX8_readGoat 77 = .ok (.aload_n 0, 1) := by decide +kernel
theorem dX8_readGoat_78 : decode cX8_readGoat 78 = .ok (.getfield 22, 3) := by decide +kernel
theorem dX8_readGoat_81 : decode cX8_readGoat 81 = .ok (.bipush 41, 2) := by decide +kernel
theorem dX8_readGoat_83 : decode cX8_readGoat 83 = .ok (.iconst 3, 1) := by decide +kernel
theorem dX8_readGoat_84 : decode cX8_readGoat 84 = .ok (.aload_n 0, 1) := by decide +kernel
theorem dX8_readGoat_85 : decode cX8_readGoat 85 = .ok (.getfield 22, 3) := by decide +kernel
theorem dX8_readGoat_88 : decode cX8_readGoat 88 = .ok (.iconst 4, 1) := by decide +kernel
theorem dX8_readGoat_89 : decode cX8_readGoat 89 = .ok (.iaload, 1) := by decide +kernel
theorem dX8_readGoat_90 : decode cX8_readGoat 90 = .ok (.imul, 1) := by decide +kernel
theorem dX8_readGoat_91 : decode cX8_readGoat 91 = .ok (.iadd, 1) := by decide +kernel
theorem dX8_readGoat_92 : decode cX8_readGoat 92 = .ok (.iconst 1, 1) := by decide +kernel
theorem dX8_readGoat_93 : decode cX8_readGoat 93 = .ok (.iadd, 1) := by decide +kernel
theorem dX8_readGoat_94 : decode cX8_readGoat 94 = .ok (.iload_n 2, 1) := by decide +kernel
theorem dX8_readGoat_95 : decode cX8_readGoat 95 = .ok (.iastore, 1) := by decide +kernel
theorem dX8_readGoat_96 : decode cX8_readGoat 96 = .ok (.aload_n 0, 1) := by decide +kernel
theorem dX8_readGoat_97 : decode cX8_readGoat 97 = .ok (.getfield 22, 3) := by decide +kernel
theorem dX8_readGoat_100 : decode cX8_readGoat 100 = .ok (.iconst 4, 1) := by decide +kernel
theorem dX8_readGoat_101 : decode cX8_readGoat 101 = .ok (.dup2, 1) := by decide +kernel
theorem dX8_readGoat_102 : decode cX8_readGoat 102 = .ok (.iaload, 1) := by decide +kernel
theorem dX8_readGoat_103 : decode cX8_readGoat 103 = .ok (.iconst 1, 1) := by decide +kernel
theorem dX8_readGoat_104 : decode cX8_readGoat 104 = .ok (.iadd, 1) := by decide +kernel
theorem dX8_readGoat_105 : decode cX8_readGoat 105 = .ok (.iastore, 1) := by decide +kernel
theorem dX8_readGoat_106 : decode cX8_readGoat 106 = .ok (.return_, 1) := by decide +kernel
theorem dX8_square_0 : decode cX8_square 0 = .ok (.aload_n 0, 1) := by decide +kernel
theorem dX8_square_1 : decode cX8_square 1 = .ok (.iconst 0, 1) := by decide +kernel
theorem dX8_square_2 : decode cX8_square 2 = .ok (.putfield 50, 3) := by decide +kernel
theorem dX8_square_5 : decode cX8_square 5 = .ok (.aload_n 0, 1) := by decide +kernel
theorem dX8_square_6 : decode cX8_square 6 = .ok (.invokevirtual 135, 3) := by decide +kernel
theorem dX8_square_9 : decode cX8_square 9 = .ok (.iconst 0, 1) := by decide +kernel
theorem dX8_square_10 : decode cX8_square 10 = .ok (.istore_n 1, 1) := by decide +kernel
theorem dX8_square_11 : decode cX8_square 11 = .ok (.iload_n 1, 1) := by decide +kernel
theorem dX8_square_12 : decode cX8_square 12 = .ok (.bipush 53, 2) := by decide +kernel
theorem dX8_square_14 : decode cX8_square 14 = .ok (.if_icmp .ge 16, 3) := by decide +kernel
theorem dX8_square_17 : decode cX8_square 17 = .ok (.aload_n 0, 1) := by decide +kernel
theorem dX8_square_18 : decode cX8_square 18 = .ok (.getfield 22, 3) := by decide +kernel
theorem dX8_square_21 : decode cX8_square 21 = .ok (.iload_n 1, 1) := by decide +kernel
theorem dX8_square_22 : decode cX8_square 22 = .ok (.iconst 0, 1) := by decide +kernel
theorem dX8_square_23 : decode cX8_square 23 = .ok (.iastore, 1) := by decide +kernel
theorem dX8_square_24 : decode cX8_square 24 = .ok (.iinc 1 1, 3) := by decide +kernel
theorem dX8_square_27 : decode cX8_square 27 = .ok (.goto (-16), 3) := by decide +kernel
theorem dX8_square_30 : decode cX8_square 30 = .ok (.aload_n 0, 1) := by decide +kernel
theorem dX8_square_31 : decode cX8_square 31 = .ok (.getfield 22, 3) := by decide +kernel
theorem dX8_square_34 : decode cX8_square 34 = .ok (.iconst 0, 1) := by decide +kernel
theorem dX8_square_35 : decode cX8_square 35 = .ok (.iconst 1, 1) := by decide +kernel
theorem dX8_square_36 : decode cX8_square 36 = .ok (.iastore, 1) := by decide +kernel
theorem dX8_square_37 : decode cX8_square 37 = .ok (.aload_n 0, 1) := by decide +kernel
theorem dX8_square_38 : decode cX8_square 38 = .ok (.aload_n 0, 1) := by decide +kernel
theorem dX8_square_39 : decode cX8_square 39 = .ok (.bipush 118, 2) := by decide +kernel
theorem dX8_square_41 : decode cX8_square 41 = .ok (.invokevirtual 132, 3) := by decide +kernel
theorem dX8_square_44 : decode cX8_square 44 = .ok (.invokevirtual 115, 3) := by decide +kernel
theorem dX8_square_47 : decode cX8_square 47 = .ok (.aload_n 0, 1) := by decide +kernel
theorem dX8_square_48 : decode cX8_square 48 = .ok (.getfield 22, 3) := by decide +kernel
theorem dX8_square_51 : decode cX8_square 51 = .ok (.iconst 1, 1) := by decide +kernel
theorem dX8_square_52 : decode cX8_square 52 = .ok (.aload_n 0, 1) := by decide +kernel
theorem dX8_square_53 : decode cX8_square 53 = .ok (.iconst 0, 1) := by decide +kernel
theorem dX8_square_54 : decode cX8_square 54 = .ok (.bipush 9, 2) := by decide +kernel
theorem dX8_square_56 : decode cX8_square 56 = .ok (.invokevirtual 125, 3) := by decide +kernel
theorem dX8_square_59 : decode cX8_square 59 = .ok (.iastore, 1) := by decide +kernel
theorem dX8_square_60 : decode cX8_square 60 = .ok (.aload_n 0, 1) := by decide +kernel
theorem dX8_square_61 : decode cX8_square 61 = .ok (.bipush 44, 2) := by decide +kernel
theorem dX8_square_63 : decode cX8_square 63 = .ok (.invokevirtual 129, 3) := by decide +kernel
theorem dX8_square_66 : decode cX8_square 66 = .ok (.aload_n 0, 1) := by decide +kernel
theorem dX8_square_67 : decode cX8_square 67 = .ok (.getfield 22, 3) := by decide +kernel
theorem dX8_square_70 : decode cX8_square 70 = .ok (.iconst 2, 1) := by decide +kernel
theorem dX8_square_71 : decode cX8_square 71 = .ok (.aload_n 0, 1) := by decide +kernel
theorem dX8_square_72 : decode cX8_square 72 = .ok (.iconst 1, 1) := by decide +kernel
theorem dX8_square_73 : decode cX8_square 73 = .ok (.bipush 9, 2) := by decide +kernel
theorem dX8_square_75 : decode cX8_square 75 = .ok (.invokevirtual 125, 3) := by decide +kernel
theorem dX8_square_78 : decode cX8_square 78 = .ok (.iastore, 1) := by decide +kernel
theorem dX8_square_79 : decode cX8_square 79 = .ok (.aload_n 0, 1) := by decide +kernel
theorem dX8_square_80 : decode cX8_square 80 = .ok (.bipush 59, 2) := by decide +kernel
theorem dX8_square_82 : decode cX8_square 82 = .ok (.invokevirtual 129, 3) := by decide +kernel
theorem dX8_square_85 : decode cX8_square 85 = .ok (.aload_n 0, 1) := by decide +kernel
theorem dX8_square_86 : decode cX8_square 86 = .ok (.invokevirtual 138, 3) := by decide +kernel
theorem dX8_square_89 : decode cX8_square 89 = .ok (.ifCond .ne 8, 3) := by decide +kernel
theorem dX8_square_92 : decode cX8_square 92 = .ok (.aload_n 0, 1) := by decide +kernel
theorem dX8_square_93 : decode cX8_square 93 = .ok (.iconst 1, 1) := by decide +kernel
theorem dX8_square_94 : decode cX8_square 94 = .ok (.invokevirtual 108, 3) := by decide +kernel
theorem dX8_square_97 : decode cX8_square 97 = .ok (.aload_n 0, 1) := by decide +kernel
theorem dX8_square_98 : decode cX8_square 98 = .ok (.invokevirtual 138, 3) := by decide +kernel
theorem dX8_square_101 : decode cX8_square 101 = .ok (.ifCond .eq 10, 3) := by decide +kernel
theorem dX8_square_104 : decode cX8_square 104 = .ok (.aload_n 0, 1) := by decide +kernel
theorem dX8_square_105 : decode cX8_square 105 = .ok (.invokevirtual 142, 3) := by decide +kernel
theorem dX8_square_108 : decode cX8_square 108 = .ok (.goto (-11), 3) := by decide +kernel
theorem dX8_square_111 : decode cX8_square 111 = .ok (.aload_n 0, 1) := by decide +kernel
theorem dX8_square_112 : decode cX8_square 112 = .ok (.bipush 103, 2) := by decide +kernel
theorem dX8_square_114 : decode cX8_square 114 = .ok (.invokevirtual 132, 3) := by decide +kernel
theorem dX8_square_117 : decode cX8_square 117 = .ok (.ifCond .ne 8, 3) := by decide +kernel
theorem dX8_square_120 : decode cX8_square 120 = .ok (.aload_n 0, 1) := by decide +kernel
theorem dX8_square_121 : decode cX8_square 121 = .ok (.iconst 1, 1) := by decide +kernel
theorem dX8_square_122 : decode cX8_square 122 = .ok (.invokevirtual 108, 3) := by decide +kernel
theorem dX8_square_125 : decode cX8_square 125 = .ok (.aload_n 0, 1) := by decide +kernel
theorem dX8_square_126 : decode cX8_square 126 = .ok (.bipush 103, 2) := by decide +kernel
theorem dX8_square_128 : decode cX8_square 128 = .ok (.invokevirtual 132, 3) := by decide +kernel
theorem dX8_square_131 : decode cX8_square 131 = .ok (.ifCond .eq 10, 3) := by decide +kernel
theorem dX8_square_134 : decode cX8_square 134 = .ok (.aload_n 0, 1) := by decide +kernel
theorem dX8_square_135 : decode cX8_square 135 = .ok (.invokevirtual 145, 3) := by decide +kernel
theorem dX8_square_138 : decode cX8_square 138 = .ok (.goto (-13), 3) := by decide +kernel
theorem dX8_square_141 : decode cX8_square 141 = .ok (.aload_n 0, 1) := by decide +kernel
theorem dX8_square_142 : decode cX8_square 142 = .ok (.invokevirtual 148, 3) := by decide +kernel
theorem dX8_square_145 : decode cX8_square 145 = .ok (.ifCond .eq 11, 3) := by decide +kernel
theorem dX8_square_148 : decode cX8_square 148 = .ok (.ldc 151, 2) := by decide +kernel
theorem dX8_square_150 : decode cX8_square 150 = .ok (.aload_n 0, 1) := by decide +kernel
theorem dX8_square_151 : decode cX8_square 151 = .ok (.getfield 87, 3) := by decide +kernel
theorem dX8_square_154 : decode cX8_square 154 = .ok (.isub, 1) := by decide +kernel
theorem dX8_square_155 : decode cX8_square 155 = .ok (.ireturn, 1) := by decide +kernel
theorem dX8_square_156 : decode cX8_square 156 = .ok (.aload_n 0, 1) := by decide +kernel
theorem dX8_square_157 : decode cX8_square 157 = .ok (.iconst 0, 1) := by decide +kernel
theorem dX8_square_158 : decode cX8_square 158 = .ok (.putfield 152, 3) := by decide +kernel
theorem dX8_square_161 : decode cX8_square 161 = .ok (.iconst 0, 1) := by decide +kernel
theorem dX8_square_162 : decode cX8_square 162 = .ok (.istore_n 1, 1) := by decide +kernel
theorem dX8_square_163 : decode cX8_square 163 = .ok (.iload_n 1, 1) := by decide +kernel
theorem dX8_square_164 : decode cX8_square 164 = .ok (.bipush 53, 2) := by decide +kernel
theorem dX8_square_166 : decode cX8_square 166 = .ok (.if_icmp .ge 21, 3) := by decide +kernel
theorem dX8_square_169 : decode cX8_square 169 = .ok (.aload_n 0, 1) := by decide +kernel
theorem dX8_square_170 : decode cX8_square 170 = .ok (.getfield 19, 3) := by decide +kernel
theorem dX8_square_173 : decode cX8_square 173 = .ok (.iload_n 1, 1) := by decide +kernel
theorem dX8_square_174 : decode cX8_square 174 = .ok (.aload_n 0, 1) := by decide +kernel
theorem dX8_square_175 : decode cX8_square 175 = .ok (.getfield 22, 3) := by decide +kernel
theorem dX8_square_178 : decode cX8_square 178 = .ok (.iload_n 1, 1) := by decide +kernel
theorem dX8_square_179 : decode cX8_square 179 = .ok (.iaload, 1) := by decide +kernel
theorem dX8_square_180 : decode cX8_square 180 = .ok (.iastore, 1) := by decide +kernel
theorem dX8_square_181 : decode cX8_square 181 = .ok (.iinc 1 1, 3) := by decide +kernel
theorem dX8_square_184 : decode cX8_square 184 = .ok (.goto (-21), 3) := by decide +kernel
theorem dX8_square_187 : decode cX8_square 187 = .ok (.aload_n 0, 1) := by decide +kernel
theorem dX8_square_188 : decode cX8_square 188 = .ok (.getfield 19, 3) := by decide +kernel
theorem dX8_square_191 : decode cX8_square 191 = .ok (.iconst 3, 1) := by decide +kernel
theorem dX8_square_192 : decode cX8_square 192 = .ok (.iaload, 1) := by decide +kernel
theorem dX8_square_193 : decode cX8_square 193 = .ok (.ireturn, 1) := by decide +kernel
theorem dX8_isThere_0 : decode cX8_isThere 0 = .ok (.aload_n 0, 1) := by decide +kernel
theorem dX8_isThere_1 : decode cX8_isThere 1 = .ok (.getfield 19, 3) := by decide +kernel
theorem dX8_isThere_4 : decode cX8_isThere 4 = .ok (.iconst 0, 1) := by decide +kernel
theorem dX8_isThere_5 : decode cX8_isThere 5 = .ok (.iaload, 1) := by decide +kernel
theorem dX8_isThere_6 : decode cX8_isThere 6 = .ok (.iconst 1, 1) := by decide +kernel
theorem dX8_isThere_7 : decode cX8_isThere 7 = .ok (.if_icmp .ne 7, 3) := by decide +kernel
theorem dX8_isThere_10 : decode cX8_isThere 10 = .ok (.iconst 1, 1) := by decide +kernel
theorem dX8_isThere_11 : decode cX8_isThere 11 = .ok (.goto 4, 3) := by decide +kernel
theorem dX8_isThere_14 : decode cX8_isThere 14 = .ok (.iconst 0, 1) := by decide +kernel
theorem dX8_isThere_15 : decode cX8_isThere 15 = .ok (.ireturn, 1) := by decide +kernel
theorem dX8_isLeaf_0 : decode cX8_isLeaf 0 = .ok (.iload_n 1, 1) := by decide +kernel
theorem dX8_isLeaf_1 : decode cX8_isLeaf 1 = .ok (.i2l, 1) := by decide +kernel
theorem dX8_isLeaf_2 : decode cX8_isLeaf 2 = .ok (.lconst 0, 1) := by decide +kernel
theorem dX8_isLeaf_3 : decode cX8_isLeaf 3 = .ok (.aload_n 0, 1) := by decide +kernel
theorem dX8_isLeaf_4 : decode cX8_isLeaf 4 = .ok (.getfield 19, 3) := by decide +kernel
theorem dX8_isLeaf_7 : decode cX8_isLeaf 7 = .ok (.iconst 3, 1) := by decide +kernel
theorem dX8_isLeaf_8 : decode cX8_isLeaf 8 = .ok (.iaload, 1) := by decide +kernel
theorem dX8_isLeaf_9 : decode cX8_isLeaf 9 = .ok (.iconst 1, 1) := by decide +kernel
theorem dX8_isLeaf_10 : decode cX8_isLeaf 10 = .ok (.isub, 1) := by decide +kernel
theorem dX8_isLeaf_11 : decode cX8_isLeaf 11 = .ok (.i2l, 1) := by decide +kernel
theorem dX8_isLeaf_12 : decode cX8_isLeaf 12 = .ok (.invokestatic 60, 3) := by decide +kernel
theorem dX8_isLeaf_15 : decode cX8_isLeaf 15 = .ok (.ireturn, 1) := by decide +kernel
theorem dX8_isGoat_0 : decode cX8_isGoat 0 = .ok (.iload_n 1, 1) := by decide +kernel
theorem dX8_isGoat_1 : decode cX8_isGoat 1 = .ok (.i2l, 1) := by decide +kernel
theorem dX8_isGoat_2 : decode cX8_isGoat 2 = .ok (.lconst 0, 1) := by decide +kernel
theorem dX8_isGoat_3 : decode cX8_isGoat 3 = .ok (.aload_n 0, 1) := by decide +kernel
theorem dX8_isGoat_4 : decode cX8_isGoat 4 = .ok (.getfield 19, 3) := by decide +kernel
theorem dX8_isGoat_7 : decode cX8_isGoat 7 = .ok (.iconst 4, 1) := by decide +kernel
theorem dX8_isGoat_8 : decode cX8_isGoat 8 = .ok (.iaload, 1) := by decide +kernel
theorem dX8_isGoat_9 : decode cX8_isGoat 9 = .ok (.iconst 1, 1) := by decide +kernel
theorem dX8_isGoat_10 : decode cX8_isGoat 10 = .ok (.isub, 1) := by decide +kernel
theorem dX8_isGoat_11 : decode cX8_isGoat 11 = .ok (.i2l, 1) := by decide +kernel
theorem dX8_isGoat_12 : decode cX8_isGoat 12 = .ok (.invokestatic 60, 3) := by decide +kernel
theorem dX8_isGoat_15 : decode cX8_isGoat 15 = .ok (.ireturn, 1) := by decide +kernel
theorem dX8_areLeaves_0 : decode cX8_areLeaves 0 = .ok (.iload_n 1, 1) := by decide +kernel
theorem dX8_areLeaves_1 : decode cX8_areLeaves 1 = .ok (.i2l, 1) := by decide +kernel
theorem dX8_areLeaves_2 : decode cX8_areLeaves 2 = .ok (.lconst 0, 1) := by decide +kernel
theorem dX8_areLeaves_3 : decode cX8_areLeaves 3 = .ok (.iconst 1, 1) := by decide +kernel
theorem dX8_areLeaves_4 : decode cX8_areLeaves 4 = .ok (.aload_n 0, 1) := by decide +kernel
theorem dX8_areLeaves_5 : decode cX8_areLeaves 5 = .ok (.getfield 19, 3) := by decide +kernel
theorem dX8_areLeaves_8 : decode cX8_areLeaves 8 = .ok (.iconst 3, 1) := by decide +kernel
theorem dX8_areLeaves_9 : decode cX8_areLeaves 9 = .ok (.iaload, 1) := by decide +kernel
theorem dX8_areLeaves_10 : decode cX8_areLeaves 10 = .ok (.ishl, 1) := by decide +kernel
theorem dX8_areLeaves_11 : decode cX8_areLeaves 11 = .ok (.iconst 1, 1) := by decide +kernel
theorem dX8_areLeaves_12 : decode cX8_areLeaves 12 = .ok (.isub, 1) := by decide +kernel
theorem dX8_areLeaves_13 : decode cX8_areLeaves 13 = .ok (.i2l, 1) := by decide +kernel
theorem dX8_areLeaves_14 : decode cX8_areLeaves 14 = .ok (.invokestatic 60, 3) := by decide +kernel
theorem dX8_areLeaves_17 : decode cX8_areLeaves 17 = .ok (.ireturn, 1) := by decide +kernel
theorem dX8_bits_0 : decode cX8_bits 0 = .ok (.iconst 0, 1) := by decide +kernel
theorem dX8_bits_1 : decode cX8_bits 1 = .ok (.istore_n 1, 1) := by decide +kernel
theorem dX8_bits_2 : decode cX8_bits 2 = .ok (.iconst 0, 1) := by decide +kernel
theorem dX8_bits_3 : decode cX8_bits 3 = .ok (.istore_n 2, 1) := by decide +kernel
theorem dX8_bits_4 : decode cX8_bits 4 = .ok (.iload_n 2, 1) := by decide +kernel
theorem dX8_bits_5 : decode cX8_bits 5 = .ok (.bipush 7, 2) := by decide +kernel
theorem dX8_bits_7 : decode cX8_bits 7 = .ok (.if_icmp .ge 17, 3) := by decide +kernel
theorem dX8_bits_10 : decode cX8_bits 10 = .ok (.iload_n 1, 1) := by decide +kernel
theorem dX8_bits_11 : decode cX8_bits 11 = .ok (.iload_n 0, 1) := by decide +kernel
theorem dX8_bits_12 : decode cX8_bits 12 = .ok (.iload_n 2, 1) := by decide +kernel
theorem dX8_bits_13 : decode cX8_bits 13 = .ok (.ishr, 1) := by decide +kernel
theorem dX8_bits_14 : decode cX8_bits 14 = .ok (.iconst 1, 1) := by decide +kernel
theorem dX8_bits_15 : decode cX8_bits 15 = .ok (.iand, 1) := by decide +kernel
theorem dX8_bits_16 : decode cX8_bits 16 = .ok (.iadd, 1) := by decide +kernel
theorem dX8_bits_17 : decode cX8_bits 17 = .ok (.istore_n 1, 1) := by decide +kernel
theorem dX8_bits_18 : decode cX8_bits 18 = .ok (.iinc 2 1, 3) := by decide +kernel
theorem dX8_bits_21 : decode cX8_bits 21 = .ok (.goto (-17), 3) := by decide +kernel
theorem dX8_bits_24 : decode cX8_bits 24 = .ok (.iload_n 1, 1) := by decide +kernel
theorem dX8_bits_25 : decode cX8_bits 25 = .ok (.ireturn, 1) := by decide +kernel
theorem dX8_has_0 : decode cX8_has 0 = .ok (.iload_n 0, 1) := by decide +kernel
theorem dX8_has_1 : decode cX8_has 1 = .ok (.iload_n 1, 1) := by decide +kernel
theorem dX8_has_2 : decode cX8_has 2 = .ok (.ishr, 1) := by decide +kernel
theorem dX8_has_3 : decode cX8_has 3 = .ok (.iconst 1, 1) := by decide +kernel
theorem dX8_has_4 : decode cX8_has 4 = .ok (.iand, 1) := by decide +kernel
theorem dX8_has_5 : decode cX8_has 5 = .ok (.iconst 1, 1) := by decide +kernel
theorem dX8_has_6 : decode cX8_has 6 = .ok (.if_icmp .ne 7, 3) := by decide +kernel
theorem dX8_has_9 : decode cX8_has 9 = .ok (.iconst 1, 1) := by decide +kernel
theorem dX8_has_10 : decode cX8_has 10 = .ok (.goto 4, 3) := by decide +kernel
theorem dX8_has_13 : decode cX8_has 13 = .ok (.iconst 0, 1) := by decide +kernel
theorem dX8_has_14 : decode cX8_has 14 = .ok (.ireturn, 1) := by decide +kernel
theorem dX8_of_0 : decode cX8_of 0 = .ok (.aload_n 0, 1) := by decide +kernel
theorem dX8_of_1 : decode cX8_of 1 = .ok (.bipush 6, 2) := by decide +kernel
theorem dX8_of_3 : decode cX8_of 3 = .ok (.iconst 5, 1) := by decide +kernel
theorem dX8_of_4 : decode cX8_of 4 = .ok (.iload_n 1, 1) := by decide +kernel
theorem dX8_of_5 : decode cX8_of 5 = .ok (.imul, 1) := by decide +kernel
theorem dX8_of_6 : decode cX8_of 6 = .ok (.iadd, 1) := by decide +kernel
theorem dX8_of_7 : decode cX8_of 7 = .ok (.iload_n 2, 1) := by decide +kernel
theorem dX8_of_8 : decode cX8_of 8 = .ok (.iadd, 1) := by decide +kernel
theorem dX8_of_9 : decode cX8_of 9 = .ok (.iaload, 1) := by decide +kernel
theorem dX8_of_10 : decode cX8_of 10 = .ok (.ireturn, 1) := by decide +kernel
theorem dX8_its_0 : decode cX8_its 0 = .ok (.aload_n 0, 1) := by decide +kernel
theorem dX8_its_1 : decode cX8_its 1 = .ok (.bipush 41, 2) := by decide +kernel
theorem dX8_its_3 : decode cX8_its 3 = .ok (.iconst 3, 1) := by decide +kernel
theorem dX8_its_4 : decode cX8_its 4 = .ok (.iload_n 1, 1) := by decide +kernel
theorem dX8_its_5 : decode cX8_its 5 = .ok (.imul, 1) := by decide +kernel
theorem dX8_its_6 : decode cX8_its 6 = .ok (.iadd, 1) := by decide +kernel
theorem dX8_its_7 : decode cX8_its 7 = .ok (.iload_n 2, 1) := by decide +kernel
theorem dX8_its_8 : decode cX8_its 8 = .ok (.iadd, 1) := by decide +kernel
theorem dX8_its_9 : decode cX8_its 9 = .ok (.iaload, 1) := by decide +kernel
theorem dX8_its_10 : decode cX8_its 10 = .ok (.ireturn, 1) := by decide +kernel
theorem dX8_liked_0 : decode cX8_liked 0 = .ok (.aload_n 0, 1) := by decide +kernel
theorem dX8_liked_1 : decode cX8_liked 1 = .ok (.iload_n 1, 1) := by decide +kernel
theorem dX8_liked_2 : decode cX8_liked 2 = .ok (.iconst 0, 1) := by decide +kernel
theorem dX8_liked_3 : decode cX8_liked 3 = .ok (.invokestatic 155, 3) := by decide +kernel
theorem dX8_liked_6 : decode cX8_liked 6 = .ok (.istore_n 2, 1) := by decide +kernel
theorem dX8_liked_7 : decode cX8_liked 7 = .ok (.aload_n 0, 1) := by decide +kernel
theorem dX8_liked_8 : decode cX8_liked 8 = .ok (.iload_n 1, 1) := by decide +kernel
theorem dX8_liked_9 : decode cX8_liked 9 = .ok (.iconst 3, 1) := by decide +kernel
theorem dX8_liked_10 : decode cX8_liked 10 = .ok (.invokestatic 155, 3) := by decide +kernel
theorem dX8_liked_13 : decode cX8_liked 13 = .ok (.iload_n 2, 1) := by decide +kernel
theorem dX8_liked_14 : decode cX8_liked 14 = .ok (.iconst 2, 1) := by decide +kernel
theorem dX8_liked_15 : decode cX8_liked 15 = .ok (.if_icmp .ne 9, 3) := by decide +kernel
theorem dX8_liked_18 : decode cX8_liked 18 = .ok (.aload_n 0, 1) := by decide +kernel
theorem dX8_liked_19 : decode cX8_liked 19 = .ok (.iconst 2, 1) := by decide +kernel
theorem dX8_liked_20 : decode cX8_liked 20 = .ok (.iaload, 1) := by decide +kernel
theorem dX8_liked_21 : decode cX8_liked 21 = .ok (.goto 14, 3) := by decide +kernel
theorem dX8_liked_24 : decode cX8_liked 24 = .ok (.iload_n 2, 1) := by decide +kernel
theorem dX8_liked_25 : decode cX8_liked 25 = .ok (.iconst 4, 1) := by decide +kernel
theorem dX8_liked_26 : decode cX8_liked 26 = .ok (.if_icmp .lt 8, 3) := by decide +kernel
theorem dX8_liked_29 : decode cX8_liked 29 = .ok (.bipush (-3), 2) := by decide +kernel
theorem dX8_liked_31 : decode cX8_liked 31 = .ok (.goto 4, 3) := by decide +kernel
theorem dX8_liked_34 : decode cX8_liked 34 = .ok (.iconst 0, 1) := by decide +kernel
theorem dX8_liked_35 : decode cX8_liked 35 = .ok (.iadd, 1) := by decide +kernel
theorem dX8_liked_36 : decode cX8_liked 36 = .ok (.istore_n 3, 1) := by decide +kernel
theorem dX8_liked_37 : decode cX8_liked 37 = .ok (.iload_n 3, 1) := by decide +kernel
theorem dX8_liked_38 : decode cX8_liked 38 = .ok (.ifCond .lt 26, 3) := by decide +kernel
theorem dX8_liked_41 : decode cX8_liked 41 = .ok (.aload_n 0, 1) := by decide +kernel
theorem dX8_liked_42 : decode cX8_liked 42 = .ok (.iload_n 1, 1) := by decide +kernel
theorem dX8_liked_43 : decode cX8_liked 43 = .ok (.iconst 4, 1) := by decide +kernel
theorem dX8_liked_44 : decode cX8_liked 44 = .ok (.invokestatic 155, 3) := by decide +kernel
theorem dX8_liked_47 : decode cX8_liked 47 = .ok (.ifCond .eq 17, 3) := by decide +kernel
theorem dX8_liked_50 : decode cX8_liked 50 = .ok (.iload_n 2, 1) := by decide +kernel
theorem dX8_liked_51 : decode cX8_liked 51 = .ok (.iconst 5, 1) := by decide +kernel
theorem dX8_liked_52 : decode cX8_liked 52 = .ok (.if_icmp .ne 16, 3) := by decide +kernel
theorem dX8_liked_55 : decode cX8_liked 55 = .ok (.aload_n 0, 1) := by decide +kernel
theorem dX8_liked_56 : decode cX8_liked 56 = .ok (.iconst 5, 1) := by decide +kernel
theorem dX8_liked_57 : decode cX8_liked 57 = .ok (.iaload, 1) := by decide +kernel
theorem dX8_liked_58 : decode cX8_liked 58 = .ok (.iconst 2, 1) := by decide +kernel
theorem dX8_liked_59 : decode cX8_liked 59 = .ok (.irem, 1) := by decide +kernel
theorem dX8_liked_60 : decode cX8_liked 60 = .ok (.iconst 1, 1) := by decide +kernel
theorem dX8_liked_61 : decode cX8_liked 61 = .ok (.if_icmp .ne 7, 3) := by decide +kernel
theorem dX8_liked_64 : decode cX8_liked 64 = .ok (.iconst 1, 1) := by decide +kernel
theorem dX8_liked_65 : decode cX8_liked 65 = .ok (.goto 4, 3) := by decide +kernel
theorem dX8_liked_68 : decode cX8_liked 68 = .ok (.iconst 0, 1) := by decide +kernel
theorem dX8_liked_69 : decode cX8_liked 69 = .ok (.istore 4, 2) := by decide +kernel
theorem dX8_liked_71 : decode cX8_liked 71 = .ok (.iload 4, 2) := by decide +kernel
theorem dX8_liked_73 : decode cX8_liked 73 = .ok (.ifCond .eq 8, 3) := by decide +kernel
theorem dX8_liked_76 : decode cX8_liked 76 = .ok (.ldc 93, 2) := by decide +kernel
theorem dX8_liked_78 : decode cX8_liked 78 = .ok (.goto 4, 3) := by decide +kernel
theorem dX8_liked_81 : decode cX8_liked 81 = .ok (.iload_n 3, 1) := by decide +kernel
theorem dX8_liked_82 : decode cX8_liked 82 = .ok (.ireturn, 1) := by decide +kernel
theorem dX8_bitten_0 : decode cX8_bitten 0 = .ok (.aload_n 0, 1) := by decide +kernel
theorem dX8_bitten_1 : decode cX8_bitten 1 = .ok (.iload_n 1, 1) := by decide +kernel
theorem dX8_bitten_2 : decode cX8_bitten 2 = .ok (.iconst 0, 1) := by decide +kernel
theorem dX8_bitten_3 : decode cX8_bitten 3 = .ok (.invokestatic 159, 3) := by decide +kernel
theorem dX8_bitten_6 : decode cX8_bitten 6 = .ok (.ifCond .eq 12, 3) := by decide +kernel
theorem dX8_bitten_9 : decode cX8_bitten 9 = .ok (.aload_n 0, 1) := by decide +kernel
theorem dX8_bitten_10 : decode cX8_bitten 10 = .ok (.iload_n 1, 1) := by decide +kernel
theorem dX8_bitten_11 : decode cX8_bitten 11 = .ok (.iconst 2, 1) := by decide +kernel
theorem dX8_bitten_12 : decode cX8_bitten 12 = .ok (.invokestatic 159, 3) := by decide +kernel
theorem dX8_bitten_15 : decode cX8_bitten 15 = .ok (.ifCond .le 6, 3) := by decide +kernel
theorem dX8_bitten_18 : decode cX8_bitten 18 = .ok (.ldc 93, 2) := by decide +kernel
theorem dX8_bitten_20 : decode cX8_bitten 20 = .ok (.ireturn, 1) := by decide +kernel
theorem dX8_bitten_21 : decode cX8_bitten 21 = .ok (.ldc 93, 2) := by decide +kernel
theorem dX8_bitten_23 : decode cX8_bitten 23 = .ok (.istore_n 2, 1) := by decide +kernel
theorem dX8_bitten_24 : decode cX8_bitten 24 = .ok (.ldc 93, 2) := by decide +kernel
theorem dX8_bitten_26 : decode cX8_bitten 26 = .ok (.istore_n 3, 1) := by decide +kernel
theorem dX8_bitten_27 : decode cX8_bitten 27 = .ok (.iconst 0, 1) := by decide +kernel
theorem dX8_bitten_28 : decode cX8_bitten 28 = .ok (.istore 4, 2) := by decide +kernel
theorem dX8_bitten_30 : decode cX8_bitten 30 = .ok (.iload 4, 2) := by decide +kernel
theorem dX8_bitten_32 : decode cX8_bitten 32 = .ok (.aload_n 0, 1) := by decide +kernel
theorem dX8_bitten_33 : decode cX8_bitten 33 = .ok (.iconst 3, 1) := by decide +kernel
theorem dX8_bitten_34 : decode cX8_bitten 34 = .ok (.iaload, 1) := by decide +kernel
theorem dX8_bitten_35 : decode cX8_bitten 35 = .ok (.if_icmp .ge 64, 3) := by decide +kernel
theorem dX8_bitten_38 : decode cX8_bitten 38 = .ok (.aload_n 0, 1) := by decide +kernel
theorem dX8_bitten_39 : decode cX8_bitten 39 = .ok (.iload 4, 2) := by decide +kernel
theorem dX8_bitten_41 : decode cX8_bitten 41 = .ok (.iconst 2, 1) := by decide +kernel
theorem dX8_bitten_42 : decode cX8_bitten 42 = .ok (.invokestatic 155, 3) := by decide +kernel
theorem dX8_bitten_45 : decode cX8_bitten 45 = .ok (.aload_n 0, 1) := by decide +kernel
theorem dX8_bitten_46 : decode cX8_bitten 46 = .ok (.iload_n 1, 1) := by decide +kernel
theorem dX8_bitten_47 : decode cX8_bitten 47 = .ok (.iconst 1, 1) := by decide +kernel
theorem dX8_bitten_48 : decode cX8_bitten 48 = .ok (.invokestatic 159, 3) := by decide +kernel
theorem dX8_bitten_51 : decode cX8_bitten 51 = .ok (.if_icmp .le 8, 3) := by decide +kernel
theorem dX8_bitten_54 : decode cX8_bitten 54 = .ok (.ldc 93, 2) := by decide +kernel
theorem dX8_bitten_56 : decode cX8_bitten 56 = .ok (.goto 9, 3) := by decide +kernel
theorem dX8_bitten_59 : decode cX8_bitten 59 = .ok (.aload_n 0, 1) := by decide +kernel
theorem dX8_bitten_60 : decode cX8_bitten 60 = .ok (.iload 4, 2) := by decide +kernel
theorem dX8_bitten_62 : decode cX8_bitten 62 = .ok (.invokestatic 162, 3) := by decide +kernel
theorem dX8_bitten_65 : decode cX8_bitten 65 = .ok (.istore 5, 2) := by decide +kernel
theorem dX8_bitten_67 : decode cX8_bitten 67 = .ok (.iload 5, 2) := by decide +kernel
theorem dX8_bitten_69 : decode cX8_bitten 69 = .ok (.iload_n 3, 1) := by decide +kernel
theorem dX8_bitten_70 : decode cX8_bitten 70 = .ok (.if_icmp .le 8, 3) := by decide +kernel
theorem dX8_bitten_73 : decode cX8_bitten 73 = .ok (.iload 4, 2) := by decide +kernel
theorem dX8_bitten_75 : decode cX8_bitten 75 = .ok (.goto 4, 3) := by decide +kernel
theorem dX8_bitten_78 : decode cX8_bitten 78 = .ok (.iload_n 2, 1) := by decide +kernel
theorem dX8_bitten_79 : decode cX8_bitten 79 = .ok (.istore_n 2, 1) := by decide +kernel
theorem dX8_bitten_80 : decode cX8_bitten 80 = .ok (.iload 5, 2) := by decide +kernel
theorem dX8_bitten_82 : decode cX8_bitten 82 = .ok (.iload_n 3, 1) := by decide +kernel
theorem dX8_bitten_83 : decode cX8_bitten 83 = .ok (.if_icmp .le 8, 3) := by decide +kernel
theorem dX8_bitten_86 : decode cX8_bitten 86 = .ok (.iload 5, 2) := by decide +kernel
theorem dX8_bitten_88 : decode cX8_bitten 88 = .ok (.goto 4, 3) := by decide +kernel
theorem dX8_bitten_91 : decode cX8_bitten 91 = .ok (.iload_n 3, 1) := by decide +kernel
theorem dX8_bitten_92 : decode cX8_bitten 92 = .ok (.istore_n 3, 1) := by decide +kernel
theorem dX8_bitten_93 : decode cX8_bitten 93 = .ok (.iinc 4 1, 3) := by decide +kernel
theorem dX8_bitten_96 : decode cX8_bitten 96 = .ok (.goto (-66), 3) := by decide +kernel
theorem dX8_bitten_99 : decode cX8_bitten 99 = .ok (.iload_n 2, 1) := by decide +kernel
theorem dX8_bitten_100 : decode cX8_bitten 100 = .ok (.ireturn, 1) := by decide +kernel
theorem dX8_hour_0 : decode cX8_hour 0 = .ok (.iconst 0, 1) := by decide +kernel
theorem dX8_hour_1 : decode cX8_hour 1 = .ok (.istore_n 2, 1) := by decide +kernel
theorem dX8_hour_2 : decode cX8_hour 2 = .ok (.iconst 0, 1) := by decide +kernel
theorem dX8_hour_3 : decode cX8_hour 3 = .ok (.istore_n 3, 1) := by decide +kernel
theorem dX8_hour_4 : decode cX8_hour 4 = .ok (.iload_n 3, 1) := by decide +kernel
theorem dX8_hour_5 : decode cX8_hour 5 = .ok (.aload_n 1, 1) := by decide +kernel
theorem dX8_hour_6 : decode cX8_hour 6 = .ok (.iconst 4, 1) := by decide +kernel
theorem dX8_hour_7 : decode cX8_hour 7 = .ok (.iaload, 1) := by decide +kernel
theorem dX8_hour_8 : decode cX8_hour 8 = .ok (.if_icmp .ge 154, 3) := by decide +kernel
theorem dX8_hour_11 : decode cX8_hour 11 = .ok (.aload_n 1, 1) := by decide +kernel
theorem dX8_hour_12 : decode cX8_hour 12 = .ok (.iload_n 3, 1) := by decide +kernel
theorem dX8_hour_13 : decode cX8_hour 13 = .ok (.invokestatic 166, 3) := by decide +kernel
theorem dX8_hour_16 : decode cX8_hour 16 = .ok (.istore 4, 2) := by decide +kernel
theorem dX8_hour_18 : decode cX8_hour 18 = .ok (.aload_n 0, 1) := by decide +kernel
theorem dX8_hour_19 : decode cX8_hour 19 = .ok (.getfield 34, 3) := by decide +kernel
theorem dX8_hour_22 : decode cX8_hour 22 = .ok (.iload_n 3, 1) := by decide +kernel
theorem dX8_hour_23 : decode cX8_hour 23 = .ok (.iload 4, 2) := by decide +kernel
theorem dX8_hour_25 : decode cX8_hour 25 = .ok (.iastore, 1) := by decide +kernel
theorem dX8_hour_26 : decode cX8_hour 26 = .ok (.aload_n 0, 1) := by decide +kernel
theorem dX8_hour_27 : decode cX8_hour 27 = .ok (.getfield 37, 3) := by decide +kernel
theorem dX8_hour_30 : decode cX8_hour 30 = .ok (.iload_n 3, 1) := by decide +kernel
theorem dX8_hour_31 : decode cX8_hour 31 = .ok (.iconst 0, 1) := by decide +kernel
theorem dX8_hour_32 : decode cX8_hour 32 = .ok (.iastore, 1) := by decide +kernel
theorem dX8_hour_33 : decode cX8_hour 33 = .ok (.iload 4, 2) := by decide +kernel
theorem dX8_hour_35 : decode cX8_hour 35 = .ok (.ldc 93, 2) := by decide +kernel
theorem dX8_hour_37 : decode cX8_hour 37 = .ok (.if_icmp .eq 119, 3) := by decide +kernel
theorem dX8_hour_40 : decode cX8_hour 40 = .ok (.aload_n 1, 1) := by decide +kernel
theorem dX8_hour_41 : decode cX8_hour 41 = .ok (.iload 4, 2) := by decide +kernel
theorem dX8_hour_43 : decode cX8_hour 43 = .ok (.iconst 0, 1) := by decide +kernel
theorem dX8_hour_44 : decode cX8_hour 44 = .ok (.invokestatic 155, 3) := by decide +kernel
theorem dX8_hour_47 : decode cX8_hour 47 = .ok (.iconst 1, 1) := by decide +kernel
theorem dX8_hour_48 : decode cX8_hour 48 = .ok (.if_icmp .eq 14, 3) := by decide +kernel
theorem dX8_hour_51 : decode cX8_hour 51 = .ok (.aload_n 1, 1) := by decide +kernel
theorem dX8_hour_52 : decode cX8_hour 52 = .ok (.iload 4, 2) := by decide +kernel
theorem dX8_hour_54 : decode cX8_hour 54 = .ok (.iconst 0, 1) := by decide +kernel
theorem dX8_hour_55 : decode cX8_hour 55 = .ok (.invokestatic 155, 3) := by decide +kernel
theorem dX8_hour_58 : decode cX8_hour 58 = .ok (.iconst 2, 1) := by decide +kernel
theorem dX8_hour_59 : decode cX8_hour 59 = .ok (.if_icmp .ne 7, 3) := by decide +kernel
theorem dX8_hour_62 : decode cX8_hour 62 = .ok (.iconst 2, 1) := by decide +kernel
theorem dX8_hour_63 : decode cX8_hour 63 = .ok (.goto 4, 3) := by decide +kernel
theorem dX8_hour_66 : decode cX8_hour 66 = .ok (.iconst 1, 1) := by decide +kernel
theorem dX8_hour_67 : decode cX8_hour 67 = .ok (.istore 5, 2) := by decide +kernel
theorem dX8_hour_69 : decode cX8_hour 69 = .ok (.iload 5, 2) := by decide +kernel
theorem dX8_hour_71 : decode cX8_hour 71 = .ok (.aload_n 1, 1) := by decide +kernel
theorem dX8_hour_72 : decode cX8_hour 72 = .ok (.iload 4, 2) := by decide +kernel
theorem dX8_hour_74 : decode cX8_hour 74 = .ok (.iconst 4, 1) := by decide +kernel
theorem dX8_hour_75 : decode cX8_hour 75 = .ok (.invokestatic 155, 3) := by decide +kernel
theorem dX8_hour_78 : decode cX8_hour 78 = .ok (.if_icmp .le 13, 3) := by decide +kernel
theorem dX8_hour_81 : decode cX8_hour 81 = .ok (.aload_n 1, 1) := by decide +kernel
theorem dX8_hour_82 : decode cX8_hour 82 = .ok (.iload 4, 2) := by decide +kernel
theorem dX8_hour_84 : decode cX8_hour 84 = .ok (.iconst 4, 1) := by decide +kernel
theorem dX8_hour_85 : decode cX8_hour 85 = .ok (.invokestatic 155, 3) := by decide +kernel
theorem dX8_hour_88 : decode cX8_hour 88 = .ok (.goto 5, 3) := by decide +kernel
theorem dX8_hour_91 : decode cX8_hour 91 = .ok (.iload 5, 2) := by decide +kernel
theorem dX8_hour_93 : decode cX8_hour 93 = .ok (.istore 6, 2) := by decide +kernel
theorem dX8_hour_95 : decode cX8_hour 95 = .ok (.aload_n 0, 1) := by decide +kernel
theorem dX8_hour_96 : decode cX8_hour 96 = .ok (.getfield 37, 3) := by decide +kernel
theorem dX8_hour_99 : decode cX8_hour 99 = .ok (.iload_n 3, 1) := by decide +kernel
theorem dX8_hour_100 : decode cX8_hour 100 = .ok (.iload 6, 2) := by decide +kernel
theorem dX8_hour_102 : decode cX8_hour 102 = .ok (.iastore, 1) := by decide +kernel
theorem dX8_hour_103 : decode cX8_hour 103 = .ok (.aload_n 1, 1) := by decide +kernel
theorem dX8_hour_104 : decode cX8_hour 104 = .ok (.bipush 6, 2) := by decide +kernel
theorem dX8_hour_106 : decode cX8_hour 106 = .ok (.iconst 5, 1) := by decide +kernel
theorem dX8_hour_107 : decode cX8_hour 107 = .ok (.iload 4, 2) := by decide +kernel
theorem dX8_hour_109 : decode cX8_hour 109 = .ok (.imul, 1) := by decide +kernel
theorem dX8_hour_110 : decode cX8_hour 110 = .ok (.iadd, 1) := by decide +kernel
theorem dX8_hour_111 : decode cX8_hour 111 = .ok (.iconst 4, 1) := by decide +kernel
theorem dX8_hour_112 : decode cX8_hour 112 = .ok (.iadd, 1) := by decide +kernel
theorem dX8_hour_113 : decode cX8_hour 113 = .ok (.dup2, 1) := by decide +kernel
theorem dX8_hour_114 : decode cX8_hour 114 = .ok (.iaload, 1) := by decide +kernel
theorem dX8_hour_115 : decode cX8_hour 115 = .ok (.iload 6, 2) := by decide +kernel
theorem dX8_hour_117 : decode cX8_hour 117 = .ok (.isub, 1) := by decide +kernel
theorem dX8_hour_118 : decode cX8_hour 118 = .ok (.iastore, 1) := by decide +kernel
theorem dX8_hour_119 : decode cX8_hour 119 = .ok (.aload_n 1, 1) := by decide +kernel
theorem dX8_hour_120 : decode cX8_hour 120 = .ok (.bipush 41, 2) := by decide +kernel
theorem dX8_hour_122 : decode cX8_hour 122 = .ok (.iconst 3, 1) := by decide +kernel
theorem dX8_hour_123 : decode cX8_hour 123 = .ok (.iload_n 3, 1) := by decide +kernel
theorem dX8_hour_124 : decode cX8_hour 124 = .ok (.imul, 1) := by decide +kernel
theorem dX8_hour_125 : decode cX8_hour 125 = .ok (.iadd, 1) := by decide +kernel
theorem dX8_hour_126 : decode cX8_hour 126 = .ok (.aload_n 1, 1) := by decide +kernel
theorem dX8_hour_127 : decode cX8_hour 127 = .ok (.iload_n 3, 1) := by decide +kernel
theorem dX8_hour_128 : decode cX8_hour 128 = .ok (.iconst 0, 1) := by decide +kernel
theorem dX8_hour_129 : decode cX8_hour 129 = .ok (.invokestatic 159, 3) := by decide +kernel
theorem dX8_hour_132 : decode cX8_hour 132 = .ok (.iload 6, 2) := by decide +kernel
theorem dX8_hour_134 : decode cX8_hour 134 = .ok (.if_icmp .le 15, 3) := by decide +kernel
theorem dX8_hour_137 : decode cX8_hour 137 = .ok (.aload_n 1, 1) := by decide +kernel
theorem dX8_hour_138 : decode cX8_hour 138 = .ok (.iload_n 3, 1) := by decide +kernel
theorem dX8_hour_139 : decode cX8_hour 139 = .ok (.iconst 0, 1) := by decide +kernel
theorem dX8_hour_140 : decode cX8_hour 140 = .ok (.invokestatic 159, 3) := by decide +kernel
theorem dX8_hour_143 : decode cX8_hour 143 = .ok (.iload 6, 2) := by decide +kernel
theorem dX8_hour_145 : decode cX8_hour 145 = .ok (.isub, 1) := by decide +kernel
theorem dX8_hour_146 : decode cX8_hour 146 = .ok (.goto 4, 3) := by decide +kernel
theorem dX8_hour_149 : decode cX8_hour 149 = .ok (.iconst 0, 1) := by decide +kernel
theorem dX8_hour_150 : decode cX8_hour 150 = .ok (.iastore, 1) := by decide +kernel
theorem dX8_hour_151 : decode cX8_hour 151 = .ok (.iload_n 2, 1) := by decide +kernel
theorem dX8_hour_152 : decode cX8_hour 152 = .ok (.iload 6, 2) := by decide +kernel
theorem dX8_hour_154 : decode cX8_hour 154 = .ok (.iadd, 1) := by decide +kernel
theorem dX8_hour_155 : decode cX8_hour 155 = .ok (.istore_n 2, 1) := by decide +kernel
theorem dX8_hour_156 : decode cX8_hour 156 = .ok (.iinc 3 1, 3) := by decide +kernel
theorem dX8_hour_159 : decode cX8_hour 159 = .ok (.goto (-155), 3) := by decide +kernel
theorem dX8_hour_162 : decode cX8_hour 162 = .ok (.iconst 0, 1) := by decide +kernel
theorem dX8_hour_163 : decode cX8_hour 163 = .ok (.istore_n 3, 1) := by decide +kernel
theorem dX8_hour_164 : decode cX8_hour 164 = .ok (.iload_n 3, 1) := by decide +kernel
theorem dX8_hour_165 : decode cX8_hour 165 = .ok (.aload_n 1, 1) := by decide +kernel
theorem dX8_hour_166 : decode cX8_hour 166 = .ok (.iconst 4, 1) := by decide +kernel
theorem dX8_hour_167 : decode cX8_hour 167 = .ok (.iaload, 1) := by decide +kernel
theorem dX8_hour_168 : decode cX8_hour 168 = .ok (.if_icmp .ge 70, 3) := by decide +kernel
theorem dX8_hour_171 : decode cX8_hour 171 = .ok (.aload_n 1, 1) := by decide +kernel
theorem dX8_hour_172 : decode cX8_hour 172 = .ok (.iload_n 3, 1) := by decide +kernel
theorem dX8_hour_173 : decode cX8_hour 173 = .ok (.iconst 0, 1) := by decide +kernel
theorem dX8_hour_174 : decode cX8_hour 174 = .ok (.invokestatic 159, 3) := by decide +kernel
theorem dX8_hour_177 : decode cX8_hour 177 = .ok (.aload_n 1, 1) := by decide +kernel
theorem dX8_hour_178 : decode cX8_hour 178 = .ok (.iconst 1, 1) := by decide +kernel
theorem dX8_hour_179 : decode cX8_hour 179 = .ok (.iaload, 1) := by decide +kernel
theorem dX8_hour_180 : decode cX8_hour 180 = .ok (.iadd, 1) := by decide +kernel
theorem dX8_hour_181 : decode cX8_hour 181 = .ok (.istore 4, 2) := by decide +kernel
theorem dX8_hour_183 : decode cX8_hour 183 = .ok (.aload_n 1, 1) := by decide +kernel
theorem dX8_hour_184 : decode cX8_hour 184 = .ok (.bipush 41, 2) := by decide +kernel
theorem dX8_hour_186 : decode cX8_hour 186 = .ok (.iconst 3, 1) := by decide +kernel
theorem dX8_hour_187 : decode cX8_hour 187 = .ok (.iload_n 3, 1) := by decide +kernel
theorem dX8_hour_188 : decode cX8_hour 188 = .ok (.imul, 1) := by decide +kernel
theorem dX8_hour_189 : decode cX8_hour 189 = .ok (.iadd, 1) := by decide +kernel
theorem dX8_hour_190 : decode cX8_hour 190 = .ok (.iload 4, 2) := by decide +kernel
theorem dX8_hour_192 : decode cX8_hour 192 = .ok (.bipush 99, 2) := by decide +kernel
theorem dX8_hour_194 : decode cX8_hour 194 = .ok (.if_icmp .le 8, 3) := by decide +kernel
theorem dX8_hour_197 : decode cX8_hour 197 = .ok (.bipush 99, 2) := by decide +kernel
theorem dX8_hour_199 : decode cX8_hour 199 = .ok (.goto 5, 3) := by decide +kernel
theorem dX8_hour_202 : decode cX8_hour 202 = .ok (.iload 4, 2) := by decide +kernel
theorem dX8_hour_204 : decode cX8_hour 204 = .ok (.iastore, 1) := by decide +kernel
theorem dX8_hour_205 : decode cX8_hour 205 = .ok (.aload_n 1, 1) := by decide +kernel
theorem dX8_hour_206 : decode cX8_hour 206 = .ok (.bipush 41, 2) := by decide +kernel
theorem dX8_hour_208 : decode cX8_hour 208 = .ok (.iconst 3, 1) := by decide +kernel
theorem dX8_hour_209 : decode cX8_hour 209 = .ok (.iload_n 3, 1) := by decide +kernel
theorem dX8_hour_210 : decode cX8_hour 210 = .ok (.imul, 1) := by decide +kernel
theorem dX8_hour_211 : decode cX8_hour 211 = .ok (.iadd, 1) := by decide +kernel
theorem dX8_hour_212 : decode cX8_hour 212 = .ok (.iconst 2, 1) := by decide +kernel
theorem dX8_hour_213 : decode cX8_hour 213 = .ok (.iadd, 1) := by decide +kernel
theorem dX8_hour_214 : decode cX8_hour 214 = .ok (.dup2, 1) := by decide +kernel
theorem dX8_hour_215 : decode cX8_hour 215 = .ok (.iaload, 1) := by decide +kernel
theorem dX8_hour_216 : decode cX8_hour 216 = .ok (.aload_n 1, 1) := by decide +kernel
theorem dX8_hour_217 : decode cX8_hour 217 = .ok (.iload_n 3, 1) := by decide +kernel
theorem dX8_hour_218 : decode cX8_hour 218 = .ok (.iconst 2, 1) := by decide +kernel
theorem dX8_hour_219 : decode cX8_hour 219 = .ok (.invokestatic 159, 3) := by decide +kernel
theorem dX8_hour_222 : decode cX8_hour 222 = .ok (.ifCond .le 7, 3) := by decide +kernel
theorem dX8_hour_225 : decode cX8_hour 225 = .ok (.iconst 1, 1) := by decide +kernel
theorem dX8_hour_226 : decode cX8_hour 226 = .ok (.goto 4, 3) := by decide +kernel
theorem dX8_hour_229 : decode cX8_hour 229 = .ok (.iconst 0, 1) := by decide +kernel
theorem dX8_hour_230 : decode cX8_hour 230 = .ok (.isub, 1) := by decide +kernel
theorem dX8_hour_231 : decode cX8_hour 231 = .ok (.iastore, 1) := by decide +kernel
theorem dX8_hour_232 : decode cX8_hour 232 = .ok (.iinc 3 1, 3) := by decide +kernel
theorem dX8_hour_235 : decode cX8_hour 235 = .ok (.goto (-71), 3) := by decide +kernel
theorem dX8_hour_238 : decode cX8_hour 238 = .ok (.aload_n 1, 1) := by decide +kernel
theorem dX8_hour_239 : decode cX8_hour 239 = .ok (.iconst 5, 1) := by decide +kernel
theorem dX8_hour_240 : decode cX8_hour 240 = .ok (.dup2, 1) := by decide +kernel
theorem dX8_hour_241 : decode cX8_hour 241 = .ok (.iaload, 1) := by decide +kernel
theorem dX8_hour_242 : decode cX8_hour 242 = .ok (.iconst 1, 1) := by decide +kernel
theorem dX8_hour_243 : decode cX8_hour 243 = .ok (.iadd, 1) := by decide +kernel
theorem dX8_hour_244 : decode cX8_hour 244 = .ok (.iastore, 1) := by decide +kernel
theorem dX8_hour_245 : decode cX8_hour 245 = .ok (.iload_n 2, 1) := by decide +kernel
theorem dX8_hour_246 : decode cX8_hour 246 = .ok (.ireturn, 1) := by decide +kernel
theorem dX8_hoursOf_0 : decode cX8_hoursOf 0 = .ok (.iconst 0, 1) := by decide +kernel
theorem dX8_hoursOf_1 : decode cX8_hoursOf 1 = .ok (.istore_n 3, 1) := by decide +kernel
theorem dX8_hoursOf_2 : decode cX8_hoursOf 2 = .ok (.iconst 0, 1) := by decide +kernel
theorem dX8_hoursOf_3 : decode cX8_hoursOf 3 = .ok (.istore 4, 2) := by decide +kernel
theorem dX8_hoursOf_5 : decode cX8_hoursOf 5 = .ok (.iload 4, 2) := by decide +kernel
theorem dX8_hoursOf_7 : decode cX8_hoursOf 7 = .ok (.iload_n 2, 1) := by decide +kernel
theorem dX8_hoursOf_8 : decode cX8_hoursOf 8 = .ok (.if_icmp .ge 17, 3) := by decide +kernel
theorem dX8_hoursOf_11 : decode cX8_hoursOf 11 = .ok (.iload_n 3, 1) := by decide +kernel
theorem dX8_hoursOf_12 : decode cX8_hoursOf 12 = .ok (.aload_n 0, 1) := by decide +kernel
theorem dX8_hoursOf_13 : decode cX8_hoursOf 13 = .ok (.aload_n 1, 1) := by decide +kernel
theorem dX8_hoursOf_14 : decode cX8_hoursOf 14 = .ok (.invokevirtual 169, 3) := by decide +kernel
theorem dX8_hoursOf_17 : decode cX8_hoursOf 17 = .ok (.iadd, 1) := by decide +kernel
theorem dX8_hoursOf_18 : decode cX8_hoursOf 18 = .ok (.istore_n 3, 1) := by decide +kernel
theorem dX8_hoursOf_19 : decode cX8_hoursOf 19 = .ok (.iinc 4 1, 3) := by decide +kernel
theorem dX8_hoursOf_22 : decode cX8_hoursOf 22 = .ok (.goto (-17), 3) := by decide +kernel
theorem dX8_hoursOf_25 : decode cX8_hoursOf 25 = .ok (.iload_n 3, 1) := by decide +kernel
theorem dX8_hoursOf_26 : decode cX8_hoursOf 26 = .ok (.ireturn, 1) := by decide +kernel
theorem dX8_isForce_0 : decode cX8_isForce 0 = .ok (.iconst 2, 1) := by decide +kernel
theorem dX8_isForce_1 : decode cX8_isForce 1 = .ok (.aload_n 0, 1) := by decide +kernel
theorem dX8_isForce_2 : decode cX8_isForce 2 = .ok (.iload_n 1, 1) := by decide +kernel
theorem dX8_isForce_3 : decode cX8_isForce 3 = .ok (.iconst 4, 1) := by decide +kernel
theorem dX8_isForce_4 : decode cX8_isForce 4 = .ok (.invokestatic 155, 3) := by decide +kernel
theorem dX8_isForce_7 : decode cX8_isForce 7 = .ok (.imul, 1) := by decide +kernel
theorem dX8_isForce_8 : decode cX8_isForce 8 = .ok (.aload_n 0, 1) := by decide +kernel
theorem dX8_isForce_9 : decode cX8_isForce 9 = .ok (.iload_n 1, 1) := by decide +kernel
theorem dX8_isForce_10 : decode cX8_isForce 10 = .ok (.iconst 1, 1) := by decide +kernel
theorem dX8_isForce_11 : decode cX8_isForce 11 = .ok (.invokestatic 155, 3) := by decide +kernel
theorem dX8_isForce_14 : decode cX8_isForce 14 = .ok (.if_icmp .lt 7, 3) := by decide +kernel
theorem dX8_isForce_17 : decode cX8_isForce 17 = .ok (.iconst 1, 1) := by decide +kernel
theorem dX8_isForce_18 : decode cX8_isForce 18 = .ok (.goto 4, 3) := by decide +kernel
theorem dX8_isForce_21 : decode cX8_isForce 21 = .ok (.iconst 0, 1) := by decide +kernel
theorem dX8_isForce_22 : decode cX8_isForce 22 = .ok (.ireturn, 1) := by decide +kernel
theorem dX8_forced_0 : decode cX8_forced 0 = .ok (.iconst 0, 1) := by decide +kernel
theorem dX8_forced_1 : decode cX8_forced 1 = .ok (.istore_n 1, 1) := by decide +kernel
theorem dX8_forced_2 : decode cX8_forced 2 = .ok (.iconst 0, 1) := by decide +kernel
theorem dX8_forced_3 : decode cX8_forced 3 = .ok (.istore_n 2, 1) := by decide +kernel
theorem dX8_forced_4 : decode cX8_forced 4 = .ok (.iload_n 2, 1) := by decide +kernel
theorem dX8_forced_5 : decode cX8_forced 5 = .ok (.aload_n 0, 1) := by decide +kernel
theorem dX8_forced_6 : decode cX8_forced 6 = .ok (.iconst 3, 1) := by decide +kernel
theorem dX8_forced_7 : decode cX8_forced 7 = .ok (.iaload, 1) := by decide +kernel
theorem dX8_forced_8 : decode cX8_forced 8 = .ok (.if_icmp .ge 27, 3) := by decide +kernel
theorem dX8_forced_11 : decode cX8_forced 11 = .ok (.iload_n 1, 1) := by decide +kernel
theorem dX8_forced_12 : decode cX8_forced 12 = .ok (.aload_n 0, 1) := by decide +kernel
theorem dX8_forced_13 : decode cX8_forced 13 = .ok (.iload_n 2, 1) := by decide +kernel
theorem dX8_forced_14 : decode cX8_forced 14 = .ok (.invokestatic 173, 3) := by decide +kernel
theorem dX8_forced_17 : decode cX8_forced 17 = .ok (.ifCond .eq 9, 3) := by decide +kernel
theorem dX8_forced_20 : decode cX8_forced 20 = .ok (.iconst 1, 1) := by decide +kernel
theorem dX8_forced_21 : decode cX8_forced 21 = .ok (.iload_n 2, 1) := by decide +kernel
theorem dX8_forced_22 : decode cX8_forced 22 = .ok (.ishl, 1) := by decide +kernel
theorem dX8_forced_23 : decode cX8_forced 23 = .ok (.goto 4, 3) := by decide +kernel
theorem dX8_forced_26 : decode cX8_forced 26 = .ok (.iconst 0, 1) := by decide +kernel
theorem dX8_forced_27 : decode cX8_forced 27 = .ok (.ior, 1) := by decide +kernel
theorem dX8_forced_28 : decode cX8_forced 28 = .ok (.istore_n 1, 1) := by decide +kernel
theorem dX8_forced_29 : decode cX8_forced 29 = .ok (.iinc 2 1, 3) := by decide +kernel
theorem dX8_forced_32 : decode cX8_forced 32 = .ok (.goto (-28), 3) := by decide +kernel
theorem dX8_forced_35 : decode cX8_forced 35 = .ok (.iload_n 1, 1) := by decide +kernel
theorem dX8_forced_36 : decode cX8_forced 36 = .ok (.ireturn, 1) := by decide +kernel
theorem dX8_leftOf_0 : decode cX8_leftOf 0 = .ok (.iconst 0, 1) := by decide +kernel
theorem dX8_leftOf_1 : decode cX8_leftOf 1 = .ok (.istore_n 1, 1) := by decide +kernel
theorem dX8_leftOf_2 : decode cX8_leftOf 2 = .ok (.iconst 0, 1) := by decide +kernel
theorem dX8_leftOf_3 : decode cX8_leftOf 3 = .ok (.istore_n 2, 1) := by decide +kernel
theorem dX8_leftOf_4 : decode cX8_leftOf 4 = .ok (.iload_n 2, 1) := by decide +kernel
theorem dX8_leftOf_5 : decode cX8_leftOf 5 = .ok (.aload_n 0, 1) := by decide +kernel
theorem dX8_leftOf_6 : decode cX8_leftOf 6 = .ok (.iconst 3, 1) := by decide +kernel
theorem dX8_leftOf_7 : decode cX8_leftOf 7 = .ok (.iaload, 1) := by decide +kernel
theorem dX8_leftOf_8 : decode cX8_leftOf 8 = .ok (.if_icmp .ge 18, 3) := by decide +kernel
theorem dX8_leftOf_11 : decode cX8_leftOf 11 = .ok (.iload_n 1, 1) := by decide +kernel
theorem dX8_leftOf_12 : decode cX8_leftOf 12 = .ok (.aload_n 0, 1) := by decide +kernel
theorem dX8_leftOf_13 : decode cX8_leftOf 13 = .ok (.iload_n 2, 1) := by decide +kernel
theorem dX8_leftOf_14 : decode cX8_leftOf 14 = .ok (.iconst 4, 1) := by decide +kernel
theorem dX8_leftOf_15 : decode cX8_leftOf 15 = .ok (.invokestatic 155, 3) := by decide +kernel
theorem dX8_leftOf_18 : decode cX8_leftOf 18 = .ok (.iadd, 1) := by decide +kernel
theorem dX8_leftOf_19 : decode cX8_leftOf 19 = .ok (.istore_n 1, 1) := by decide +kernel
theorem dX8_leftOf_20 : decode cX8_leftOf 20 = .ok (.iinc 2 1, 3) := by decide +kernel
theorem dX8_leftOf_23 : decode cX8_leftOf 23 = .ok (.goto (-19), 3) := by decide +kernel
theorem dX8_leftOf_26 : decode cX8_leftOf 26 = .ok (.iload_n 1, 1) := by decide +kernel
theorem dX8_leftOf_27 : decode cX8_leftOf 27 = .ok (.ireturn, 1) := by decide +kernel
theorem dX8_layThen_0 : decode cX8_layThen 0 = .ok (.iconst 0, 1) := by decide +kernel
theorem dX8_layThen_1 : decode cX8_layThen 1 = .ok (.istore_n 1, 1) := by decide +kernel
theorem dX8_layThen_2 : decode cX8_layThen 2 = .ok (.iload_n 1, 1) := by decide +kernel
theorem dX8_layThen_3 : decode cX8_layThen 3 = .ok (.bipush 53, 2) := by decide +kernel
theorem dX8_layThen_5 : decode cX8_layThen 5 = .ok (.if_icmp .ge 21, 3) := by decide +kernel
theorem dX8_layThen_8 : decode cX8_layThen 8 = .ok (.aload_n 0, 1) := by decide +kernel
theorem dX8_layThen_9 : decode cX8_layThen 9 = .ok (.getfield 25, 3) := by decide +kernel
theorem dX8_layThen_12 : decode cX8_layThen 12 = .ok (.iload_n 1, 1) := by decide +kernel
theorem dX8_layThen_13 : decode cX8_layThen 13 = .ok (.aload_n 0, 1) := by decide +kernel
theorem dX8_layThen_14 : decode cX8_layThen 14 = .ok (.getfield 19, 3) := by decide +kernel
theorem dX8_layThen_17 : decode cX8_layThen 17 = .ok (.iload_n 1, 1) := by decide +kernel
theorem dX8_layThen_18 : decode cX8_layThen 18 = .ok (.iaload, 1) := by decide +kernel
theorem dX8_layThen_19 : decode cX8_layThen 19 = .ok (.iastore, 1) := by decide +kernel
theorem dX8_layThen_20 : decode cX8_layThen 20 = .ok (.iinc 1 1, 3) := by decide +kernel
theorem dX8_layThen_23 : decode cX8_layThen 23 = .ok (.goto (-21), 3) := by decide +kernel
theorem dX8_layThen_26 : decode cX8_layThen 26 = .ok (.return_, 1) := by decide +kernel
theorem dX8_layOff_0 : decode cX8_layOff 0 = .ok (.aload_n 0, 1) := by decide +kernel
theorem dX8_layOff_1 : decode cX8_layOff 1 = .ok (.invokevirtual 177, 3) := by decide +kernel
theorem dX8_layOff_4 : decode cX8_layOff 4 = .ok (.iconst 0, 1) := by decide +kernel
theorem dX8_layOff_5 : decode cX8_layOff 5 = .ok (.istore_n 3, 1) := by decide +kernel
theorem dX8_layOff_6 : decode cX8_layOff 6 = .ok (.iload_n 3, 1) := by decide +kernel
theorem dX8_layOff_7 : decode cX8_layOff 7 = .ok (.aload_n 0, 1) := by decide +kernel
theorem dX8_layOff_8 : decode cX8_layOff 8 = .ok (.getfield 19, 3) := by decide +kernel
theorem dX8_layOff_11 : decode cX8_layOff 11 = .ok (.iconst 4, 1) := by decide +kernel
theorem dX8_layOff_12 : decode cX8_layOff 12 = .ok (.iaload, 1) := by decide +kernel
theorem dX8_layOff_13 : decode cX8_layOff 13 = .ok (.if_icmp .ge 56, 3) := by decide +kernel
theorem dX8_layOff_16 : decode cX8_layOff 16 = .ok (.bipush 41, 2) := by decide +kernel
theorem dX8_layOff_18 : decode cX8_layOff 18 = .ok (.iconst 3, 1) := by decide +kernel
theorem dX8_layOff_19 : decode cX8_layOff 19 = .ok (.iload_n 3, 1) := by decide +kernel
theorem dX8_layOff_20 : decode cX8_layOff 20 = .ok (.imul, 1) := by decide +kernel
theorem dX8_layOff_21 : decode cX8_layOff 21 = .ok (.iadd, 1) := by decide +kernel
theorem dX8_layOff_22 : decode cX8_layOff 22 = .ok (.iconst 2, 1) := by decide +kernel
theorem dX8_layOff_23 : decode cX8_layOff 23 = .ok (.iadd, 1) := by decide +kernel
theorem dX8_layOff_24 : decode cX8_layOff 24 = .ok (.istore 4, 2) := by decide +kernel
theorem dX8_layOff_26 : decode cX8_layOff 26 = .ok (.aload_n 0, 1) := by decide +kernel
theorem dX8_layOff_27 : decode cX8_layOff 27 = .ok (.getfield 25, 3) := by decide +kernel
theorem dX8_layOff_30 : decode cX8_layOff 30 = .ok (.iload 4, 2) := by decide +kernel
theorem dX8_layOff_32 : decode cX8_layOff 32 = .ok (.iload_n 1, 1) := by decide +kernel
theorem dX8_layOff_33 : decode cX8_layOff 33 = .ok (.iload_n 3, 1) := by decide +kernel
theorem dX8_layOff_34 : decode cX8_layOff 34 = .ok (.invokestatic 180, 3) := by decide +kernel
theorem dX8_layOff_37 : decode cX8_layOff 37 = .ok (.ifCond .eq 18, 3) := by decide +kernel
theorem dX8_layOff_40 : decode cX8_layOff 40 = .ok (.aload_n 0, 1) := by decide +kernel
theorem dX8_layOff_41 : decode cX8_layOff 41 = .ok (.getfield 25, 3) := by decide +kernel
theorem dX8_layOff_44 : decode cX8_layOff 44 = .ok (.iload 4, 2) := by decide +kernel
theorem dX8_layOff_46 : decode cX8_layOff 46 = .ok (.iaload, 1) := by decide +kernel
theorem dX8_layOff_47 : decode cX8_layOff 47 = .ok (.iload_n 2, 1) := by decide +kernel
theorem dX8_layOff_48 : decode cX8_layOff 48 = .ok (.if_icmp .ge 7, 3) := by decide +kernel
theorem dX8_layOff_51 : decode cX8_layOff 51 = .ok (.iload_n 2, 1) := by decide +kernel
theorem dX8_layOff_52 : decode cX8_layOff 52 = .ok (.goto 10, 3) := by decide +kernel
theorem dX8_layOff_55 : decode cX8_layOff 55 = .ok (.aload_n 0, 1) := by decide +kernel
theorem dX8_layOff_56 : decode cX8_layOff 56 = .ok (.getfield 25, 3) := by decide +kernel
theorem dX8_layOff_59 : decode cX8_layOff 59 = .ok (.iload 4, 2) := by decide +kernel
theorem dX8_layOff_61 : decode cX8_layOff 61 = .ok (.iaload, 1) := by decide +kernel
theorem dX8_layOff_62 : decode cX8_layOff 62 = .ok (.iastore, 1) := by decide +kernel
theorem dX8_layOff_63 : decode cX8_layOff 63 = .ok (.iinc 3 1, 3) := by decide +kernel
theorem dX8_layOff_66 : decode cX8_layOff 66 = .ok (.goto (-60), 3) := by decide +kernel
theorem dX8_layOff_69 : decode cX8_layOff 69 = .ok (.return_, 1) := by decide +kernel
theorem dX8_keep_0 : decode cX8_keep 0 = .ok (.aload_n 0, 1) := by decide +kernel
theorem dX8_keep_1 : decode cX8_keep 1 = .ok (.getfield 152, 3) := by decide +kernel
theorem dX8_keep_4 : decode cX8_keep 4 = .ok (.bipush 24, 2) := by decide +kernel
theorem dX8_keep_6 : decode cX8_keep 6 = .ok (.if_icmp .ne 43, 3) := by decide +kernel
theorem dX8_keep_9 : decode cX8_keep 9 = .ok (.iconst 0, 1) := by decide +kernel
theorem dX8_keep_10 : decode cX8_keep 10 = .ok (.istore_n 1, 1) := by decide +kernel
theorem dX8_keep_11 : decode cX8_keep 11 = .ok (.iload_n 1, 1) := by decide +kernel
theorem dX8_keep_12 : decode cX8_keep 12 = .ok (.sipush 1219, 3) := by decide +kernel
theorem dX8_keep_15 : decode cX8_keep 15 = .ok (.if_icmp .ge 24, 3) := by decide +kernel
theorem dX8_keep_18 : decode cX8_keep 18 = .ok (.aload_n 0, 1) := by decide +kernel
theorem dX8_keep_19 : decode cX8_keep 19 = .ok (.getfield 28, 3) := by decide +kernel
theorem dX8_keep_22 : decode cX8_keep 22 = .ok (.iload_n 1, 1) := by decide +kernel
theorem dX8_keep_23 : decode cX8_keep 23 = .ok (.aload_n 0, 1) := by decide +kernel
theorem dX8_keep_24 : decode cX8_keep 24 = .ok (.getfield 28, 3) := by decide +kernel
theorem dX8_keep_27 : decode cX8_keep 27 = .ok (.iload_n 1, 1) := by decide +kernel
theorem dX8_keep_28 : decode cX8_keep 28 = .ok (.bipush 53, 2) := by decide +kernel
theorem dX8_keep_30 : decode cX8_keep 30 = .ok (.iadd, 1) := by decide +kernel
theorem dX8_keep_31 : decode cX8_keep 31 = .ok (.iaload, 1) := by decide +kernel
theorem dX8_keep_32 : decode cX8_keep 32 = .ok (.iastore, 1) := by decide +kernel
theorem dX8_keep_33 : decode cX8_keep 33 = .ok (.iinc 1 1, 3) := by decide +kernel
theorem dX8_keep_36 : decode cX8_keep 36 = .ok (.goto (-25), 3) := by decide +kernel
theorem dX8_keep_39 : decode cX8_keep 39 = .ok (.aload_n 0, 1) := by decide +kernel
theorem dX8_keep_40 : decode cX8_keep 40 = .ok (.dup, 1) := by decide +kernel
theorem dX8_keep_41 : decode cX8_keep 41 = .ok (.getfield 152, 3) := by decide +kernel
theorem dX8_keep_44 : decode cX8_keep 44 = .ok (.iconst 1, 1) := by decide +kernel
theorem dX8_keep_45 : decode cX8_keep 45 = .ok (.isub, 1) := by decide +kernel
theorem dX8_keep_46 : decode cX8_keep 46 = .ok (.putfield 152, 3) := by decide +kernel
theorem dX8_keep_49 : decode cX8_keep 49 = .ok (.iconst 0, 1) := by decide +kernel
theorem dX8_keep_50 : decode cX8_keep 50 = .ok (.istore_n 1, 1) := by decide +kernel
theorem dX8_keep_51 : decode cX8_keep 51 = .ok (.iload_n 1, 1) := by decide +kernel
theorem dX8_keep_52 : decode cX8_keep 52 = .ok (.bipush 53, 2) := by decide +kernel
theorem dX8_keep_54 : decode cX8_keep 54 = .ok (.if_icmp .ge 29, 3) := by decide +kernel
theorem dX8_keep_57 : decode cX8_keep 57 = .ok (.aload_n 0, 1) := by decide +kernel
theorem dX8_keep_58 : decode cX8_keep 58 = .ok (.getfield 28, 3) := by decide +kernel
theorem dX8_keep_61 : decode cX8_keep 61 = .ok (.bipush 53, 2) := by decide +kernel
theorem dX8_keep_63 : decode cX8_keep 63 = .ok (.aload_n 0, 1) := by decide +kernel
theorem dX8_keep_64 : decode cX8_keep 64 = .ok (.getfield 152, 3) := by decide +kernel
theorem dX8_keep_67 : decode cX8_keep 67 = .ok (.imul, 1) := by decide +kernel
theorem dX8_keep_68 : decode cX8_keep 68 = .ok (.iload_n 1, 1) := by decide +kernel
theorem dX8_keep_69 : decode cX8_keep 69 = .ok (.iadd, 1) := by decide +kernel
theorem dX8_keep_70 : decode cX8_keep 70 = .ok (.aload_n 0, 1) := by decide +kernel
theorem dX8_keep_71 : decode cX8_keep 71 = .ok (.getfield 19, 3) := by decide +kernel
theorem dX8_keep_74 : decode cX8_keep 74 = .ok (.iload_n 1, 1) := by decide +kernel
theorem dX8_keep_75 : decode cX8_keep 75 = .ok (.iaload, 1) := by decide +kernel
theorem dX8_keep_76 : decode cX8_keep 76 = .ok (.iastore, 1) := by decide +kernel
theorem dX8_keep_77 : decode cX8_keep 77 = .ok (.iinc 1 1, 3) := by decide +kernel
theorem dX8_keep_80 : decode cX8_keep 80 = .ok (.goto (-29), 3) := by decide +kernel
theorem dX8_keep_83 : decode cX8_keep 83 = .ok (.aload_n 0, 1) := by decide +kernel
theorem dX8_keep_84 : decode cX8_keep 84 = .ok (.dup, 1) := by decide +kernel
theorem dX8_keep_85 : decode cX8_keep 85 = .ok (.getfield 152, 3) := by decide +kernel
theorem dX8_keep_88 : decode cX8_keep 88 = .ok (.iconst 1, 1) := by decide +kernel
theorem dX8_keep_89 : decode cX8_keep 89 = .ok (.iadd, 1) := by decide +kernel
theorem dX8_keep_90 : decode cX8_keep 90 = .ok (.putfield 152, 3) := by decide +kernel
theorem dX8_keep_93 : decode cX8_keep 93 = .ok (.return_, 1) := by decide +kernel
theorem dX8_hours_0 : decode cX8_hours 0 = .ok (.aload_n 0, 1) := by decide +kernel
theorem dX8_hours_1 : decode cX8_hours 1 = .ok (.iconst 0, 1) := by decide +kernel
theorem dX8_hours_2 : decode cX8_hours 2 = .ok (.putfield 50, 3) := by decide +kernel
theorem dX8_hours_5 : decode cX8_hours 5 = .ok (.aload_n 0, 1) := by decide +kernel
theorem dX8_hours_6 : decode cX8_hours 6 = .ok (.invokevirtual 184, 3) := by decide +kernel
theorem dX8_hours_9 : decode cX8_hours 9 = .ok (.ifCond .ne 6, 3) := by decide +kernel
theorem dX8_hours_12 : decode cX8_hours 12 = .ok (.ldc 187, 2) := by decide +kernel
theorem dX8_hours_14 : decode cX8_hours 14 = .ok (.ireturn, 1) := by decide +kernel
theorem dX8_hours_15 : decode cX8_hours 15 = .ok (.iload_n 1, 1) := by decide +kernel
theorem dX8_hours_16 : decode cX8_hours 16 = .ok (.i2l, 1) := by decide +kernel
theorem dX8_hours_17 : decode cX8_hours 17 = .ok (.lconst 1, 1) := by decide +kernel
theorem dX8_hours_18 : decode cX8_hours 18 = .ok (.ldc2_w 188, 3) := by decide +kernel
theorem dX8_hours_21 : decode cX8_hours 21 = .ok (.invokestatic 60, 3) := by decide +kernel
theorem dX8_hours_24 : decode cX8_hours 24 = .ok (.ifCond .ne 6, 3) := by decide +kernel
theorem dX8_hours_27 : decode cX8_hours 27 = .ok (.ldc 70, 2) := by decide +kernel
theorem dX8_hours_29 : decode cX8_hours 29 = .ok (.ireturn, 1) := by decide +kernel
theorem dX8_hours_30 : decode cX8_hours 30 = .ok (.aload_n 0, 1) := by decide +kernel
theorem dX8_hours_31 : decode cX8_hours 31 = .ok (.getfield 19, 3) := by decide +kernel
theorem dX8_hours_34 : decode cX8_hours 34 = .ok (.iconst 5, 1) := by decide +kernel
theorem dX8_hours_35 : decode cX8_hours 35 = .ok (.iaload, 1) := by decide +kernel
theorem dX8_hours_36 : decode cX8_hours 36 = .ok (.iload_n 1, 1) := by decide +kernel
theorem dX8_hours_37 : decode cX8_hours 37 = .ok (.iadd, 1) := by decide +kernel
theorem dX8_hours_38 : decode cX8_hours 38 = .ok (.sipush 999, 3) := by decide +kernel
theorem dX8_hours_41 : decode cX8_hours 41 = .ok (.if_icmp .le 6, 3) := by decide +kernel
theorem dX8_hours_44 : decode cX8_hours 44 = .ok (.ldc 80, 2) := by decide +kernel
theorem dX8_hours_46 : decode cX8_hours 46 = .ok (.ireturn, 1) := by decide +kernel
theorem dX8_hours_47 : decode cX8_hours 47 = .ok (.iconst 0, 1) := by decide +kernel
theorem dX8_hours_48 : decode cX8_hours 48 = .ok (.istore_n 2, 1) := by decide +kernel
theorem dX8_hours_49 : decode cX8_hours 49 = .ok (.iconst 0, 1) := by decide +kernel
theorem dX8_hours_50 : decode cX8_hours 50 = .ok (.istore_n 3, 1) := by decide +kernel
theorem dX8_hours_51 : decode cX8_hours 51 = .ok (.iload_n 3, 1) := by decide +kernel
theorem dX8_hours_52 : decode cX8_hours 52 = .ok (.iload_n 1, 1) := by decide +kernel
theorem dX8_hours_53 : decode cX8_hours 53 = .ok (.if_icmp .ge 24, 3) := by decide +kernel
theorem dX8_hours_56 : decode cX8_hours 56 = .ok (.aload_n 0, 1) := by decide +kernel
theorem dX8_hours_57 : decode cX8_hours 57 = .ok (.invokevirtual 190, 3) := by decide +kernel
theorem dX8_hours_60 : decode cX8_hours 60 = .ok (.iload_n 2, 1) := by decide +kernel
theorem dX8_hours_61 : decode cX8_hours 61 = .ok (.aload_n 0, 1) := by decide +kernel
theorem dX8_hours_62 : decode cX8_hours 62 = .ok (.aload_n 0, 1) := by decide +kernel
theorem dX8_hours_63 : decode cX8_hours 63 = .ok (.getfield 19, 3) := by decide +kernel
theorem dX8_hours_66 : decode cX8_hours 66 = .ok (.invokevirtual 169, 3) := by decide +kernel
theorem dX8_hours_69 : decode cX8_hours 69 = .ok (.iadd, 1) := by decide +kernel
theorem dX8_hours_70 : decode cX8_hours 70 = .ok (.istore_n 2, 1) := by decide +kernel
theorem dX8_hours_71 : decode cX8_hours 71 = .ok (.iinc 3 1, 3) := by decide +kernel
theorem dX8_hours_74 : decode cX8_hours 74 = .ok (.goto (-23), 3) := by decide +kernel
theorem dX8_hours_77 : decode cX8_hours 77 = .ok (.iload_n 2, 1) := by decide +kernel
theorem dX8_hours_78 : decode cX8_hours 78 = .ok (.ireturn, 1) := by decide +kernel
theorem dX8_hang_0 : decode cX8_hang 0 = .ok (.aload_n 0, 1) := by decide +kernel
theorem dX8_hang_1 : decode cX8_hang 1 = .ok (.iconst 0, 1) := by decide +kernel
theorem dX8_hang_2 : decode cX8_hang 2 = .ok (.putfield 50, 3) := by decide +kernel
theorem dX8_hang_5 : decode cX8_hang 5 = .ok (.aload_n 0, 1) := by decide +kernel
theorem dX8_hang_6 : decode cX8_hang 6 = .ok (.iload_n 1, 1) := by decide +kernel
theorem dX8_hang_7 : decode cX8_hang 7 = .ok (.invokevirtual 193, 3) := by decide +kernel
theorem dX8_hang_10 : decode cX8_hang 10 = .ok (.ifCond .eq 15, 3) := by decide +kernel
theorem dX8_hang_13 : decode cX8_hang 13 = .ok (.iload_n 2, 1) := by decide +kernel
theorem dX8_hang_14 : decode cX8_hang 14 = .ok (.i2l, 1) := by decide +kernel
theorem dX8_hang_15 : decode cX8_hang 15 = .ok (.lconst 0, 1) := by decide +kernel
theorem dX8_hang_16 : decode cX8_hang 16 = .ok (.ldc2_w 196, 3) := by decide +kernel
theorem dX8_hang_19 : decode cX8_hang 19 = .ok (.invokestatic 60, 3) := by decide +kernel
theorem dX8_hang_22 : decode cX8_hang 22 = .ok (.ifCond .ne 6, 3) := by decide +kernel
theorem dX8_hang_25 : decode cX8_hang 25 = .ok (.ldc 70, 2) := by decide +kernel
theorem dX8_hang_27 : decode cX8_hang 27 = .ok (.ireturn, 1) := by decide +kernel
theorem dX8_hang_28 : decode cX8_hang 28 = .ok (.aload_n 0, 1) := by decide +kernel
theorem dX8_hang_29 : decode cX8_hang 29 = .ok (.getfield 19, 3) := by decide +kernel
theorem dX8_hang_32 : decode cX8_hang 32 = .ok (.iload_n 1, 1) := by decide +kernel
theorem dX8_hang_33 : decode cX8_hang 33 = .ok (.iconst 4, 1) := by decide +kernel
theorem dX8_hang_34 : decode cX8_hang 34 = .ok (.invokestatic 155, 3) := by decide +kernel
theorem dX8_hang_37 : decode cX8_hang 37 = .ok (.ifCond .ne 6, 3) := by decide +kernel
theorem dX8_hang_40 : decode cX8_hang 40 = .ok (.ldc 187, 2) := by decide +kernel
theorem dX8_hang_42 : decode cX8_hang 42 = .ok (.ireturn, 1) := by decide +kernel
theorem dX8_hang_43 : decode cX8_hang 43 = .ok (.aload_n 0, 1) := by decide +kernel
theorem dX8_hang_44 : decode cX8_hang 44 = .ok (.invokevirtual 190, 3) := by decide +kernel
theorem dX8_hang_47 : decode cX8_hang 47 = .ok (.aload_n 0, 1) := by decide +kernel
theorem dX8_hang_48 : decode cX8_hang 48 = .ok (.getfield 19, 3) := by decide +kernel
theorem dX8_hang_51 : decode cX8_hang 51 = .ok (.iload_n 1, 1) := by decide +kernel
theorem dX8_hang_52 : decode cX8_hang 52 = .ok (.iconst 2, 1) := by decide +kernel
theorem dX8_hang_53 : decode cX8_hang 53 = .ok (.invokestatic 155, 3) := by decide +kernel
theorem dX8_hang_56 : decode cX8_hang 56 = .ok (.istore_n 3, 1) := by decide +kernel
theorem dX8_hang_57 : decode cX8_hang 57 = .ok (.aload_n 0, 1) := by decide +kernel
theorem dX8_hang_58 : decode cX8_hang 58 = .ok (.getfield 19, 3) := by decide +kernel
theorem dX8_hang_61 : decode cX8_hang 61 = .ok (.bipush 6, 2) := by decide +kernel
theorem dX8_hang_63 : decode cX8_hang 63 = .ok (.iconst 5, 1) := by decide +kernel
theorem dX8_hang_64 : decode cX8_hang 64 = .ok (.iload_n 1, 1) := by decide +kernel
theorem dX8_hang_65 : decode cX8_hang 65 = .ok (.imul, 1) := by decide +kernel
theorem dX8_hang_66 : decode cX8_hang 66 = .ok (.iadd, 1) := by decide +kernel
theorem dX8_hang_67 : decode cX8_hang 67 = .ok (.iconst 2, 1) := by decide +kernel
theorem dX8_hang_68 : decode cX8_hang 68 = .ok (.iadd, 1) := by decide +kernel
theorem dX8_hang_69 : decode cX8_hang 69 = .ok (.iload_n 2, 1) := by decide +kernel
theorem dX8_hang_70 : decode cX8_hang 70 = .ok (.iastore, 1) := by decide +kernel
theorem dX8_hang_71 : decode cX8_hang 71 = .ok (.iload_n 3, 1) := by decide +kernel
theorem dX8_hang_72 : decode cX8_hang 72 = .ok (.ireturn, 1) := by decide +kernel
theorem dX8_salt_0 : decode cX8_salt 0 = .ok (.aload_n 0, 1) := by decide +kernel
theorem dX8_salt_1 : decode cX8_salt 1 = .ok (.iconst 0, 1) := by decide +kernel
theorem dX8_salt_2 : decode cX8_salt 2 = .ok (.putfield 50, 3) := by decide +kernel
theorem dX8_salt_5 : decode cX8_salt 5 = .ok (.aload_n 0, 1) := by decide +kernel
theorem dX8_salt_6 : decode cX8_salt 6 = .ok (.iload_n 1, 1) := by decide +kernel
theorem dX8_salt_7 : decode cX8_salt 7 = .ok (.invokevirtual 193, 3) := by decide +kernel
theorem dX8_salt_10 : decode cX8_salt 10 = .ok (.ifCond .ne 6, 3) := by decide +kernel
theorem dX8_salt_13 : decode cX8_salt 13 = .ok (.ldc 70, 2) := by decide +kernel
theorem dX8_salt_15 : decode cX8_salt 15 = .ok (.ireturn, 1) := by decide +kernel
theorem dX8_salt_16 : decode cX8_salt 16 = .ok (.aload_n 0, 1) := by decide +kernel
theorem dX8_salt_17 : decode cX8_salt 17 = .ok (.getfield 19, 3) := by decide +kernel
theorem dX8_salt_20 : decode cX8_salt 20 = .ok (.iload_n 1, 1) := by decide +kernel
theorem dX8_salt_21 : decode cX8_salt 21 = .ok (.iconst 3, 1) := by decide +kernel
theorem dX8_salt_22 : decode cX8_salt 22 = .ok (.invokestatic 155, 3) := by decide +kernel
theorem dX8_salt_25 : decode cX8_salt 25 = .ok (.bipush 19, 2) := by decide +kernel
theorem dX8_salt_27 : decode cX8_salt 27 = .ok (.if_icmp .ne 6, 3) := by decide +kernel
theorem dX8_salt_30 : decode cX8_salt 30 = .ok (.ldc 80, 2) := by decide +kernel
theorem dX8_salt_32 : decode cX8_salt 32 = .ok (.ireturn, 1) := by decide +kernel
theorem dX8_salt_33 : decode cX8_salt 33 = .ok (.aload_n 0, 1) := by decide +kernel
theorem dX8_salt_34 : decode cX8_salt 34 = .ok (.invokevirtual 190, 3) := by decide +kernel
theorem dX8_salt_37 : decode cX8_salt 37 = .ok (.aload_n 0, 1) := by decide +kernel
theorem dX8_salt_38 : decode cX8_salt 38 = .ok (.getfield 19, 3) := by decide +kernel
theorem dX8_salt_41 : decode cX8_salt 41 = .ok (.bipush 6, 2) := by decide +kernel
theorem dX8_salt_43 : decode cX8_salt 43 = .ok (.iconst 5, 1) := by decide +kernel
theorem dX8_salt_44 : decode cX8_salt 44 = .ok (.iload_n 1, 1) := by decide +kernel
theorem dX8_salt_45 : decode cX8_salt 45 = .ok (.imul, 1) := by decide +kernel
theorem dX8_salt_46 : decode cX8_salt 46 = .ok (.iadd, 1) := by decide +kernel
theorem dX8_salt_47 : decode cX8_salt 47 = .ok (.iconst 3, 1) := by decide +kernel
theorem dX8_salt_48 : decode cX8_salt 48 = .ok (.iadd, 1) := by decide +kernel
theorem dX8_salt_49 : decode cX8_salt 49 = .ok (.dup2, 1) := by decide +kernel
theorem dX8_salt_50 : decode cX8_salt 50 = .ok (.iaload, 1) := by decide +kernel
theorem dX8_salt_51 : decode cX8_salt 51 = .ok (.iconst 1, 1) := by decide +kernel
theorem dX8_salt_52 : decode cX8_salt 52 = .ok (.iadd, 1) := by decide +kernel
theorem dX8_salt_53 : decode cX8_salt 53 = .ok (.iastore, 1) := by decide +kernel
theorem dX8_salt_54 : decode cX8_salt 54 = .ok (.aload_n 0, 1) := by decide +kernel
theorem dX8_salt_55 : decode cX8_salt 55 = .ok (.getfield 19, 3) := by decide +kernel
theorem dX8_salt_58 : decode cX8_salt 58 = .ok (.iload_n 1, 1) := by decide +kernel
theorem dX8_salt_59 : decode cX8_salt 59 = .ok (.iconst 3, 1) := by decide +kernel
theorem dX8_salt_60 : decode cX8_salt 60 = .ok (.invokestatic 155, 3) := by decide +kernel
theorem dX8_salt_63 : decode cX8_salt 63 = .ok (.ireturn, 1) := by decide +kernel
theorem dX8_transcribe_0 : decode cX8_transcribe 0 = .ok (.aload_n 0, 1) := by decide +kernel
theorem dX8_transcribe_1 : decode cX8_transcribe 1 = .ok (.iconst 0, 1) := by decide +kernel
theorem dX8_transcribe_2 : decode cX8_transcribe 2 = .ok (.putfield 50, 3) := by decide +kernel
theorem dX8_transcribe_5 : decode cX8_transcribe 5 = .ok (.aload_n 0, 1) := by decide +kernel
theorem dX8_transcribe_6 : decode cX8_transcribe 6 = .ok (.iload_n 1, 1) := by decide +kernel
theorem dX8_transcribe_7 : decode cX8_transcribe 7 = .ok (.invokevirtual 193, 3) := by decide +kernel
theorem dX8_transcribe_10 : decode cX8_transcribe 10 = .ok (.ifCond .ne 6, 3) := by decide +kernel
theorem dX8_transcribe_13 : decode cX8_transcribe 13 = .ok (.ldc 70, 2) := by decide +kernel
theorem dX8_transcribe_15 : decode cX8_transcribe 15 = .ok (.ireturn, 1) := by decide +kernel
theorem dX8_transcribe_16 : decode cX8_transcribe 16 = .ok (.aload_n 0, 1) := by decide +kernel
theorem dX8_transcribe_17 : decode cX8_transcribe 17 = .ok (.invokevirtual 190, 3) := by decide +kernel
theorem dX8_transcribe_20 : decode cX8_transcribe 20 = .ok (.aload_n 0, 1) := by decide +kernel
theorem dX8_transcribe_21 : decode cX8_transcribe 21 = .ok (.getfield 19, 3) := by decide +kernel
theorem dX8_transcribe_24 : decode cX8_transcribe 24 = .ok (.iload_n 1, 1) := by decide +kernel
theorem dX8_transcribe_25 : decode cX8_transcribe 25 = .ok (.iconst 4, 1) := by decide +kernel
theorem dX8_transcribe_26 : decode cX8_transcribe 26 = .ok (.invokestatic 155, 3) := by decide +kernel
theorem dX8_transcribe_29 : decode cX8_transcribe 29 = .ok (.istore_n 2, 1) := by decide +kernel
theorem dX8_transcribe_30 : decode cX8_transcribe 30 = .ok (.aload_n 0, 1) := by decide +kernel
theorem dX8_transcribe_31 : decode cX8_transcribe 31 = .ok (.getfield 19, 3) := by decide +kernel
theorem dX8_transcribe_34 : decode cX8_transcribe 34 = .ok (.bipush 6, 2) := by decide +kernel
theorem dX8_transcribe_36 : decode cX8_transcribe 36 = .ok (.iconst 5, 1) := by decide +kernel
theorem dX8_transcribe_37 : decode cX8_transcribe 37 = .ok (.iload_n 1, 1) := by decide +kernel
theorem dX8_transcribe_38 : decode cX8_transcribe 38 = .ok (.imul, 1) := by decide +kernel
theorem dX8_transcribe_39 : decode cX8_transcribe 39 = .ok (.iadd, 1) := by decide +kernel
theorem dX8_transcribe_40 : decode cX8_transcribe 40 = .ok (.iconst 4, 1) := by decide +kernel
theorem dX8_transcribe_41 : decode cX8_transcribe 41 = .ok (.iadd, 1) := by decide +kernel
theorem dX8_transcribe_42 : decode cX8_transcribe 42 = .ok (.aload_n 0, 1) := by decide +kernel
theorem dX8_transcribe_43 : decode cX8_transcribe 43 = .ok (.getfield 19, 3) := by decide +kernel
theorem dX8_transcribe_46 : decode cX8_transcribe 46 = .ok (.iload_n 1, 1) := by decide +kernel
theorem dX8_transcribe_47 : decode cX8_transcribe 47 = .ok (.iconst 1, 1) := by decide +kernel
theorem dX8_transcribe_48 : decode cX8_transcribe 48 = .ok (.invokestatic 155, 3) := by decide +kernel
theorem dX8_transcribe_51 : decode cX8_transcribe 51 = .ok (.iastore, 1) := by decide +kernel
theorem dX8_transcribe_52 : decode cX8_transcribe 52 = .ok (.iload_n 2, 1) := by decide +kernel
theorem dX8_transcribe_53 : decode cX8_transcribe 53 = .ok (.ireturn, 1) := by decide +kernel
theorem dX8_drive_0 : decode cX8_drive 0 = .ok (.aload_n 0, 1) := by decide +kernel
theorem dX8_drive_1 : decode cX8_drive 1 = .ok (.iconst 0, 1) := by decide +kernel
theorem dX8_drive_2 : decode cX8_drive 2 = .ok (.putfield 50, 3) := by decide +kernel
theorem dX8_drive_5 : decode cX8_drive 5 = .ok (.aload_n 0, 1) := by decide +kernel
theorem dX8_drive_6 : decode cX8_drive 6 = .ok (.iload_n 1, 1) := by decide +kernel
theorem dX8_drive_7 : decode cX8_drive 7 = .ok (.invokevirtual 198, 3) := by decide +kernel
theorem dX8_drive_10 : decode cX8_drive 10 = .ok (.ifCond .eq 15, 3) := by decide +kernel
theorem dX8_drive_13 : decode cX8_drive 13 = .ok (.iload_n 2, 1) := by decide +kernel
theorem dX8_drive_14 : decode cX8_drive 14 = .ok (.i2l, 1) := by decide +kernel
theorem dX8_drive_15 : decode cX8_drive 15 = .ok (.lconst 0, 1) := by decide +kernel
theorem dX8_drive_16 : decode cX8_drive 16 = .ok (.ldc2_w 201, 3) := by decide +kernel
theorem dX8_drive_19 : decode cX8_drive 19 = .ok (.invokestatic 60, 3) := by decide +kernel
theorem dX8_drive_22 : decode cX8_drive 22 = .ok (.ifCond .ne 6, 3) := by decide +kernel
theorem dX8_drive_25 : decode cX8_drive 25 = .ok (.ldc 70, 2) := by decide +kernel
theorem dX8_drive_27 : decode cX8_drive 27 = .ok (.ireturn, 1) := by decide +kernel
theorem dX8_drive_28 : decode cX8_drive 28 = .ok (.aload_n 0, 1) := by decide +kernel
theorem dX8_drive_29 : decode cX8_drive 29 = .ok (.invokevirtual 190, 3) := by decide +kernel
theorem dX8_drive_32 : decode cX8_drive 32 = .ok (.aload_n 0, 1) := by decide +kernel
theorem dX8_drive_33 : decode cX8_drive 33 = .ok (.getfield 19, 3) := by decide +kernel
theorem dX8_drive_36 : decode cX8_drive 36 = .ok (.iload_n 1, 1) := by decide +kernel
theorem dX8_drive_37 : decode cX8_drive 37 = .ok (.iconst 2, 1) := by decide +kernel
theorem dX8_drive_38 : decode cX8_drive 38 = .ok (.invokestatic 159, 3) := by decide +kernel
theorem dX8_drive_41 : decode cX8_drive 41 = .ok (.istore_n 3, 1) := by decide +kernel
theorem dX8_drive_42 : decode cX8_drive 42 = .ok (.aload_n 0, 1) := by decide +kernel
theorem dX8_drive_43 : decode cX8_drive 43 = .ok (.getfield 19, 3) := by decide +kernel
theorem dX8_drive_46 : decode cX8_drive 46 = .ok (.bipush 41, 2) := by decide +kernel
theorem dX8_drive_48 : decode cX8_drive 48 = .ok (.iconst 3, 1) := by decide +kernel
theorem dX8_drive_49 : decode cX8_drive 49 = .ok (.iload_n 1, 1) := by decide +kernel
theorem dX8_drive_50 : decode cX8_drive 50 = .ok (.imul, 1) := by decide +kernel
theorem dX8_drive_51 : decode cX8_drive 51 = .ok (.iadd, 1) := by decide +kernel
theorem dX8_drive_52 : decode cX8_drive 52 = .ok (.iconst 2, 1) := by decide +kernel
theorem dX8_drive_53 : decode cX8_drive 53 = .ok (.iadd, 1) := by decide +kernel
theorem dX8_drive_54 : decode cX8_drive 54 = .ok (.iload_n 2, 1) := by decide +kernel
theorem dX8_drive_55 : decode cX8_drive 55 = .ok (.iastore, 1) := by decide +kernel
theorem dX8_drive_56 : decode cX8_drive 56 = .ok (.iload_n 3, 1) := by decide +kernel
theorem dX8_drive_57 : decode cX8_drive 57 = .ok (.ireturn, 1) := by decide +kernel
theorem dX8_fodder_0 : decode cX8_fodder 0 = .ok (.aload_n 0, 1) := by decide +kernel
theorem dX8_fodder_1 : decode cX8_fodder 1 = .ok (.iconst 0, 1) := by decide +kernel
theorem dX8_fodder_2 : decode cX8_fodder 2 = .ok (.putfield 50, 3) := by decide +kernel
theorem dX8_fodder_5 : decode cX8_fodder 5 = .ok (.aload_n 0, 1) := by decide +kernel
theorem dX8_fodder_6 : decode cX8_fodder 6 = .ok (.iload_n 1, 1) := by decide +kernel
theorem dX8_fodder_7 : decode cX8_fodder 7 = .ok (.invokevirtual 198, 3) := by decide +kernel
theorem dX8_fodder_10 : decode cX8_fodder 10 = .ok (.ifCond .ne 6, 3) := by decide +kernel
theorem dX8_fodder_13 : decode cX8_fodder 13 = .ok (.ldc 70, 2) := by decide +kernel
theorem dX8_fodder_15 : decode cX8_fodder 15 = .ok (.ireturn, 1) := by decide +kernel
theorem dX8_fodder_16 : decode cX8_fodder 16 = .ok (.aload_n 0, 1) := by decide +kernel
theorem dX8_fodder_17 : decode cX8_fodder 17 = .ok (.invokevirtual 190, 3) := by decide +kernel
theorem dX8_fodder_20 : decode cX8_fodder 20 = .ok (.aload_n 0, 1) := by decide +kernel
theorem dX8_fodder_21 : decode cX8_fodder 21 = .ok (.getfield 19, 3) := by decide +kernel
theorem dX8_fodder_24 : decode cX8_fodder 24 = .ok (.iload_n 1, 1) := by decide +kernel
theorem dX8_fodder_25 : decode cX8_fodder 25 = .ok (.iconst 0, 1) := by decide +kernel
theorem dX8_fodder_26 : decode cX8_fodder 26 = .ok (.invokestatic 159, 3) := by decide +kernel
theorem dX8_fodder_29 : decode cX8_fodder 29 = .ok (.istore_n 2, 1) := by decide +kernel
theorem dX8_fodder_30 : decode cX8_fodder 30 = .ok (.aload_n 0, 1) := by decide +kernel
theorem dX8_fodder_31 : decode cX8_fodder 31 = .ok (.getfield 19, 3) := by decide +kernel
theorem dX8_fodder_34 : decode cX8_fodder 34 = .ok (.bipush 41, 2) := by decide +kernel
theorem dX8_fodder_36 : decode cX8_fodder 36 = .ok (.iconst 3, 1) := by decide +kernel
theorem dX8_fodder_37 : decode cX8_fodder 37 = .ok (.iload_n 1, 1) := by decide +kernel
theorem dX8_fodder_38 : decode cX8_fodder 38 = .ok (.imul, 1) := by decide +kernel
theorem dX8_fodder_39 : decode cX8_fodder 39 = .ok (.iadd, 1) := by decide +kernel
theorem dX8_fodder_40 : decode cX8_fodder 40 = .ok (.iconst 0, 1) := by decide +kernel
theorem dX8_fodder_41 : decode cX8_fodder 41 = .ok (.iastore, 1) := by decide +kernel
theorem dX8_fodder_42 : decode cX8_fodder 42 = .ok (.iload_n 2, 1) := by decide +kernel
theorem dX8_fodder_43 : decode cX8_fodder 43 = .ok (.ireturn, 1) := by decide +kernel
theorem dX8_undo_0 : decode cX8_undo 0 = .ok (.aload_n 0, 1) := by decide +kernel
theorem dX8_undo_1 : decode cX8_undo 1 = .ok (.iconst 0, 1) := by decide +kernel
theorem dX8_undo_2 : decode cX8_undo 2 = .ok (.putfield 50, 3) := by decide +kernel
theorem dX8_undo_5 : decode cX8_undo 5 = .ok (.aload_n 0, 1) := by decide +kernel
theorem dX8_undo_6 : decode cX8_undo 6 = .ok (.getfield 152, 3) := by decide +kernel
theorem dX8_undo_9 : decode cX8_undo 9 = .ok (.ifCond .ne 6, 3) := by decide +kernel
theorem dX8_undo_12 : decode cX8_undo 12 = .ok (.ldc 187, 2) := by decide +kernel
theorem dX8_undo_14 : decode cX8_undo 14 = .ok (.ireturn, 1) := by decide +kernel
theorem dX8_undo_15 : decode cX8_undo 15 = .ok (.aload_n 0, 1) := by decide +kernel
theorem dX8_undo_16 : decode cX8_undo 16 = .ok (.dup, 1) := by decide +kernel
theorem dX8_undo_17 : decode cX8_undo 17 = .ok (.getfield 152, 3) := by decide +kernel
theorem dX8_undo_20 : decode cX8_undo 20 = .ok (.iconst 1, 1) := by decide +kernel
theorem dX8_undo_21 : decode cX8_undo 21 = .ok (.isub, 1) := by decide +kernel
theorem dX8_undo_22 : decode cX8_undo 22 = .ok (.putfield 152, 3) := by decide +kernel
theorem dX8_undo_25 : decode cX8_undo 25 = .ok (.iconst 0, 1) := by decide +kernel
theorem dX8_undo_26 : decode cX8_undo 26 = .ok (.istore_n 1, 1) := by decide +kernel
theorem dX8_undo_27 : decode cX8_undo 27 = .ok (.iload_n 1, 1) := by decide +kernel
theorem dX8_undo_28 : decode cX8_undo 28 = .ok (.bipush 53, 2) := by decide +kernel
theorem dX8_undo_30 : decode cX8_undo 30 = .ok (.if_icmp .ge 29, 3) := by decide +kernel
theorem dX8_undo_33 : decode cX8_undo 33 = .ok (.aload_n 0, 1) := by decide +kernel
theorem dX8_undo_34 : decode cX8_undo 34 = .ok (.getfield 19, 3) := by decide +kernel
theorem dX8_undo_37 : decode cX8_undo 37 = .ok (.iload_n 1, 1) := by decide +kernel
theorem dX8_undo_38 : decode cX8_undo 38 = .ok (.aload_n 0, 1) := by decide +kernel
theorem dX8_undo_39 : decode cX8_undo 39 = .ok (.getfield 28, 3) := by decide +kernel
theorem dX8_undo_42 : decode cX8_undo 42 = .ok (.bipush 53, 2) := by decide +kernel
theorem dX8_undo_44 : decode cX8_undo 44 = .ok (.aload_n 0, 1) := by decide +kernel
theorem dX8_undo_45 : decode cX8_undo 45 = .ok (.getfield 152, 3) := by decide +kernel
theorem dX8_undo_48 : decode cX8_undo 48 = .ok (.imul, 1) := by decide +kernel
theorem dX8_undo_49 : decode cX8_undo 49 = .ok (.iload_n 1, 1) := by decide +kernel
theorem dX8_undo_50 : decode cX8_undo 50 = .ok (.iadd, 1) := by decide +kernel
theorem dX8_undo_51 : decode cX8_undo 51 = .ok (.iaload, 1) := by decide +kernel
theorem dX8_undo_52 : decode cX8_undo 52 = .ok (.iastore, 1) := by decide +kernel
theorem dX8_undo_53 : decode cX8_undo 53 = .ok (.iinc 1 1, 3) := by decide +kernel
theorem dX8_undo_56 : decode cX8_undo 56 = .ok (.goto (-29), 3) := by decide +kernel
theorem dX8_undo_59 : decode cX8_undo 59 = .ok (.aload_n 0, 1) := by decide +kernel
theorem dX8_undo_60 : decode cX8_undo 60 = .ok (.getfield 152, 3) := by decide +kernel
theorem dX8_undo_63 : decode cX8_undo 63 = .ok (.ireturn, 1) := by decide +kernel
theorem dX8_leaf_0 : decode cX8_leaf 0 = .ok (.aload_n 0, 1) := by decide +kernel
theorem dX8_leaf_1 : decode cX8_leaf 1 = .ok (.iconst 0, 1) := by decide +kernel
theorem dX8_leaf_2 : decode cX8_leaf 2 = .ok (.putfield 50, 3) := by decide +kernel
theorem dX8_leaf_5 : decode cX8_leaf 5 = .ok (.aload_n 0, 1) := by decide +kernel
theorem dX8_leaf_6 : decode cX8_leaf 6 = .ok (.iload_n 1, 1) := by decide +kernel
theorem dX8_leaf_7 : decode cX8_leaf 7 = .ok (.invokevirtual 193, 3) := by decide +kernel
theorem dX8_leaf_10 : decode cX8_leaf 10 = .ok (.ifCond .eq 15, 3) := by decide +kernel
theorem dX8_leaf_13 : decode cX8_leaf 13 = .ok (.iload_n 2, 1) := by decide +kernel
theorem dX8_leaf_14 : decode cX8_leaf 14 = .ok (.i2l, 1) := by decide +kernel
theorem dX8_leaf_15 : decode cX8_leaf 15 = .ok (.lconst 0, 1) := by decide +kernel
theorem dX8_leaf_16 : decode cX8_leaf 16 = .ok (.ldc2_w 203, 3) := by decide +kernel
theorem dX8_leaf_19 : decode cX8_leaf 19 = .ok (.invokestatic 60, 3) := by decide +kernel
theorem dX8_leaf_22 : decode cX8_leaf 22 = .ok (.ifCond .ne 6, 3) := by decide +kernel
theorem dX8_leaf_25 : decode cX8_leaf 25 = .ok (.ldc 70, 2) := by decide +kernel
theorem dX8_leaf_27 : decode cX8_leaf 27 = .ok (.ireturn, 1) := by decide +kernel
theorem dX8_leaf_28 : decode cX8_leaf 28 = .ok (.iload_n 2, 1) := by decide +kernel
theorem dX8_leaf_29 : decode cX8_leaf 29 = .ok (.iconst 4, 1) := by decide +kernel
theorem dX8_leaf_30 : decode cX8_leaf 30 = .ok (.if_icmp .ge 17, 3) := by decide +kernel
theorem dX8_leaf_33 : decode cX8_leaf 33 = .ok (.aload_n 0, 1) := by decide +kernel
theorem dX8_leaf_34 : decode cX8_leaf 34 = .ok (.getfield 19, 3) := by decide +kernel
theorem dX8_leaf_37 : decode cX8_leaf 37 = .ok (.iload_n 1, 1) := by decide +kernel
theorem dX8_leaf_38 : decode cX8_leaf 38 = .ok (.iconst 1, 1) := by decide +kernel
theorem dX8_leaf_39 : decode cX8_leaf 39 = .ok (.iload_n 2, 1) := by decide +kernel
theorem dX8_leaf_40 : decode cX8_leaf 40 = .ok (.iadd, 1) := by decide +kernel
theorem dX8_leaf_41 : decode cX8_leaf 41 = .ok (.invokestatic 155, 3) := by decide +kernel
theorem dX8_leaf_44 : decode cX8_leaf 44 = .ok (.goto 51, 3) := by decide +kernel
theorem dX8_leaf_47 : decode cX8_leaf 47 = .ok (.iload_n 2, 1) := by decide +kernel
theorem dX8_leaf_48 : decode cX8_leaf 48 = .ok (.iconst 4, 1) := by decide +kernel
theorem dX8_leaf_49 : decode cX8_leaf 49 = .ok (.if_icmp .ne 14, 3) := by decide +kernel
theorem dX8_leaf_52 : decode cX8_leaf 52 = .ok (.aload_n 0, 1) := by decide +kernel
theorem dX8_leaf_53 : decode cX8_leaf 53 = .ok (.getfield 19, 3) := by decide +kernel
theorem dX8_leaf_56 : decode cX8_leaf 56 = .ok (.iload_n 1, 1) := by decide +kernel
theorem dX8_leaf_57 : decode cX8_leaf 57 = .ok (.invokestatic 162, 3) := by decide +kernel
theorem dX8_leaf_60 : decode cX8_leaf 60 = .ok (.goto 35, 3) := by decide +kernel
theorem dX8_leaf_63 : decode cX8_leaf 63 = .ok (.aload_n 0, 1) := by decide +kernel
theorem dX8_leaf_64 : decode cX8_leaf 64 = .ok (.getfield 19, 3) := by decide +kernel
theorem dX8_leaf_67 : decode cX8_leaf 67 = .ok (.iload_n 1, 1) := by decide +kernel
theorem dX8_leaf_68 : decode cX8_leaf 68 = .ok (.invokestatic 173, 3) := by decide +kernel
theorem dX8_leaf_71 : decode cX8_leaf 71 = .ok (.ifCond .eq 7, 3) := by decide +kernel
theorem dX8_leaf_74 : decode cX8_leaf 74 = .ok (.iconst 2, 1) := by decide +kernel
theorem dX8_leaf_75 : decode cX8_leaf 75 = .ok (.goto 20, 3) := by decide +kernel
theorem dX8_leaf_78 : decode cX8_leaf 78 = .ok (.aload_n 0, 1) := by decide +kernel
theorem dX8_leaf_79 : decode cX8_leaf 79 = .ok (.getfield 19, 3) := by decide +kernel
theorem dX8_leaf_82 : decode cX8_leaf 82 = .ok (.iload_n 1, 1) := by decide +kernel
theorem dX8_leaf_83 : decode cX8_leaf 83 = .ok (.iconst 4, 1) := by decide +kernel
theorem dX8_leaf_84 : decode cX8_leaf 84 = .ok (.invokestatic 155, 3) := by decide +kernel
theorem dX8_leaf_87 : decode cX8_leaf 87 = .ok (.ifCond .le 7, 3) := by decide +kernel
theorem dX8_leaf_90 : decode cX8_leaf 90 = .ok (.iconst 1, 1) := by decide +kernel
theorem dX8_leaf_91 : decode cX8_leaf 91 = .ok (.goto 4, 3) := by decide +kernel
theorem dX8_leaf_94 : decode cX8_leaf 94 = .ok (.iconst 0, 1) := by decide +kernel
theorem dX8_leaf_95 : decode cX8_leaf 95 = .ok (.ireturn, 1) := by decide +kernel
theorem dX8_goat_0 : decode cX8_goat 0 = .ok (.aload_n 0, 1) := by decide +kernel
theorem dX8_goat_1 : decode cX8_goat 1 = .ok (.iconst 0, 1) := by decide +kernel
theorem dX8_goat_2 : decode cX8_goat 2 = .ok (.putfield 50, 3) := by decide +kernel
theorem dX8_goat_5 : decode cX8_goat 5 = .ok (.aload_n 0, 1) := by decide +kernel
theorem dX8_goat_6 : decode cX8_goat 6 = .ok (.iload_n 1, 1) := by decide +kernel
theorem dX8_goat_7 : decode cX8_goat 7 = .ok (.invokevirtual 198, 3) := by decide +kernel
theorem dX8_goat_10 : decode cX8_goat 10 = .ok (.ifCond .eq 15, 3) := by decide +kernel
theorem dX8_goat_13 : decode cX8_goat 13 = .ok (.iload_n 2, 1) := by decide +kernel
theorem dX8_goat_14 : decode cX8_goat 14 = .ok (.i2l, 1) := by decide +kernel
theorem dX8_goat_15 : decode cX8_goat 15 = .ok (.lconst 0, 1) := by decide +kernel
theorem dX8_goat_16 : decode cX8_goat 16 = .ok (.ldc2_w 205, 3) := by decide +kernel
theorem dX8_goat_19 : decode cX8_goat 19 = .ok (.invokestatic 60, 3) := by decide +kernel
theorem dX8_goat_22 : decode cX8_goat 22 = .ok (.ifCond .ne 6, 3) := by decide +kernel
theorem dX8_goat_25 : decode cX8_goat 25 = .ok (.ldc 70, 2) := by decide +kernel
theorem dX8_goat_27 : decode cX8_goat 27 = .ok (.ireturn, 1) := by decide +kernel
theorem dX8_goat_28 : decode cX8_goat 28 = .ok (.iload_n 2, 1) := by decide +kernel
theorem dX8_goat_29 : decode cX8_goat 29 = .ok (.iconst 3, 1) := by decide +kernel
theorem dX8_goat_30 : decode cX8_goat 30 = .ok (.if_icmp .ge 15, 3) := by decide +kernel
theorem dX8_goat_33 : decode cX8_goat 33 = .ok (.aload_n 0, 1) := by decide +kernel
theorem dX8_goat_34 : decode cX8_goat 34 = .ok (.getfield 19, 3) := by decide +kernel
theorem dX8_goat_37 : decode cX8_goat 37 = .ok (.iload_n 1, 1) := by decide +kernel
theorem dX8_goat_38 : decode cX8_goat 38 = .ok (.iload_n 2, 1) := by decide +kernel
theorem dX8_goat_39 : decode cX8_goat 39 = .ok (.invokestatic 159, 3) := by decide +kernel
theorem dX8_goat_42 : decode cX8_goat 42 = .ok (.goto 11, 3) := by decide +kernel
theorem dX8_goat_45 : decode cX8_goat 45 = .ok (.aload_n 0, 1) := by decide +kernel
theorem dX8_goat_46 : decode cX8_goat 46 = .ok (.getfield 19, 3) := by decide +kernel
theorem dX8_goat_49 : decode cX8_goat 49 = .ok (.iload_n 1, 1) := by decide +kernel
theorem dX8_goat_50 : decode cX8_goat 50 = .ok (.invokestatic 166, 3) := by decide +kernel
theorem dX8_goat_53 : decode cX8_goat 53 = .ok (.ireturn, 1) := by decide +kernel
theorem dX8_ahead_0 : decode cX8_ahead 0 = .ok (.aload_n 0, 1) := by decide +kernel
theorem dX8_ahead_1 : decode cX8_ahead 1 = .ok (.iconst 0, 1) := by decide +kernel
theorem dX8_ahead_2 : decode cX8_ahead 2 = .ok (.putfield 50, 3) := by decide +kernel
theorem dX8_ahead_5 : decode cX8_ahead 5 = .ok (.aload_n 0, 1) := by decide +kernel
theorem dX8_ahead_6 : decode cX8_ahead 6 = .ok (.iload_n 1, 1) := by decide +kernel
theorem dX8_ahead_7 : decode cX8_ahead 7 = .ok (.invokevirtual 193, 3) := by decide +kernel
theorem dX8_ahead_10 : decode cX8_ahead 10 = .ok (.ifCond .eq 15, 3) := by decide +kernel
theorem dX8_ahead_13 : decode cX8_ahead 13 = .ok (.iload_n 2, 1) := by decide +kernel
theorem dX8_ahead_14 : decode cX8_ahead 14 = .ok (.i2l, 1) := by decide +kernel
theorem dX8_ahead_15 : decode cX8_ahead 15 = .ok (.lconst 0, 1) := by decide +kernel
theorem dX8_ahead_16 : decode cX8_ahead 16 = .ok (.ldc2_w 201, 3) := by decide +kernel
theorem dX8_ahead_19 : decode cX8_ahead 19 = .ok (.invokestatic 60, 3) := by decide +kernel
theorem dX8_ahead_22 : decode cX8_ahead 22 = .ok (.ifCond .ne 6, 3) := by decide +kernel
theorem dX8_ahead_25 : decode cX8_ahead 25 = .ok (.ldc 70, 2) := by decide +kernel
theorem dX8_ahead_27 : decode cX8_ahead 27 = .ok (.ireturn, 1) := by decide +kernel
theorem dX8_ahead_28 : decode cX8_ahead 28 = .ok (.aload_n 0, 1) := by decide +kernel
theorem dX8_ahead_29 : decode cX8_ahead 29 = .ok (.invokevirtual 177, 3) := by decide +kernel
theorem dX8_ahead_32 : decode cX8_ahead 32 = .ok (.aload_n 0, 1) := by decide +kernel
theorem dX8_ahead_33 : decode cX8_ahead 33 = .ok (.aload_n 0, 1) := by decide +kernel
theorem dX8_ahead_34 : decode cX8_ahead 34 = .ok (.getfield 25, 3) := by decide +kernel
theorem dX8_ahead_37 : decode cX8_ahead 37 = .ok (.iload_n 2, 1) := by decide +kernel
theorem dX8_ahead_38 : decode cX8_ahead 38 = .ok (.invokevirtual 207, 3) := by decide +kernel
theorem dX8_ahead_41 : decode cX8_ahead 41 = .ok (.istore_n 3, 1) := by decide +kernel
theorem dX8_ahead_42 : decode cX8_ahead 42 = .ok (.aload_n 0, 1) := by decide +kernel
theorem dX8_ahead_43 : decode cX8_ahead 43 = .ok (.getfield 25, 3) := by decide +kernel
theorem dX8_ahead_46 : decode cX8_ahead 46 = .ok (.iload_n 1, 1) := by decide +kernel
theorem dX8_ahead_47 : decode cX8_ahead 47 = .ok (.iconst 4, 1) := by decide +kernel
theorem dX8_ahead_48 : decode cX8_ahead 48 = .ok (.invokestatic 155, 3) := by decide +kernel
theorem dX8_ahead_51 : decode cX8_ahead 51 = .ok (.ireturn, 1) := by decide +kernel
theorem dX8_force_0 : decode cX8_force 0 = .ok (.aload_n 0, 1) := by decide +kernel
theorem dX8_force_1 : decode cX8_force 1 = .ok (.iconst 0, 1) := by decide +kernel
theorem dX8_force_2 : decode cX8_force 2 = .ok (.putfield 50, 3) := by decide +kernel
theorem dX8_force_5 : decode cX8_force 5 = .ok (.aload_n 0, 1) := by decide +kernel
theorem dX8_force_6 : decode cX8_force 6 = .ok (.invokevirtual 184, 3) := by decide +kernel
theorem dX8_force_9 : decode cX8_force 9 = .ok (.ifCond .ne 6, 3) := by decide +kernel
theorem dX8_force_12 : decode cX8_force 12 = .ok (.ldc 187, 2) := by decide +kernel
theorem dX8_force_14 : decode cX8_force 14 = .ok (.ireturn, 1) := by decide +kernel
theorem dX8_force_15 : decode cX8_force 15 = .ok (.iload_n 1, 1) := by decide +kernel
theorem dX8_force_16 : decode cX8_force 16 = .ok (.i2l, 1) := by decide +kernel
theorem dX8_force_17 : decode cX8_force 17 = .ok (.lconst 0, 1) := by decide +kernel
theorem dX8_force_18 : decode cX8_force 18 = .ok (.ldc2_w 201, 3) := by decide +kernel
theorem dX8_force_21 : decode cX8_force 21 = .ok (.invokestatic 60, 3) := by decide +kernel
theorem dX8_force_24 : decode cX8_force 24 = .ok (.ifCond .ne 6, 3) := by decide +kernel
theorem dX8_force_27 : decode cX8_force 27 = .ok (.ldc 70, 2) := by decide +kernel
theorem dX8_force_29 : decode cX8_force 29 = .ok (.ireturn, 1) := by decide +kernel
theorem dX8_force_30 : decode cX8_force 30 = .ok (.aload_n 0, 1) := by decide +kernel
theorem dX8_force_31 : decode cX8_force 31 = .ok (.invokevirtual 177, 3) := by decide +kernel
theorem dX8_force_34 : decode cX8_force 34 = .ok (.aload_n 0, 1) := by decide +kernel
theorem dX8_force_35 : decode cX8_force 35 = .ok (.aload_n 0, 1) := by decide +kernel
theorem dX8_force_36 : decode cX8_force 36 = .ok (.getfield 25, 3) := by decide +kernel
theorem dX8_force_39 : decode cX8_force 39 = .ok (.iload_n 1, 1) := by decide +kernel
theorem dX8_force_40 : decode cX8_force 40 = .ok (.invokevirtual 207, 3) := by decide +kernel
theorem dX8_force_43 : decode cX8_force 43 = .ok (.istore_n 2, 1) := by decide +kernel
theorem dX8_force_44 : decode cX8_force 44 = .ok (.aload_n 0, 1) := by decide +kernel
theorem dX8_force_45 : decode cX8_force 45 = .ok (.getfield 25, 3) := by decide +kernel
theorem dX8_force_48 : decode cX8_force 48 = .ok (.invokestatic 210, 3) := by decide +kernel
theorem dX8_force_51 : decode cX8_force 51 = .ok (.ireturn, 1) := by decide +kernel
theorem dX8_emptied_0 : decode cX8_emptied 0 = .ok (.aload_n 0, 1) := by decide +kernel
theorem dX8_emptied_1 : decode cX8_emptied 1 = .ok (.iconst 0, 1) := by decide +kernel
theorem dX8_emptied_2 : decode cX8_emptied 2 = .ok (.putfield 50, 3) := by decide +kernel
theorem dX8_emptied_5 : decode cX8_emptied 5 = .ok (.aload_n 0, 1) := by decide +kernel
theorem dX8_emptied_6 : decode cX8_emptied 6 = .ok (.iload_n 1, 1) := by decide +kernel
theorem dX8_emptied_7 : decode cX8_emptied 7 = .ok (.invokevirtual 193, 3) := by decide +kernel
theorem dX8_emptied_10 : decode cX8_emptied 10 = .ok (.ifCond .ne 6, 3) := by decide +kernel
theorem dX8_emptied_13 : decode cX8_emptied 13 = .ok (.ldc 70, 2) := by decide +kernel
theorem dX8_emptied_15 : decode cX8_emptied 15 = .ok (.ireturn, 1) := by decide +kernel
theorem dX8_emptied_16 : decode cX8_emptied 16 = .ok (.aload_n 0, 1) := by decide +kernel
theorem dX8_emptied_17 : decode cX8_emptied 17 = .ok (.invokevirtual 177, 3) := by decide +kernel
theorem dX8_emptied_20 : decode cX8_emptied 20 = .ok (.iconst 0, 1) := by decide +kernel
theorem dX8_emptied_21 : decode cX8_emptied 21 = .ok (.istore_n 2, 1) := by decide +kernel
theorem dX8_emptied_22 : decode cX8_emptied 22 = .ok (.iload_n 2, 1) := by decide +kernel
theorem dX8_emptied_23 : decode cX8_emptied 23 = .ok (.bipush 60, 2) := by decide +kernel
theorem dX8_emptied_25 : decode cX8_emptied 25 = .ok (.if_icmp .gt 32, 3) := by decide +kernel
theorem dX8_emptied_28 : decode cX8_emptied 28 = .ok (.aload_n 0, 1) := by decide +kernel
theorem dX8_emptied_29 : decode cX8_emptied 29 = .ok (.getfield 25, 3) := by decide +kernel
theorem dX8_emptied_32 : decode cX8_emptied 32 = .ok (.iload_n 1, 1) := by decide +kernel
theorem dX8_emptied_33 : decode cX8_emptied 33 = .ok (.iconst 4, 1) := by decide +kernel
theorem dX8_emptied_34 : decode cX8_emptied 34 = .ok (.invokestatic 155, 3) := by decide +kernel
theorem dX8_emptied_37 : decode cX8_emptied 37 = .ok (.ifCond .ne 5, 3) := by decide +kernel
theorem dX8_emptied_40 : decode cX8_emptied 40 = .ok (.iload_n 2, 1) := by decide +kernel
theorem dX8_emptied_41 : decode cX8_emptied 41 = .ok (.ireturn, 1) := by decide +kernel
theorem dX8_emptied_42 : decode cX8_emptied 42 = .ok (.aload_n 0, 1) := by decide +kernel
theorem dX8_emptied_43 : decode cX8_emptied 43 = .ok (.aload_n 0, 1) := by decide +kernel
theorem dX8_emptied_44 : decode cX8_emptied 44 = .ok (.getfield 25, 3) := by decide +kernel
theorem dX8_emptied_47 : decode cX8_emptied 47 = .ok (.invokevirtual 169, 3) := by decide +kernel
theorem dX8_emptied_50 : decode cX8_emptied 50 = .ok (.istore_n 3, 1) := by decide +kernel
theorem dX8_emptied_51 : decode cX8_emptied 51 = .ok (.iinc 2 1, 3) := by decide +kernel
theorem dX8_emptied_54 : decode cX8_emptied 54 = .ok (.goto (-32), 3) := by decide +kernel
theorem dX8_emptied_57 : decode cX8_emptied 57 = .ok (.ldc 93, 2) := by decide +kernel
theorem dX8_emptied_59 : decode cX8_emptied 59 = .ok (.ireturn, 1) := by decide +kernel
theorem dX8_eats_0 : decode cX8_eats 0 = .ok (.aload_n 0, 1) := by decide +kernel
theorem dX8_eats_1 : decode cX8_eats 1 = .ok (.iconst 0, 1) := by decide +kernel
theorem dX8_eats_2 : decode cX8_eats 2 = .ok (.putfield 50, 3) := by decide +kernel
theorem dX8_eats_5 : decode cX8_eats 5 = .ok (.aload_n 0, 1) := by decide +kernel
theorem dX8_eats_6 : decode cX8_eats 6 = .ok (.iload_n 1, 1) := by decide +kernel
theorem dX8_eats_7 : decode cX8_eats 7 = .ok (.invokevirtual 198, 3) := by decide +kernel
theorem dX8_eats_10 : decode cX8_eats 10 = .ok (.ifCond .eq 15, 3) := by decide +kernel
theorem dX8_eats_13 : decode cX8_eats 13 = .ok (.iload_n 2, 1) := by decide +kernel
theorem dX8_eats_14 : decode cX8_eats 14 = .ok (.i2l, 1) := by decide +kernel
theorem dX8_eats_15 : decode cX8_eats 15 = .ok (.lconst 0, 1) := by decide +kernel
theorem dX8_eats_16 : decode cX8_eats 16 = .ok (.ldc2_w 201, 3) := by decide +kernel
theorem dX8_eats_19 : decode cX8_eats 19 = .ok (.invokestatic 60, 3) := by decide +kernel
theorem dX8_eats_22 : decode cX8_eats 22 = .ok (.ifCond .ne 6, 3) := by decide +kernel
theorem dX8_eats_25 : decode cX8_eats 25 = .ok (.ldc 70, 2) := by decide +kernel
theorem dX8_eats_27 : decode cX8_eats 27 = .ok (.ireturn, 1) := by decide +kernel
theorem dX8_eats_28 : decode cX8_eats 28 = .ok (.aload_n 0, 1) := by decide +kernel
theorem dX8_eats_29 : decode cX8_eats 29 = .ok (.invokevirtual 177, 3) := by decide +kernel
theorem dX8_eats_32 : decode cX8_eats 32 = .ok (.iconst 0, 1) := by decide +kernel
theorem dX8_eats_33 : decode cX8_eats 33 = .ok (.istore_n 3, 1) := by decide +kernel
theorem dX8_eats_34 : decode cX8_eats 34 = .ok (.iconst 0, 1) := by decide +kernel
theorem dX8_eats_35 : decode cX8_eats 35 = .ok (.istore 4, 2) := by decide +kernel
theorem dX8_eats_37 : decode cX8_eats 37 = .ok (.iload 4, 2) := by decide +kernel
theorem dX8_eats_39 : decode cX8_eats 39 = .ok (.iload_n 2, 1) := by decide +kernel
theorem dX8_eats_40 : decode cX8_eats 40 = .ok (.if_icmp .ge 28, 3) := by decide +kernel
theorem dX8_eats_43 : decode cX8_eats 43 = .ok (.aload_n 0, 1) := by decide +kernel
theorem dX8_eats_44 : decode cX8_eats 44 = .ok (.aload_n 0, 1) := by decide +kernel
theorem dX8_eats_45 : decode cX8_eats 45 = .ok (.getfield 25, 3) := by decide +kernel
theorem dX8_eats_48 : decode cX8_eats 48 = .ok (.invokevirtual 169, 3) := by decide +kernel
theorem dX8_eats_51 : decode cX8_eats 51 = .ok (.istore 5, 2) := by decide +kernel
theorem dX8_eats_53 : decode cX8_eats 53 = .ok (.iload_n 3, 1) := by decide +kernel
theorem dX8_eats_54 : decode cX8_eats 54 = .ok (.aload_n 0, 1) := by decide +kernel
theorem dX8_eats_55 : decode cX8_eats 55 = .ok (.getfield 37, 3) := by decide +kernel
theorem dX8_eats_58 : decode cX8_eats 58 = .ok (.iload_n 1, 1) := by decide +kernel
theorem dX8_eats_59 : decode cX8_eats 59 = .ok (.iaload, 1) := by decide +kernel
theorem dX8_eats_60 : decode cX8_eats 60 = .ok (.iadd, 1) := by decide +kernel
theorem dX8_eats_61 : decode cX8_eats 61 = .ok (.istore_n 3, 1) := by decide +kernel
theorem dX8_eats_62 : decode cX8_eats 62 = .ok (.iinc 4 1, 3) := by decide +kernel
theorem dX8_eats_65 : decode cX8_eats 65 = .ok (.goto (-28), 3) := by decide +kernel
theorem dX8_eats_68 : decode cX8_eats 68 = .ok (.iload_n 3, 1) := by decide +kernel
theorem dX8_eats_69 : decode cX8_eats 69 = .ok (.ireturn, 1) := by decide +kernel
theorem dX8_biters_0 : decode cX8_biters 0 = .ok (.iconst 0, 1) := by decide +kernel
theorem dX8_biters_1 : decode cX8_biters 1 = .ok (.istore_n 3, 1) := by decide +kernel
theorem dX8_biters_2 : decode cX8_biters 2 = .ok (.iconst 0, 1) := by decide +kernel
theorem dX8_biters_3 : decode cX8_biters 3 = .ok (.istore 4, 2) := by decide +kernel
theorem dX8_biters_5 : decode cX8_biters 5 = .ok (.iload 4, 2) := by decide +kernel
theorem dX8_biters_7 : decode cX8_biters 7 = .ok (.iload_n 2, 1) := by decide +kernel
theorem dX8_biters_8 : decode cX8_biters 8 = .ok (.if_icmp .ge 61, 3) := by decide +kernel
theorem dX8_biters_11 : decode cX8_biters 11 = .ok (.aload_n 0, 1) := by decide +kernel
theorem dX8_biters_12 : decode cX8_biters 12 = .ok (.aload_n 0, 1) := by decide +kernel
theorem dX8_biters_13 : decode cX8_biters 13 = .ok (.getfield 25, 3) := by decide +kernel
theorem dX8_biters_16 : decode cX8_biters 16 = .ok (.invokevirtual 169, 3) := by decide +kernel
theorem dX8_biters_19 : decode cX8_biters 19 = .ok (.istore 5, 2) := by decide +kernel
theorem dX8_biters_21 : decode cX8_biters 21 = .ok (.iconst 0, 1) := by decide +kernel
theorem dX8_biters_22 : decode cX8_biters 22 = .ok (.istore 6, 2) := by decide +kernel
theorem dX8_biters_24 : decode cX8_biters 24 = .ok (.iload 6, 2) := by decide +kernel
theorem dX8_biters_26 : decode cX8_biters 26 = .ok (.aload_n 0, 1) := by decide +kernel
theorem dX8_biters_27 : decode cX8_biters 27 = .ok (.getfield 25, 3) := by decide +kernel
theorem dX8_biters_30 : decode cX8_biters 30 = .ok (.iconst 4, 1) := by decide +kernel
theorem dX8_biters_31 : decode cX8_biters 31 = .ok (.iaload, 1) := by decide +kernel
theorem dX8_biters_32 : decode cX8_biters 32 = .ok (.if_icmp .ge 31, 3) := by decide +kernel
theorem dX8_biters_35 : decode cX8_biters 35 = .ok (.iload_n 3, 1) := by decide +kernel
theorem dX8_biters_36 : decode cX8_biters 36 = .ok (.aload_n 0, 1) := by decide +kernel
theorem dX8_biters_37 : decode cX8_biters 37 = .ok (.getfield 34, 3) := by decide +kernel
theorem dX8_biters_40 : decode cX8_biters 40 = .ok (.iload 6, 2) := by decide +kernel
theorem dX8_biters_42 : decode cX8_biters 42 = .ok (.iaload, 1) := by decide +kernel
theorem dX8_biters_43 : decode cX8_biters 43 = .ok (.iload_n 1, 1) := by decide +kernel
theorem dX8_biters_44 : decode cX8_biters 44 = .ok (.if_icmp .ne 10, 3) := by decide +kernel
theorem dX8_biters_47 : decode cX8_biters 47 = .ok (.iconst 1, 1) := by decide +kernel
theorem dX8_biters_48 : decode cX8_biters 48 = .ok (.iload 6, 2) := by decide +kernel
theorem dX8_biters_50 : decode cX8_biters 50 = .ok (.ishl, 1) := by decide +kernel
theorem dX8_biters_51 : decode cX8_biters 51 = .ok (.goto 4, 3) := by decide +kernel
theorem dX8_biters_54 : decode cX8_biters 54 = .ok (.iconst 0, 1) := by decide +kernel
theorem dX8_biters_55 : decode cX8_biters 55 = .ok (.ior, 1) := by decide +kernel
theorem dX8_biters_56 : decode cX8_biters 56 = .ok (.istore_n 3, 1) := by decide +kernel
theorem dX8_biters_57 : decode cX8_biters 57 = .ok (.iinc 6 1, 3) := by decide +kernel
theorem dX8_biters_60 : decode cX8_biters 60 = .ok (.goto (-36), 3) := by decide +kernel
theorem dX8_biters_63 : decode cX8_biters 63 = .ok (.iinc 4 1, 3) := by decide +kernel
theorem dX8_biters_66 : decode cX8_biters 66 = .ok (.goto (-61), 3) := by decide +kernel
theorem dX8_biters_69 : decode cX8_biters 69 = .ok (.iload_n 3, 1) := by decide +kernel
theorem dX8_biters_70 : decode cX8_biters 70 = .ok (.ireturn, 1) := by decide +kernel
theorem dX8_guilt_0 : decode cX8_guilt 0 = .ok (.aload_n 0, 1) := by decide +kernel
theorem dX8_guilt_1 : decode cX8_guilt 1 = .ok (.iconst 0, 1) := by decide +kernel
theorem dX8_guilt_2 : decode cX8_guilt 2 = .ok (.putfield 50, 3) := by decide +kernel
theorem dX8_guilt_5 : decode cX8_guilt 5 = .ok (.aload_n 0, 1) := by decide +kernel
theorem dX8_guilt_6 : decode cX8_guilt 6 = .ok (.iload_n 1, 1) := by decide +kernel
theorem dX8_guilt_7 : decode cX8_guilt 7 = .ok (.invokevirtual 193, 3) := by decide +kernel
theorem dX8_guilt_10 : decode cX8_guilt 10 = .ok (.ifCond .eq 15, 3) := by decide +kernel
theorem dX8_guilt_13 : decode cX8_guilt 13 = .ok (.iload_n 2, 1) := by decide +kernel
theorem dX8_guilt_14 : decode cX8_guilt 14 = .ok (.i2l, 1) := by decide +kernel
theorem dX8_guilt_15 : decode cX8_guilt 15 = .ok (.lconst 1, 1) := by decide +kernel
theorem dX8_guilt_16 : decode cX8_guilt 16 = .ok (.ldc2_w 201, 3) := by decide +kernel
theorem dX8_guilt_19 : decode cX8_guilt 19 = .ok (.invokestatic 60, 3) := by decide +kernel
theorem dX8_guilt_22 : decode cX8_guilt 22 = .ok (.ifCond .ne 6, 3) := by decide +kernel
theorem dX8_guilt_25 : decode cX8_guilt 25 = .ok (.ldc 70, 2) := by decide +kernel
theorem dX8_guilt_27 : decode cX8_guilt 27 = .ok (.ireturn, 1) := by decide +kernel
theorem dX8_guilt_28 : decode cX8_guilt 28 = .ok (.aload_n 0, 1) := by decide +kernel
theorem dX8_guilt_29 : decode cX8_guilt 29 = .ok (.invokevirtual 177, 3) := by decide +kernel
theorem dX8_guilt_32 : decode cX8_guilt 32 = .ok (.aload_n 0, 1) := by decide +kernel
theorem dX8_guilt_33 : decode cX8_guilt 33 = .ok (.iload_n 1, 1) := by decide +kernel
theorem dX8_guilt_34 : decode cX8_guilt 34 = .ok (.iload_n 2, 1) := by decide +kernel
theorem dX8_guilt_35 : decode cX8_guilt 35 = .ok (.invokevirtual 213, 3) := by decide +kernel
theorem dX8_guilt_38 : decode cX8_guilt 38 = .ok (.ireturn, 1) := by decide +kernel
theorem dX8_gap_0 : decode cX8_gap 0 = .ok (.aload_n 0, 1) := by decide +kernel
theorem dX8_gap_1 : decode cX8_gap 1 = .ok (.iconst 0, 1) := by decide +kernel
theorem dX8_gap_2 : decode cX8_gap 2 = .ok (.putfield 50, 3) := by decide +kernel
theorem dX8_gap_5 : decode cX8_gap 5 = .ok (.aload_n 0, 1) := by decide +kernel
theorem dX8_gap_6 : decode cX8_gap 6 = .ok (.invokevirtual 184, 3) := by decide +kernel
theorem dX8_gap_9 : decode cX8_gap 9 = .ok (.ifCond .ne 6, 3) := by decide +kernel
theorem dX8_gap_12 : decode cX8_gap 12 = .ok (.ldc 187, 2) := by decide +kernel
theorem dX8_gap_14 : decode cX8_gap 14 = .ok (.ireturn, 1) := by decide +kernel
theorem dX8_gap_15 : decode cX8_gap 15 = .ok (.aload_n 0, 1) := by decide +kernel
theorem dX8_gap_16 : decode cX8_gap 16 = .ok (.iload_n 1, 1) := by decide +kernel
theorem dX8_gap_17 : decode cX8_gap 17 = .ok (.invokevirtual 216, 3) := by decide +kernel
theorem dX8_gap_20 : decode cX8_gap 20 = .ok (.ifCond .ne 6, 3) := by decide +kernel
theorem dX8_gap_23 : decode cX8_gap 23 = .ok (.ldc 70, 2) := by decide +kernel
theorem dX8_gap_25 : decode cX8_gap 25 = .ok (.ireturn, 1) := by decide +kernel
theorem dX8_gap_26 : decode cX8_gap 26 = .ok (.aload_n 0, 1) := by decide +kernel
theorem dX8_gap_27 : decode cX8_gap 27 = .ok (.invokevirtual 177, 3) := by decide +kernel
theorem dX8_gap_30 : decode cX8_gap 30 = .ok (.iconst 0, 1) := by decide +kernel
theorem dX8_gap_31 : decode cX8_gap 31 = .ok (.istore_n 2, 1) := by decide +kernel
theorem dX8_gap_32 : decode cX8_gap 32 = .ok (.iload_n 2, 1) := by decide +kernel
theorem dX8_gap_33 : decode cX8_gap 33 = .ok (.bipush 60, 2) := by decide +kernel
theorem dX8_gap_35 : decode cX8_gap 35 = .ok (.if_icmp .gt 32, 3) := by decide +kernel
theorem dX8_gap_38 : decode cX8_gap 38 = .ok (.aload_n 0, 1) := by decide +kernel
theorem dX8_gap_39 : decode cX8_gap 39 = .ok (.getfield 25, 3) := by decide +kernel
theorem dX8_gap_42 : decode cX8_gap 42 = .ok (.invokestatic 210, 3) := by decide +kernel
theorem dX8_gap_45 : decode cX8_gap 45 = .ok (.iload_n 1, 1) := by decide +kernel
theorem dX8_gap_46 : decode cX8_gap 46 = .ok (.iand, 1) := by decide +kernel
theorem dX8_gap_47 : decode cX8_gap 47 = .ok (.ifCond .ne 5, 3) := by decide +kernel
theorem dX8_gap_50 : decode cX8_gap 50 = .ok (.iload_n 2, 1) := by decide +kernel
theorem dX8_gap_51 : decode cX8_gap 51 = .ok (.ireturn, 1) := by decide +kernel
theorem dX8_gap_52 : decode cX8_gap 52 = .ok (.aload_n 0, 1) := by decide +kernel
theorem dX8_gap_53 : decode cX8_gap 53 = .ok (.aload_n 0, 1) := by decide +kernel
theorem dX8_gap_54 : decode cX8_gap 54 = .ok (.getfield 25, 3) := by decide +kernel
theorem dX8_gap_57 : decode cX8_gap 57 = .ok (.invokevirtual 169, 3) := by decide +kernel
theorem dX8_gap_60 : decode cX8_gap 60 = .ok (.istore_n 3, 1) := by decide +kernel
theorem dX8_gap_61 : decode cX8_gap 61 = .ok (.iinc 2 1, 3) := by decide +kernel
theorem dX8_gap_64 : decode cX8_gap 64 = .ok (.goto (-32), 3) := by decide +kernel
theorem dX8_gap_67 : decode cX8_gap 67 = .ok (.ldc 93, 2) := by decide +kernel
theorem dX8_gap_69 : decode cX8_gap 69 = .ok (.ireturn, 1) := by decide +kernel
theorem dX8_hangs_0 : decode cX8_hangs 0 = .ok (.aload_n 0, 1) := by decide +kernel
theorem dX8_hangs_1 : decode cX8_hangs 1 = .ok (.iconst 0, 1) := by decide +kernel
theorem dX8_hangs_2 : decode cX8_hangs 2 = .ok (.putfield 50, 3) := by decide +kernel
theorem dX8_hangs_5 : decode cX8_hangs 5 = .ok (.aload_n 0, 1) := by decide +kernel
theorem dX8_hangs_6 : decode cX8_hangs 6 = .ok (.invokevirtual 184, 3) := by decide +kernel
theorem dX8_hangs_9 : decode cX8_hangs 9 = .ok (.ifCond .ne 6, 3) := by decide +kernel
theorem dX8_hangs_12 : decode cX8_hangs 12 = .ok (.ldc 187, 2) := by decide +kernel
theorem dX8_hangs_14 : decode cX8_hangs 14 = .ok (.ireturn, 1) := by decide +kernel
theorem dX8_hangs_15 : decode cX8_hangs 15 = .ok (.aload_n 0, 1) := by decide +kernel
theorem dX8_hangs_16 : decode cX8_hangs 16 = .ok (.iload_n 1, 1) := by decide +kernel
theorem dX8_hangs_17 : decode cX8_hangs 17 = .ok (.invokevirtual 216, 3) := by decide +kernel
theorem dX8_hangs_20 : decode cX8_hangs 20 = .ok (.ifCond .eq 25, 3) := by decide +kernel
theorem dX8_hangs_23 : decode cX8_hangs 23 = .ok (.iload_n 2, 1) := by decide +kernel
theorem dX8_hangs_24 : decode cX8_hangs 24 = .ok (.i2l, 1) := by decide +kernel
theorem dX8_hangs_25 : decode cX8_hangs 25 = .ok (.lconst 1, 1) := by decide +kernel
