theorem dX5_put_91 : decode cX5_put 91 = .ok (.iload 8, 2) := by decide +kernel
theorem dX5_put_93 : decode cX5_put 93 = .ok (.ifCond .eq 7, 3) := by decide +kernel
theorem dX5_put_96 : decode cX5_put 96 = .ok (.iconst 1, 1) := by decide +kernel
theorem dX5_put_97 : decode cX5_put 97 = .ok (.goto 4, 3) := by decide +kernel
theorem dX5_put_100 : decode cX5_put 100 = .ok (.iconst 0, 1) := by decide +kernel
theorem dX5_put_101 : decode cX5_put 101 = .ok (.iastore, 1) := by decide +kernel
theorem dX5_put_102 : decode cX5_put 102 = .ok (.aload_n 0, 1) := by decide +kernel
theorem dX5_put_103 : decode cX5_put 103 = .ok (.dup, 1) := by decide +kernel
theorem dX5_put_104 : decode cX5_put 104 = .ok (.getfield 166, 3) := by decide +kernel
theorem dX5_put_107 : decode cX5_put 107 = .ok (.iconst 1, 1) := by decide +kernel
theorem dX5_put_108 : decode cX5_put 108 = .ok (.iadd, 1) := by decide +kernel
theorem dX5_put_109 : decode cX5_put 109 = .ok (.putfield 166, 3) := by decide +kernel
theorem dX5_put_112 : decode cX5_put 112 = .ok (.return_, 1) := by decide +kernel
theorem dX5_widthOf_0 : decode cX5_widthOf 0 = .ok (.aload_n 0, 1) := by decide +kernel
theorem dX5_widthOf_1 : decode cX5_widthOf 1 = .ok (.iload_n 1, 1) := by decide +kernel
theorem dX5_widthOf_2 : decode cX5_widthOf 2 = .ok (.iload_n 2, 1) := by decide +kernel
theorem dX5_widthOf_3 : decode cX5_widthOf 3 = .ok (.iload_n 3, 1) := by decide +kernel
theorem dX5_widthOf_4 : decode cX5_widthOf 4 = .ok (.invokevirtual 117, 3) := by decide +kernel
theorem dX5_widthOf_7 : decode cX5_widthOf 7 = .ok (.aload_n 0, 1) := by decide +kernel
theorem dX5_widthOf_8 : decode cX5_widthOf 8 = .ok (.getfield 96, 3) := by decide +kernel
theorem dX5_widthOf_11 : decode cX5_widthOf 11 = .ok (.ireturn, 1) := by decide +kernel
theorem dX5_placeFraction_0 : decode cX5_placeFraction 0 = .ok (.iload_n 2, 1) := by decide +kernel
theorem dX5_placeFraction_1 : decode cX5_placeFraction 1 = .ok (.invokestatic 93, 3) := by decide +kernel
theorem dX5_placeFraction_4 : decode cX5_placeFraction 4 = .ok (.istore 6, 2) := by decide +kernel
theorem dX5_placeFraction_6 : decode cX5_placeFraction 6 = .ok (.aload_n 0, 1) := by decide +kernel
theorem dX5_placeFraction_7 : decode cX5_placeFraction 7 = .ok (.getfield 32, 3) := by decide +kernel
theorem dX5_placeFraction_10 : decode cX5_placeFraction 10 = .ok (.iload_n 1, 1) := by decide +kernel
theorem dX5_placeFraction_11 : decode cX5_placeFraction 11 = .ok (.iaload, 1) := by decide +kernel
theorem dX5_placeFraction_12 : decode cX5_placeFraction 12 = .ok (.ifCond .ge 11, 3) := by decide +kernel
theorem dX5_placeFraction_15 : decode cX5_placeFraction 15 = .ok (.iload 6, 2) := by decide +kernel
theorem dX5_placeFraction_17 : decode cX5_placeFraction 17 = .ok (.invokestatic 108, 3) := by decide +kernel
theorem dX5_placeFraction_20 : decode cX5_placeFraction 20 = .ok (.goto 9, 3) := by decide +kernel
theorem dX5_placeFraction_23 : decode cX5_placeFraction 23 = .ok (.aload_n 0, 1) := by decide +kernel
theorem dX5_placeFraction_24 : decode cX5_placeFraction 24 = .ok (.getfield 32, 3) := by decide +kernel
theorem dX5_placeFraction_27 : decode cX5_placeFraction 27 = .ok (.iload_n 1, 1) := by decide +kernel
theorem dX5_placeFraction_28 : decode cX5_placeFraction 28 = .ok (.iaload, 1) := by decide +kernel
theorem dX5_placeFraction_29 : decode cX5_placeFraction 29 = .ok (.istore 7, 2) := by decide +kernel
theorem dX5_placeFraction_31 : decode cX5_placeFraction 31 = .ok (.aload_n 0, 1) := by decide +kernel
theorem dX5_placeFraction_32 : decode cX5_placeFraction 32 = .ok (.iload_n 1, 1) := by decide +kernel
theorem dX5_placeFraction_33 : decode cX5_placeFraction 33 = .ok (.iload_n 2, 1) := by decide +kernel
theorem dX5_placeFraction_34 : decode cX5_placeFraction 34 = .ok (.iload_n 3, 1) := by decide +kernel
theorem dX5_placeFraction_35 : decode cX5_placeFraction 35 = .ok (.invokevirtual 143, 3) := by decide +kernel
theorem dX5_placeFraction_38 : decode cX5_placeFraction 38 = .ok (.aload_n 0, 1) := by decide +kernel
theorem dX5_placeFraction_39 : decode cX5_placeFraction 39 = .ok (.getfield 96, 3) := by decide +kernel
theorem dX5_placeFraction_42 : decode cX5_placeFraction 42 = .ok (.istore 8, 2) := by decide +kernel
theorem dX5_placeFraction_44 : decode cX5_placeFraction 44 = .ok (.aload_n 0, 1) := by decide +kernel
theorem dX5_placeFraction_45 : decode cX5_placeFraction 45 = .ok (.getfield 125, 3) := by decide +kernel
theorem dX5_placeFraction_48 : decode cX5_placeFraction 48 = .ok (.istore 9, 2) := by decide +kernel
theorem dX5_placeFraction_50 : decode cX5_placeFraction 50 = .ok (.aload_n 0, 1) := by decide +kernel
theorem dX5_placeFraction_51 : decode cX5_placeFraction 51 = .ok (.getfield 128, 3) := by decide +kernel
theorem dX5_placeFraction_54 : decode cX5_placeFraction 54 = .ok (.istore 10, 2) := by decide +kernel
theorem dX5_placeFraction_56 : decode cX5_placeFraction 56 = .ok (.aload_n 0, 1) := by decide +kernel
theorem dX5_placeFraction_57 : decode cX5_placeFraction 57 = .ok (.aload_n 0, 1) := by decide +kernel
theorem dX5_placeFraction_58 : decode cX5_placeFraction 58 = .ok (.getfield 26, 3) := by decide +kernel
theorem dX5_placeFraction_61 : decode cX5_placeFraction 61 = .ok (.iload_n 1, 1) := by decide +kernel
theorem dX5_placeFraction_62 : decode cX5_placeFraction 62 = .ok (.iaload, 1) := by decide +kernel
theorem dX5_placeFraction_63 : decode cX5_placeFraction 63 = .ok (.iload_n 2, 1) := by decide +kernel
theorem dX5_placeFraction_64 : decode cX5_placeFraction 64 = .ok (.invokestatic 114, 3) := by decide +kernel
theorem dX5_placeFraction_67 : decode cX5_placeFraction 67 = .ok (.iload_n 3, 1) := by decide +kernel
theorem dX5_placeFraction_68 : decode cX5_placeFraction 68 = .ok (.iload 4, 2) := by decide +kernel
theorem dX5_placeFraction_70 : decode cX5_placeFraction 70 = .ok (.iload 8, 2) := by decide +kernel
theorem dX5_placeFraction_72 : decode cX5_placeFraction 72 = .ok (.aload_n 0, 1) := by decide +kernel
theorem dX5_placeFraction_73 : decode cX5_placeFraction 73 = .ok (.aload_n 0, 1) := by decide +kernel
theorem dX5_placeFraction_74 : decode cX5_placeFraction 74 = .ok (.getfield 26, 3) := by decide +kernel
theorem dX5_placeFraction_77 : decode cX5_placeFraction 77 = .ok (.iload_n 1, 1) := by decide +kernel
theorem dX5_placeFraction_78 : decode cX5_placeFraction 78 = .ok (.iaload, 1) := by decide +kernel
theorem dX5_placeFraction_79 : decode cX5_placeFraction 79 = .ok (.iload_n 2, 1) := by decide +kernel
theorem dX5_placeFraction_80 : decode cX5_placeFraction 80 = .ok (.invokestatic 114, 3) := by decide +kernel
theorem dX5_placeFraction_83 : decode cX5_placeFraction 83 = .ok (.iload_n 3, 1) := by decide +kernel
theorem dX5_placeFraction_84 : decode cX5_placeFraction 84 = .ok (.invokevirtual 169, 3) := by decide +kernel
theorem dX5_placeFraction_87 : decode cX5_placeFraction 87 = .ok (.isub, 1) := by decide +kernel
theorem dX5_placeFraction_88 : decode cX5_placeFraction 88 = .ok (.invokestatic 108, 3) := by decide +kernel
theorem dX5_placeFraction_91 : decode cX5_placeFraction 91 = .ok (.iadd, 1) := by decide +kernel
theorem dX5_placeFraction_92 : decode cX5_placeFraction 92 = .ok (.iload 5, 2) := by decide +kernel
theorem dX5_placeFraction_94 : decode cX5_placeFraction 94 = .ok (.iload 9, 2) := by decide +kernel
theorem dX5_placeFraction_96 : decode cX5_placeFraction 96 = .ok (.iadd, 1) := by decide +kernel
theorem dX5_placeFraction_97 : decode cX5_placeFraction 97 = .ok (.invokevirtual 173, 3) := by decide +kernel
theorem dX5_placeFraction_100 : decode cX5_placeFraction 100 = .ok (.aload_n 0, 1) := by decide +kernel
theorem dX5_placeFraction_101 : decode cX5_placeFraction 101 = .ok (.aload_n 0, 1) := by decide +kernel
theorem dX5_placeFraction_102 : decode cX5_placeFraction 102 = .ok (.getfield 29, 3) := by decide +kernel
theorem dX5_placeFraction_105 : decode cX5_placeFraction 105 = .ok (.iload_n 1, 1) := by decide +kernel
theorem dX5_placeFraction_106 : decode cX5_placeFraction 106 = .ok (.iaload, 1) := by decide +kernel
theorem dX5_placeFraction_107 : decode cX5_placeFraction 107 = .ok (.iload_n 2, 1) := by decide +kernel
theorem dX5_placeFraction_108 : decode cX5_placeFraction 108 = .ok (.invokestatic 114, 3) := by decide +kernel
theorem dX5_placeFraction_111 : decode cX5_placeFraction 111 = .ok (.iconst 1, 1) := by decide +kernel
theorem dX5_placeFraction_112 : decode cX5_placeFraction 112 = .ok (.iload 4, 2) := by decide +kernel
theorem dX5_placeFraction_114 : decode cX5_placeFraction 114 = .ok (.iload 8, 2) := by decide +kernel
theorem dX5_placeFraction_116 : decode cX5_placeFraction 116 = .ok (.aload_n 0, 1) := by decide +kernel
theorem dX5_placeFraction_117 : decode cX5_placeFraction 117 = .ok (.aload_n 0, 1) := by decide +kernel
theorem dX5_placeFraction_118 : decode cX5_placeFraction 118 = .ok (.getfield 29, 3) := by decide +kernel
theorem dX5_placeFraction_121 : decode cX5_placeFraction 121 = .ok (.iload_n 1, 1) := by decide +kernel
theorem dX5_placeFraction_122 : decode cX5_placeFraction 122 = .ok (.iaload, 1) := by decide +kernel
theorem dX5_placeFraction_123 : decode cX5_placeFraction 123 = .ok (.iload_n 2, 1) := by decide +kernel
theorem dX5_placeFraction_124 : decode cX5_placeFraction 124 = .ok (.invokestatic 114, 3) := by decide +kernel
theorem dX5_placeFraction_127 : decode cX5_placeFraction 127 = .ok (.iconst 1, 1) := by decide +kernel
theorem dX5_placeFraction_128 : decode cX5_placeFraction 128 = .ok (.invokevirtual 169, 3) := by decide +kernel
theorem dX5_placeFraction_131 : decode cX5_placeFraction 131 = .ok (.isub, 1) := by decide +kernel
theorem dX5_placeFraction_132 : decode cX5_placeFraction 132 = .ok (.invokestatic 108, 3) := by decide +kernel
theorem dX5_placeFraction_135 : decode cX5_placeFraction 135 = .ok (.iadd, 1) := by decide +kernel
theorem dX5_placeFraction_136 : decode cX5_placeFraction 136 = .ok (.iload 5, 2) := by decide +kernel
theorem dX5_placeFraction_138 : decode cX5_placeFraction 138 = .ok (.iload 10, 2) := by decide +kernel
theorem dX5_placeFraction_140 : decode cX5_placeFraction 140 = .ok (.isub, 1) := by decide +kernel
theorem dX5_placeFraction_141 : decode cX5_placeFraction 141 = .ok (.invokevirtual 173, 3) := by decide +kernel
theorem dX5_placeFraction_144 : decode cX5_placeFraction 144 = .ok (.iload 7, 2) := by decide +kernel
theorem dX5_placeFraction_146 : decode cX5_placeFraction 146 = .ok (.ifCond .le 33, 3) := by decide +kernel
theorem dX5_placeFraction_149 : decode cX5_placeFraction 149 = .ok (.aload_n 0, 1) := by decide +kernel
theorem dX5_placeFraction_150 : decode cX5_placeFraction 150 = .ok (.iconst 1, 1) := by decide +kernel
theorem dX5_placeFraction_151 : decode cX5_placeFraction 151 = .ok (.iload 4, 2) := by decide +kernel
theorem dX5_placeFraction_153 : decode cX5_placeFraction 153 = .ok (.iload 5, 2) := by decide +kernel
theorem dX5_placeFraction_155 : decode cX5_placeFraction 155 = .ok (.iconst 2, 1) := by decide +kernel
theorem dX5_placeFraction_156 : decode cX5_placeFraction 156 = .ok (.iload 6, 2) := by decide +kernel
theorem dX5_placeFraction_158 : decode cX5_placeFraction 158 = .ok (.imul, 1) := by decide +kernel
theorem dX5_placeFraction_159 : decode cX5_placeFraction 159 = .ok (.iadd, 1) := by decide +kernel
theorem dX5_placeFraction_160 : decode cX5_placeFraction 160 = .ok (.iload 7, 2) := by decide +kernel
theorem dX5_placeFraction_162 : decode cX5_placeFraction 162 = .ok (.iload 7, 2) := by decide +kernel
theorem dX5_placeFraction_164 : decode cX5_placeFraction 164 = .ok (.invokestatic 108, 3) := by decide +kernel
theorem dX5_placeFraction_167 : decode cX5_placeFraction 167 = .ok (.isub, 1) := by decide +kernel
theorem dX5_placeFraction_168 : decode cX5_placeFraction 168 = .ok (.isub, 1) := by decide +kernel
theorem dX5_placeFraction_169 : decode cX5_placeFraction 169 = .ok (.iload 7, 2) := by decide +kernel
theorem dX5_placeFraction_171 : decode cX5_placeFraction 171 = .ok (.iload 8, 2) := by decide +kernel
theorem dX5_placeFraction_173 : decode cX5_placeFraction 173 = .ok (.iconst 0, 1) := by decide +kernel
theorem dX5_placeFraction_174 : decode cX5_placeFraction 174 = .ok (.iload_n 1, 1) := by decide +kernel
theorem dX5_placeFraction_175 : decode cX5_placeFraction 175 = .ok (.iconst 0, 1) := by decide +kernel
theorem dX5_placeFraction_176 : decode cX5_placeFraction 176 = .ok (.invokevirtual 177, 3) := by decide +kernel
theorem dX5_placeFraction_179 : decode cX5_placeFraction 179 = .ok (.return_, 1) := by decide +kernel
theorem dX5_placeFence_0 : decode cX5_placeFence 0 = .ok (.aload_n 0, 1) := by decide +kernel
theorem dX5_placeFence_1 : decode cX5_placeFence 1 = .ok (.aload_n 0, 1) := by decide +kernel
theorem dX5_placeFence_2 : decode cX5_placeFence 2 = .ok (.getfield 29, 3) := by decide +kernel
theorem dX5_placeFence_5 : decode cX5_placeFence 5 = .ok (.iload_n 1, 1) := by decide +kernel
theorem dX5_placeFence_6 : decode cX5_placeFence 6 = .ok (.iaload, 1) := by decide +kernel
theorem dX5_placeFence_7 : decode cX5_placeFence 7 = .ok (.iload_n 2, 1) := by decide +kernel
theorem dX5_placeFence_8 : decode cX5_placeFence 8 = .ok (.iload_n 3, 1) := by decide +kernel
theorem dX5_placeFence_9 : decode cX5_placeFence 9 = .ok (.invokevirtual 117, 3) := by decide +kernel
theorem dX5_placeFence_12 : decode cX5_placeFence 12 = .ok (.aload_n 0, 1) := by decide +kernel
theorem dX5_placeFence_13 : decode cX5_placeFence 13 = .ok (.iload_n 2, 1) := by decide +kernel
theorem dX5_placeFence_14 : decode cX5_placeFence 14 = .ok (.invokevirtual 131, 3) := by decide +kernel
theorem dX5_placeFence_17 : decode cX5_placeFence 17 = .ok (.istore 6, 2) := by decide +kernel
theorem dX5_placeFence_19 : decode cX5_placeFence 19 = .ok (.aload_n 0, 1) := by decide +kernel
theorem dX5_placeFence_20 : decode cX5_placeFence 20 = .ok (.getfield 96, 3) := by decide +kernel
theorem dX5_placeFence_23 : decode cX5_placeFence 23 = .ok (.istore 7, 2) := by decide +kernel
theorem dX5_placeFence_25 : decode cX5_placeFence 25 = .ok (.iload 6, 2) := by decide +kernel
theorem dX5_placeFence_27 : decode cX5_placeFence 27 = .ok (.iload_n 2, 1) := by decide +kernel
theorem dX5_placeFence_28 : decode cX5_placeFence 28 = .ok (.invokestatic 137, 3) := by decide +kernel
theorem dX5_placeFence_31 : decode cX5_placeFence 31 = .ok (.istore 8, 2) := by decide +kernel
theorem dX5_placeFence_33 : decode cX5_placeFence 33 = .ok (.bipush 10, 2) := by decide +kernel
theorem dX5_placeFence_35 : decode cX5_placeFence 35 = .ok (.iload 8, 2) := by decide +kernel
theorem dX5_placeFence_37 : decode cX5_placeFence 37 = .ok (.iload_n 2, 1) := by decide +kernel
theorem dX5_placeFence_38 : decode cX5_placeFence 38 = .ok (.invokestatic 105, 3) := by decide +kernel
theorem dX5_placeFence_41 : decode cX5_placeFence 41 = .ok (.imul, 1) := by decide +kernel
theorem dX5_placeFence_42 : decode cX5_placeFence 42 = .ok (.bipush 9, 2) := by decide +kernel
theorem dX5_placeFence_44 : decode cX5_placeFence 44 = .ok (.iload 6, 2) := by decide +kernel
theorem dX5_placeFence_46 : decode cX5_placeFence 46 = .ok (.imul, 1) := by decide +kernel
theorem dX5_placeFence_47 : decode cX5_placeFence 47 = .ok (.if_icmp .ge 7, 3) := by decide +kernel
theorem dX5_placeFence_50 : decode cX5_placeFence 50 = .ok (.iconst 1, 1) := by decide +kernel
theorem dX5_placeFence_51 : decode cX5_placeFence 51 = .ok (.goto 4, 3) := by decide +kernel
theorem dX5_placeFence_54 : decode cX5_placeFence 54 = .ok (.iconst 0, 1) := by decide +kernel
theorem dX5_placeFence_55 : decode cX5_placeFence 55 = .ok (.istore 9, 2) := by decide +kernel
theorem dX5_placeFence_57 : decode cX5_placeFence 57 = .ok (.aload_n 0, 1) := by decide +kernel
theorem dX5_placeFence_58 : decode cX5_placeFence 58 = .ok (.getfield 26, 3) := by decide +kernel
theorem dX5_placeFence_61 : decode cX5_placeFence 61 = .ok (.iload_n 1, 1) := by decide +kernel
theorem dX5_placeFence_62 : decode cX5_placeFence 62 = .ok (.iaload, 1) := by decide +kernel
theorem dX5_placeFence_63 : decode cX5_placeFence 63 = .ok (.iload_n 2, 1) := by decide +kernel
theorem dX5_placeFence_64 : decode cX5_placeFence 64 = .ok (.invokestatic 134, 3) := by decide +kernel
theorem dX5_placeFence_67 : decode cX5_placeFence 67 = .ok (.istore 10, 2) := by decide +kernel
theorem dX5_placeFence_69 : decode cX5_placeFence 69 = .ok (.aload_n 0, 1) := by decide +kernel
theorem dX5_placeFence_70 : decode cX5_placeFence 70 = .ok (.getfield 26, 3) := by decide +kernel
theorem dX5_placeFence_73 : decode cX5_placeFence 73 = .ok (.iload_n 1, 1) := by decide +kernel
theorem dX5_placeFence_74 : decode cX5_placeFence 74 = .ok (.iaload, 1) := by decide +kernel
theorem dX5_placeFence_75 : decode cX5_placeFence 75 = .ok (.ifCond .le 25, 3) := by decide +kernel
theorem dX5_placeFence_78 : decode cX5_placeFence 78 = .ok (.aload_n 0, 1) := by decide +kernel
theorem dX5_placeFence_79 : decode cX5_placeFence 79 = .ok (.iconst 2, 1) := by decide +kernel
theorem dX5_placeFence_80 : decode cX5_placeFence 80 = .ok (.iload 4, 2) := by decide +kernel
theorem dX5_placeFence_82 : decode cX5_placeFence 82 = .ok (.iload 5, 2) := by decide +kernel
theorem dX5_placeFence_84 : decode cX5_placeFence 84 = .ok (.iload 8, 2) := by decide +kernel
theorem dX5_placeFence_86 : decode cX5_placeFence 86 = .ok (.iload 10, 2) := by decide +kernel
theorem dX5_placeFence_88 : decode cX5_placeFence 88 = .ok (.aload_n 0, 1) := by decide +kernel
theorem dX5_placeFence_89 : decode cX5_placeFence 89 = .ok (.getfield 26, 3) := by decide +kernel
theorem dX5_placeFence_92 : decode cX5_placeFence 92 = .ok (.iload_n 1, 1) := by decide +kernel
theorem dX5_placeFence_93 : decode cX5_placeFence 93 = .ok (.iaload, 1) := by decide +kernel
theorem dX5_placeFence_94 : decode cX5_placeFence 94 = .ok (.iload_n 1, 1) := by decide +kernel
theorem dX5_placeFence_95 : decode cX5_placeFence 95 = .ok (.iload 9, 2) := by decide +kernel
theorem dX5_placeFence_97 : decode cX5_placeFence 97 = .ok (.invokevirtual 177, 3) := by decide +kernel
theorem dX5_placeFence_100 : decode cX5_placeFence 100 = .ok (.aload_n 0, 1) := by decide +kernel
theorem dX5_placeFence_101 : decode cX5_placeFence 101 = .ok (.aload_n 0, 1) := by decide +kernel
theorem dX5_placeFence_102 : decode cX5_placeFence 102 = .ok (.getfield 29, 3) := by decide +kernel
theorem dX5_placeFence_105 : decode cX5_placeFence 105 = .ok (.iload_n 1, 1) := by decide +kernel
theorem dX5_placeFence_106 : decode cX5_placeFence 106 = .ok (.iaload, 1) := by decide +kernel
theorem dX5_placeFence_107 : decode cX5_placeFence 107 = .ok (.iload_n 2, 1) := by decide +kernel
theorem dX5_placeFence_108 : decode cX5_placeFence 108 = .ok (.iload_n 3, 1) := by decide +kernel
theorem dX5_placeFence_109 : decode cX5_placeFence 109 = .ok (.iload 4, 2) := by decide +kernel
theorem dX5_placeFence_111 : decode cX5_placeFence 111 = .ok (.iload 10, 2) := by decide +kernel
theorem dX5_placeFence_113 : decode cX5_placeFence 113 = .ok (.iadd, 1) := by decide +kernel
theorem dX5_placeFence_114 : decode cX5_placeFence 114 = .ok (.iload 5, 2) := by decide +kernel
theorem dX5_placeFence_116 : decode cX5_placeFence 116 = .ok (.invokevirtual 173, 3) := by decide +kernel
theorem dX5_placeFence_119 : decode cX5_placeFence 119 = .ok (.aload_n 0, 1) := by decide +kernel
theorem dX5_placeFence_120 : decode cX5_placeFence 120 = .ok (.getfield 32, 3) := by decide +kernel
theorem dX5_placeFence_123 : decode cX5_placeFence 123 = .ok (.iload_n 1, 1) := by decide +kernel
theorem dX5_placeFence_124 : decode cX5_placeFence 124 = .ok (.iaload, 1) := by decide +kernel
theorem dX5_placeFence_125 : decode cX5_placeFence 125 = .ok (.ifCond .le 39, 3) := by decide +kernel
theorem dX5_placeFence_128 : decode cX5_placeFence 128 = .ok (.aload_n 0, 1) := by decide +kernel
theorem dX5_placeFence_129 : decode cX5_placeFence 129 = .ok (.iconst 2, 1) := by decide +kernel
theorem dX5_placeFence_130 : decode cX5_placeFence 130 = .ok (.iload 4, 2) := by decide +kernel
theorem dX5_placeFence_132 : decode cX5_placeFence 132 = .ok (.iload 10, 2) := by decide +kernel
theorem dX5_placeFence_134 : decode cX5_placeFence 134 = .ok (.iadd, 1) := by decide +kernel
theorem dX5_placeFence_135 : decode cX5_placeFence 135 = .ok (.iload 7, 2) := by decide +kernel
theorem dX5_placeFence_137 : decode cX5_placeFence 137 = .ok (.iadd, 1) := by decide +kernel
theorem dX5_placeFence_138 : decode cX5_placeFence 138 = .ok (.iload 5, 2) := by decide +kernel
theorem dX5_placeFence_140 : decode cX5_placeFence 140 = .ok (.iload 8, 2) := by decide +kernel
theorem dX5_placeFence_142 : decode cX5_placeFence 142 = .ok (.aload_n 0, 1) := by decide +kernel
theorem dX5_placeFence_143 : decode cX5_placeFence 143 = .ok (.getfield 32, 3) := by decide +kernel
theorem dX5_placeFence_146 : decode cX5_placeFence 146 = .ok (.iload_n 1, 1) := by decide +kernel
theorem dX5_placeFence_147 : decode cX5_placeFence 147 = .ok (.iaload, 1) := by decide +kernel
theorem dX5_placeFence_148 : decode cX5_placeFence 148 = .ok (.iload_n 2, 1) := by decide +kernel
theorem dX5_placeFence_149 : decode cX5_placeFence 149 = .ok (.invokestatic 134, 3) := by decide +kernel
theorem dX5_placeFence_152 : decode cX5_placeFence 152 = .ok (.aload_n 0, 1) := by decide +kernel
theorem dX5_placeFence_153 : decode cX5_placeFence 153 = .ok (.getfield 32, 3) := by decide +kernel
theorem dX5_placeFence_156 : decode cX5_placeFence 156 = .ok (.iload_n 1, 1) := by decide +kernel
theorem dX5_placeFence_157 : decode cX5_placeFence 157 = .ok (.iaload, 1) := by decide +kernel
theorem dX5_placeFence_158 : decode cX5_placeFence 158 = .ok (.iload_n 1, 1) := by decide +kernel
theorem dX5_placeFence_159 : decode cX5_placeFence 159 = .ok (.iload 9, 2) := by decide +kernel
theorem dX5_placeFence_161 : decode cX5_placeFence 161 = .ok (.invokevirtual 177, 3) := by decide +kernel
theorem dX5_placeFence_164 : decode cX5_placeFence 164 = .ok (.return_, 1) := by decide +kernel
theorem dX5_placeMatrix_0 : decode cX5_placeMatrix 0 = .ok (.aload_n 0, 1) := by decide +kernel
theorem dX5_placeMatrix_1 : decode cX5_placeMatrix 1 = .ok (.iload_n 1, 1) := by decide +kernel
theorem dX5_placeMatrix_2 : decode cX5_placeMatrix 2 = .ok (.iload_n 2, 1) := by decide +kernel
theorem dX5_placeMatrix_3 : decode cX5_placeMatrix 3 = .ok (.invokevirtual 149, 3) := by decide +kernel
theorem dX5_placeMatrix_6 : decode cX5_placeMatrix 6 = .ok (.bipush 16, 2) := by decide +kernel
theorem dX5_placeMatrix_8 : decode cX5_placeMatrix 8 = .ok (.iload_n 1, 1) := by decide +kernel
theorem dX5_placeMatrix_9 : decode cX5_placeMatrix 9 = .ok (.imul, 1) := by decide +kernel
theorem dX5_placeMatrix_10 : decode cX5_placeMatrix 10 = .ok (.istore 5, 2) := by decide +kernel
theorem dX5_placeMatrix_12 : decode cX5_placeMatrix 12 = .ok (.iload_n 2, 1) := by decide +kernel
theorem dX5_placeMatrix_13 : decode cX5_placeMatrix 13 = .ok (.invokestatic 93, 3) := by decide +kernel
theorem dX5_placeMatrix_16 : decode cX5_placeMatrix 16 = .ok (.istore 6, 2) := by decide +kernel
theorem dX5_placeMatrix_18 : decode cX5_placeMatrix 18 = .ok (.iload_n 2, 1) := by decide +kernel
theorem dX5_placeMatrix_19 : decode cX5_placeMatrix 19 = .ok (.ifCond .ne 7, 3) := by decide +kernel
theorem dX5_placeMatrix_22 : decode cX5_placeMatrix 22 = .ok (.iconst 1, 1) := by decide +kernel
theorem dX5_placeMatrix_23 : decode cX5_placeMatrix 23 = .ok (.goto 4, 3) := by decide +kernel
theorem dX5_placeMatrix_26 : decode cX5_placeMatrix 26 = .ok (.iload_n 2, 1) := by decide +kernel
theorem dX5_placeMatrix_27 : decode cX5_placeMatrix 27 = .ok (.istore 7, 2) := by decide +kernel
theorem dX5_placeMatrix_29 : decode cX5_placeMatrix 29 = .ok (.iload 4, 2) := by decide +kernel
theorem dX5_placeMatrix_31 : decode cX5_placeMatrix 31 = .ok (.aload_n 0, 1) := by decide +kernel
theorem dX5_placeMatrix_32 : decode cX5_placeMatrix 32 = .ok (.getfield 47, 3) := by decide +kernel
theorem dX5_placeMatrix_35 : decode cX5_placeMatrix 35 = .ok (.iload 5, 2) := by decide +kernel
theorem dX5_placeMatrix_37 : decode cX5_placeMatrix 37 = .ok (.bipush 15, 2) := by decide +kernel
theorem dX5_placeMatrix_39 : decode cX5_placeMatrix 39 = .ok (.iadd, 1) := by decide +kernel
theorem dX5_placeMatrix_40 : decode cX5_placeMatrix 40 = .ok (.iaload, 1) := by decide +kernel
theorem dX5_placeMatrix_41 : decode cX5_placeMatrix 41 = .ok (.iadd, 1) := by decide +kernel
theorem dX5_placeMatrix_42 : decode cX5_placeMatrix 42 = .ok (.istore 8, 2) := by decide +kernel
theorem dX5_placeMatrix_44 : decode cX5_placeMatrix 44 = .ok (.iconst 0, 1) := by decide +kernel
theorem dX5_placeMatrix_45 : decode cX5_placeMatrix 45 = .ok (.istore 9, 2) := by decide +kernel
theorem dX5_placeMatrix_47 : decode cX5_placeMatrix 47 = .ok (.iload 9, 2) := by decide +kernel
theorem dX5_placeMatrix_49 : decode cX5_placeMatrix 49 = .ok (.aload_n 0, 1) := by decide +kernel
theorem dX5_placeMatrix_50 : decode cX5_placeMatrix 50 = .ok (.getfield 26, 3) := by decide +kernel
theorem dX5_placeMatrix_53 : decode cX5_placeMatrix 53 = .ok (.iload_n 1, 1) := by decide +kernel
theorem dX5_placeMatrix_54 : decode cX5_placeMatrix 54 = .ok (.iaload, 1) := by decide +kernel
theorem dX5_placeMatrix_55 : decode cX5_placeMatrix 55 = .ok (.if_icmp .ge 153, 3) := by decide +kernel
theorem dX5_placeMatrix_58 : decode cX5_placeMatrix 58 = .ok (.iload_n 3, 1) := by decide +kernel
theorem dX5_placeMatrix_59 : decode cX5_placeMatrix 59 = .ok (.istore 10, 2) := by decide +kernel
theorem dX5_placeMatrix_61 : decode cX5_placeMatrix 61 = .ok (.iload 8, 2) := by decide +kernel
theorem dX5_placeMatrix_63 : decode cX5_placeMatrix 63 = .ok (.aload_n 0, 1) := by decide +kernel
theorem dX5_placeMatrix_64 : decode cX5_placeMatrix 64 = .ok (.getfield 47, 3) := by decide +kernel
theorem dX5_placeMatrix_67 : decode cX5_placeMatrix 67 = .ok (.iload 5, 2) := by decide +kernel
theorem dX5_placeMatrix_69 : decode cX5_placeMatrix 69 = .ok (.iconst 5, 1) := by decide +kernel
theorem dX5_placeMatrix_70 : decode cX5_placeMatrix 70 = .ok (.iadd, 1) := by decide +kernel
theorem dX5_placeMatrix_71 : decode cX5_placeMatrix 71 = .ok (.iload 9, 2) := by decide +kernel
theorem dX5_placeMatrix_73 : decode cX5_placeMatrix 73 = .ok (.iadd, 1) := by decide +kernel
theorem dX5_placeMatrix_74 : decode cX5_placeMatrix 74 = .ok (.iaload, 1) := by decide +kernel
theorem dX5_placeMatrix_75 : decode cX5_placeMatrix 75 = .ok (.isub, 1) := by decide +kernel
theorem dX5_placeMatrix_76 : decode cX5_placeMatrix 76 = .ok (.istore 8, 2) := by decide +kernel
theorem dX5_placeMatrix_78 : decode cX5_placeMatrix 78 = .ok (.iconst 0, 1) := by decide +kernel
theorem dX5_placeMatrix_79 : decode cX5_placeMatrix 79 = .ok (.istore 11, 2) := by decide +kernel
theorem dX5_placeMatrix_81 : decode cX5_placeMatrix 81 = .ok (.iload 11, 2) := by decide +kernel
theorem dX5_placeMatrix_83 : decode cX5_placeMatrix 83 = .ok (.aload_n 0, 1) := by decide +kernel
theorem dX5_placeMatrix_84 : decode cX5_placeMatrix 84 = .ok (.getfield 29, 3) := by decide +kernel
theorem dX5_placeMatrix_87 : decode cX5_placeMatrix 87 = .ok (.iload_n 1, 1) := by decide +kernel
theorem dX5_placeMatrix_88 : decode cX5_placeMatrix 88 = .ok (.iaload, 1) := by decide +kernel
theorem dX5_placeMatrix_89 : decode cX5_placeMatrix 89 = .ok (.if_icmp .ge 90, 3) := by decide +kernel
theorem dX5_placeMatrix_92 : decode cX5_placeMatrix 92 = .ok (.aload_n 0, 1) := by decide +kernel
theorem dX5_placeMatrix_93 : decode cX5_placeMatrix 93 = .ok (.getfield 41, 3) := by decide +kernel
theorem dX5_placeMatrix_96 : decode cX5_placeMatrix 96 = .ok (.bipush 25, 2) := by decide +kernel
theorem dX5_placeMatrix_98 : decode cX5_placeMatrix 98 = .ok (.iload_n 1, 1) := by decide +kernel
theorem dX5_placeMatrix_99 : decode cX5_placeMatrix 99 = .ok (.imul, 1) := by decide +kernel
theorem dX5_placeMatrix_100 : decode cX5_placeMatrix 100 = .ok (.aload_n 0, 1) := by decide +kernel
theorem dX5_placeMatrix_101 : decode cX5_placeMatrix 101 = .ok (.getfield 29, 3) := by decide +kernel
theorem dX5_placeMatrix_104 : decode cX5_placeMatrix 104 = .ok (.iload_n 1, 1) := by decide +kernel
theorem dX5_placeMatrix_105 : decode cX5_placeMatrix 105 = .ok (.iaload, 1) := by decide +kernel
theorem dX5_placeMatrix_106 : decode cX5_placeMatrix 106 = .ok (.iload 9, 2) := by decide +kernel
theorem dX5_placeMatrix_108 : decode cX5_placeMatrix 108 = .ok (.imul, 1) := by decide +kernel
theorem dX5_placeMatrix_109 : decode cX5_placeMatrix 109 = .ok (.iadd, 1) := by decide +kernel
theorem dX5_placeMatrix_110 : decode cX5_placeMatrix 110 = .ok (.iload 11, 2) := by decide +kernel
theorem dX5_placeMatrix_112 : decode cX5_placeMatrix 112 = .ok (.iadd, 1) := by decide +kernel
theorem dX5_placeMatrix_113 : decode cX5_placeMatrix 113 = .ok (.iaload, 1) := by decide +kernel
theorem dX5_placeMatrix_114 : decode cX5_placeMatrix 114 = .ok (.istore 12, 2) := by decide +kernel
theorem dX5_placeMatrix_116 : decode cX5_placeMatrix 116 = .ok (.aload_n 0, 1) := by decide +kernel
theorem dX5_placeMatrix_117 : decode cX5_placeMatrix 117 = .ok (.iload 12, 2) := by decide +kernel
theorem dX5_placeMatrix_119 : decode cX5_placeMatrix 119 = .ok (.iload 7, 2) := by decide +kernel
theorem dX5_placeMatrix_121 : decode cX5_placeMatrix 121 = .ok (.iconst 0, 1) := by decide +kernel
theorem dX5_placeMatrix_122 : decode cX5_placeMatrix 122 = .ok (.iload 10, 2) := by decide +kernel
theorem dX5_placeMatrix_124 : decode cX5_placeMatrix 124 = .ok (.aload_n 0, 1) := by decide +kernel
theorem dX5_placeMatrix_125 : decode cX5_placeMatrix 125 = .ok (.getfield 47, 3) := by decide +kernel
theorem dX5_placeMatrix_128 : decode cX5_placeMatrix 128 = .ok (.iload 5, 2) := by decide +kernel
theorem dX5_placeMatrix_130 : decode cX5_placeMatrix 130 = .ok (.iload 11, 2) := by decide +kernel
theorem dX5_placeMatrix_132 : decode cX5_placeMatrix 132 = .ok (.iadd, 1) := by decide +kernel
theorem dX5_placeMatrix_133 : decode cX5_placeMatrix 133 = .ok (.iaload, 1) := by decide +kernel
theorem dX5_placeMatrix_134 : decode cX5_placeMatrix 134 = .ok (.aload_n 0, 1) := by decide +kernel
theorem dX5_placeMatrix_135 : decode cX5_placeMatrix 135 = .ok (.iload 12, 2) := by decide +kernel
theorem dX5_placeMatrix_137 : decode cX5_placeMatrix 137 = .ok (.iload 7, 2) := by decide +kernel
theorem dX5_placeMatrix_139 : decode cX5_placeMatrix 139 = .ok (.iconst 0, 1) := by decide +kernel
theorem dX5_placeMatrix_140 : decode cX5_placeMatrix 140 = .ok (.invokevirtual 169, 3) := by decide +kernel
theorem dX5_placeMatrix_143 : decode cX5_placeMatrix 143 = .ok (.isub, 1) := by decide +kernel
theorem dX5_placeMatrix_144 : decode cX5_placeMatrix 144 = .ok (.invokestatic 108, 3) := by decide +kernel
theorem dX5_placeMatrix_147 : decode cX5_placeMatrix 147 = .ok (.iadd, 1) := by decide +kernel
theorem dX5_placeMatrix_148 : decode cX5_placeMatrix 148 = .ok (.iload 8, 2) := by decide +kernel
theorem dX5_placeMatrix_150 : decode cX5_placeMatrix 150 = .ok (.invokevirtual 173, 3) := by decide +kernel
theorem dX5_placeMatrix_153 : decode cX5_placeMatrix 153 = .ok (.iload 10, 2) := by decide +kernel
theorem dX5_placeMatrix_155 : decode cX5_placeMatrix 155 = .ok (.aload_n 0, 1) := by decide +kernel
theorem dX5_placeMatrix_156 : decode cX5_placeMatrix 156 = .ok (.getfield 47, 3) := by decide +kernel
theorem dX5_placeMatrix_159 : decode cX5_placeMatrix 159 = .ok (.iload 5, 2) := by decide +kernel
theorem dX5_placeMatrix_161 : decode cX5_placeMatrix 161 = .ok (.iload 11, 2) := by decide +kernel
theorem dX5_placeMatrix_163 : decode cX5_placeMatrix 163 = .ok (.iadd, 1) := by decide +kernel
theorem dX5_placeMatrix_164 : decode cX5_placeMatrix 164 = .ok (.iaload, 1) := by decide +kernel
theorem dX5_placeMatrix_165 : decode cX5_placeMatrix 165 = .ok (.iadd, 1) := by decide +kernel
theorem dX5_placeMatrix_166 : decode cX5_placeMatrix 166 = .ok (.iconst 3, 1) := by decide +kernel
theorem dX5_placeMatrix_167 : decode cX5_placeMatrix 167 = .ok (.iload 6, 2) := by decide +kernel
theorem dX5_placeMatrix_169 : decode cX5_placeMatrix 169 = .ok (.imul, 1) := by decide +kernel
theorem dX5_placeMatrix_170 : decode cX5_placeMatrix 170 = .ok (.iadd, 1) := by decide +kernel
theorem dX5_placeMatrix_171 : decode cX5_placeMatrix 171 = .ok (.istore 10, 2) := by decide +kernel
theorem dX5_placeMatrix_173 : decode cX5_placeMatrix 173 = .ok (.iinc 11 1, 3) := by decide +kernel
theorem dX5_placeMatrix_176 : decode cX5_placeMatrix 176 = .ok (.goto (-95), 3) := by decide +kernel
theorem dX5_placeMatrix_179 : decode cX5_placeMatrix 179 = .ok (.iload 8, 2) := by decide +kernel
theorem dX5_placeMatrix_181 : decode cX5_placeMatrix 181 = .ok (.aload_n 0, 1) := by decide +kernel
theorem dX5_placeMatrix_182 : decode cX5_placeMatrix 182 = .ok (.getfield 47, 3) := by decide +kernel
theorem dX5_placeMatrix_185 : decode cX5_placeMatrix 185 = .ok (.iload 5, 2) := by decide +kernel
theorem dX5_placeMatrix_187 : decode cX5_placeMatrix 187 = .ok (.bipush 10, 2) := by decide +kernel
theorem dX5_placeMatrix_189 : decode cX5_placeMatrix 189 = .ok (.iadd, 1) := by decide +kernel
theorem dX5_placeMatrix_190 : decode cX5_placeMatrix 190 = .ok (.iload 9, 2) := by decide +kernel
theorem dX5_placeMatrix_192 : decode cX5_placeMatrix 192 = .ok (.iadd, 1) := by decide +kernel
theorem dX5_placeMatrix_193 : decode cX5_placeMatrix 193 = .ok (.iaload, 1) := by decide +kernel
theorem dX5_placeMatrix_194 : decode cX5_placeMatrix 194 = .ok (.isub, 1) := by decide +kernel
theorem dX5_placeMatrix_195 : decode cX5_placeMatrix 195 = .ok (.iconst 2, 1) := by decide +kernel
theorem dX5_placeMatrix_196 : decode cX5_placeMatrix 196 = .ok (.iload 6, 2) := by decide +kernel
theorem dX5_placeMatrix_198 : decode cX5_placeMatrix 198 = .ok (.imul, 1) := by decide +kernel
theorem dX5_placeMatrix_199 : decode cX5_placeMatrix 199 = .ok (.isub, 1) := by decide +kernel
theorem dX5_placeMatrix_200 : decode cX5_placeMatrix 200 = .ok (.istore 8, 2) := by decide +kernel
theorem dX5_placeMatrix_202 : decode cX5_placeMatrix 202 = .ok (.iinc 9 1, 3) := by decide +kernel
theorem dX5_placeMatrix_205 : decode cX5_placeMatrix 205 = .ok (.goto (-158), 3) := by decide +kernel
theorem dX5_placeMatrix_208 : decode cX5_placeMatrix 208 = .ok (.return_, 1) := by decide +kernel
theorem dX5_placeNucleus_0 : decode cX5_placeNucleus 0 = .ok (.aload_n 0, 1) := by decide +kernel
theorem dX5_placeNucleus_1 : decode cX5_placeNucleus 1 = .ok (.getfield 20, 3) := by decide +kernel
theorem dX5_placeNucleus_4 : decode cX5_placeNucleus 4 = .ok (.iload_n 1, 1) := by decide +kernel
theorem dX5_placeNucleus_5 : decode cX5_placeNucleus 5 = .ok (.iaload, 1) := by decide +kernel
theorem dX5_placeNucleus_6 : decode cX5_placeNucleus 6 = .ok (.ifCond .ne 50, 3) := by decide +kernel
theorem dX5_placeNucleus_9 : decode cX5_placeNucleus 9 = .ok (.aload_n 0, 1) := by decide +kernel
theorem dX5_placeNucleus_10 : decode cX5_placeNucleus 10 = .ok (.getfield 23, 3) := by decide +kernel
theorem dX5_placeNucleus_13 : decode cX5_placeNucleus 13 = .ok (.iload_n 1, 1) := by decide +kernel
theorem dX5_placeNucleus_14 : decode cX5_placeNucleus 14 = .ok (.iaload, 1) := by decide +kernel
theorem dX5_placeNucleus_15 : decode cX5_placeNucleus 15 = .ok (.iload_n 2, 1) := by decide +kernel
theorem dX5_placeNucleus_16 : decode cX5_placeNucleus 16 = .ok (.invokestatic 140, 3) := by decide +kernel
theorem dX5_placeNucleus_19 : decode cX5_placeNucleus 19 = .ok (.istore 6, 2) := by decide +kernel
theorem dX5_placeNucleus_21 : decode cX5_placeNucleus 21 = .ok (.aload_n 0, 1) := by decide +kernel
theorem dX5_placeNucleus_22 : decode cX5_placeNucleus 22 = .ok (.iconst 0, 1) := by decide +kernel
theorem dX5_placeNucleus_23 : decode cX5_placeNucleus 23 = .ok (.iload 4, 2) := by decide +kernel
theorem dX5_placeNucleus_25 : decode cX5_placeNucleus 25 = .ok (.iload 5, 2) := by decide +kernel
theorem dX5_placeNucleus_27 : decode cX5_placeNucleus 27 = .ok (.iload 6, 2) := by decide +kernel
theorem dX5_placeNucleus_29 : decode cX5_placeNucleus 29 = .ok (.iload 6, 2) := by decide +kernel
theorem dX5_placeNucleus_31 : decode cX5_placeNucleus 31 = .ok (.iconst 4, 1) := by decide +kernel
theorem dX5_placeNucleus_32 : decode cX5_placeNucleus 32 = .ok (.aload_n 0, 1) := by decide +kernel
theorem dX5_placeNucleus_33 : decode cX5_placeNucleus 33 = .ok (.getfield 26, 3) := by decide +kernel
theorem dX5_placeNucleus_36 : decode cX5_placeNucleus 36 = .ok (.iload_n 1, 1) := by decide +kernel
theorem dX5_placeNucleus_37 : decode cX5_placeNucleus 37 = .ok (.iaload, 1) := by decide +kernel
theorem dX5_placeNucleus_38 : decode cX5_placeNucleus 38 = .ok (.iconst 5, 1) := by decide +kernel
theorem dX5_placeNucleus_39 : decode cX5_placeNucleus 39 = .ok (.irem, 1) := by decide +kernel
theorem dX5_placeNucleus_40 : decode cX5_placeNucleus 40 = .ok (.iadd, 1) := by decide +kernel
theorem dX5_placeNucleus_41 : decode cX5_placeNucleus 41 = .ok (.imul, 1) := by decide +kernel
theorem dX5_placeNucleus_42 : decode cX5_placeNucleus 42 = .ok (.aload_n 0, 1) := by decide +kernel
theorem dX5_placeNucleus_43 : decode cX5_placeNucleus 43 = .ok (.getfield 26, 3) := by decide +kernel
theorem dX5_placeNucleus_46 : decode cX5_placeNucleus 46 = .ok (.iload_n 1, 1) := by decide +kernel
theorem dX5_placeNucleus_47 : decode cX5_placeNucleus 47 = .ok (.iaload, 1) := by decide +kernel
theorem dX5_placeNucleus_48 : decode cX5_placeNucleus 48 = .ok (.iload_n 1, 1) := by decide +kernel
theorem dX5_placeNucleus_49 : decode cX5_placeNucleus 49 = .ok (.iconst 0, 1) := by decide +kernel
theorem dX5_placeNucleus_50 : decode cX5_placeNucleus 50 = .ok (.invokevirtual 177, 3) := by decide +kernel
theorem dX5_placeNucleus_53 : decode cX5_placeNucleus 53 = .ok (.goto 61, 3) := by decide +kernel
theorem dX5_placeNucleus_56 : decode cX5_placeNucleus 56 = .ok (.aload_n 0, 1) := by decide +kernel
theorem dX5_placeNucleus_57 : decode cX5_placeNucleus 57 = .ok (.getfield 20, 3) := by decide +kernel
theorem dX5_placeNucleus_60 : decode cX5_placeNucleus 60 = .ok (.iload_n 1, 1) := by decide +kernel
theorem dX5_placeNucleus_61 : decode cX5_placeNucleus 61 = .ok (.iaload, 1) := by decide +kernel
theorem dX5_placeNucleus_62 : decode cX5_placeNucleus 62 = .ok (.iconst 1, 1) := by decide +kernel
theorem dX5_placeNucleus_63 : decode cX5_placeNucleus 63 = .ok (.if_icmp .ne 17, 3) := by decide +kernel
theorem dX5_placeNucleus_66 : decode cX5_placeNucleus 66 = .ok (.aload_n 0, 1) := by decide +kernel
theorem dX5_placeNucleus_67 : decode cX5_placeNucleus 67 = .ok (.iload_n 1, 1) := by decide +kernel
theorem dX5_placeNucleus_68 : decode cX5_placeNucleus 68 = .ok (.iload_n 2, 1) := by decide +kernel
theorem dX5_placeNucleus_69 : decode cX5_placeNucleus 69 = .ok (.iload_n 3, 1) := by decide +kernel
theorem dX5_placeNucleus_70 : decode cX5_placeNucleus 70 = .ok (.iload 4, 2) := by decide +kernel
theorem dX5_placeNucleus_72 : decode cX5_placeNucleus 72 = .ok (.iload 5, 2) := by decide +kernel
theorem dX5_placeNucleus_74 : decode cX5_placeNucleus 74 = .ok (.invokevirtual 181, 3) := by decide +kernel
theorem dX5_placeNucleus_77 : decode cX5_placeNucleus 77 = .ok (.goto 37, 3) := by decide +kernel
theorem dX5_placeNucleus_80 : decode cX5_placeNucleus 80 = .ok (.aload_n 0, 1) := by decide +kernel
theorem dX5_placeNucleus_81 : decode cX5_placeNucleus 81 = .ok (.getfield 20, 3) := by decide +kernel
theorem dX5_placeNucleus_84 : decode cX5_placeNucleus 84 = .ok (.iload_n 1, 1) := by decide +kernel
theorem dX5_placeNucleus_85 : decode cX5_placeNucleus 85 = .ok (.iaload, 1) := by decide +kernel
theorem dX5_placeNucleus_86 : decode cX5_placeNucleus 86 = .ok (.iconst 2, 1) := by decide +kernel
theorem dX5_placeNucleus_87 : decode cX5_placeNucleus 87 = .ok (.if_icmp .ne 17, 3) := by decide +kernel
theorem dX5_placeNucleus_90 : decode cX5_placeNucleus 90 = .ok (.aload_n 0, 1) := by decide +kernel
theorem dX5_placeNucleus_91 : decode cX5_placeNucleus 91 = .ok (.iload_n 1, 1) := by decide +kernel
theorem dX5_placeNucleus_92 : decode cX5_placeNucleus 92 = .ok (.iload_n 2, 1) := by decide +kernel
theorem dX5_placeNucleus_93 : decode cX5_placeNucleus 93 = .ok (.iload_n 3, 1) := by decide +kernel
theorem dX5_placeNucleus_94 : decode cX5_placeNucleus 94 = .ok (.iload 4, 2) := by decide +kernel
theorem dX5_placeNucleus_96 : decode cX5_placeNucleus 96 = .ok (.iload 5, 2) := by decide +kernel
theorem dX5_placeNucleus_98 : decode cX5_placeNucleus 98 = .ok (.invokevirtual 184, 3) := by decide +kernel
theorem dX5_placeNucleus_101 : decode cX5_placeNucleus 101 = .ok (.goto 13, 3) := by decide +kernel
theorem dX5_placeNucleus_104 : decode cX5_placeNucleus 104 = .ok (.aload_n 0, 1) := by decide +kernel
theorem dX5_placeNucleus_105 : decode cX5_placeNucleus 105 = .ok (.iload_n 1, 1) := by decide +kernel
theorem dX5_placeNucleus_106 : decode cX5_placeNucleus 106 = .ok (.iload_n 2, 1) := by decide +kernel
theorem dX5_placeNucleus_107 : decode cX5_placeNucleus 107 = .ok (.iload 4, 2) := by decide +kernel
theorem dX5_placeNucleus_109 : decode cX5_placeNucleus 109 = .ok (.iload 5, 2) := by decide +kernel
theorem dX5_placeNucleus_111 : decode cX5_placeNucleus 111 = .ok (.invokevirtual 187, 3) := by decide +kernel
theorem dX5_placeNucleus_114 : decode cX5_placeNucleus 114 = .ok (.return_, 1) := by decide +kernel
theorem dX5_placeAtom_0 : decode cX5_placeAtom 0 = .ok (.aload_n 0, 1) := by decide +kernel
theorem dX5_placeAtom_1 : decode cX5_placeAtom 1 = .ok (.iload_n 1, 1) := by decide +kernel
theorem dX5_placeAtom_2 : decode cX5_placeAtom 2 = .ok (.iload_n 2, 1) := by decide +kernel
theorem dX5_placeAtom_3 : decode cX5_placeAtom 3 = .ok (.iload_n 3, 1) := by decide +kernel
theorem dX5_placeAtom_4 : decode cX5_placeAtom 4 = .ok (.invokevirtual 159, 3) := by decide +kernel
theorem dX5_placeAtom_7 : decode cX5_placeAtom 7 = .ok (.aload_n 0, 1) := by decide +kernel
theorem dX5_placeAtom_8 : decode cX5_placeAtom 8 = .ok (.getfield 96, 3) := by decide +kernel
theorem dX5_placeAtom_11 : decode cX5_placeAtom 11 = .ok (.istore 6, 2) := by decide +kernel
theorem dX5_placeAtom_13 : decode cX5_placeAtom 13 = .ok (.aload_n 0, 1) := by decide +kernel
theorem dX5_placeAtom_14 : decode cX5_placeAtom 14 = .ok (.getfield 125, 3) := by decide +kernel
theorem dX5_placeAtom_17 : decode cX5_placeAtom 17 = .ok (.istore 7, 2) := by decide +kernel
theorem dX5_placeAtom_19 : decode cX5_placeAtom 19 = .ok (.aload_n 0, 1) := by decide +kernel
theorem dX5_placeAtom_20 : decode cX5_placeAtom 20 = .ok (.getfield 128, 3) := by decide +kernel
theorem dX5_placeAtom_23 : decode cX5_placeAtom 23 = .ok (.istore 8, 2) := by decide +kernel
theorem dX5_placeAtom_25 : decode cX5_placeAtom 25 = .ok (.aload_n 0, 1) := by decide +kernel
theorem dX5_placeAtom_26 : decode cX5_placeAtom 26 = .ok (.iload_n 1, 1) := by decide +kernel
theorem dX5_placeAtom_27 : decode cX5_placeAtom 27 = .ok (.iload_n 2, 1) := by decide +kernel
theorem dX5_placeAtom_28 : decode cX5_placeAtom 28 = .ok (.iload_n 3, 1) := by decide +kernel
theorem dX5_placeAtom_29 : decode cX5_placeAtom 29 = .ok (.invokevirtual 153, 3) := by decide +kernel
theorem dX5_placeAtom_32 : decode cX5_placeAtom 32 = .ok (.aload_n 0, 1) := by decide +kernel
theorem dX5_placeAtom_33 : decode cX5_placeAtom 33 = .ok (.getfield 96, 3) := by decide +kernel
theorem dX5_placeAtom_36 : decode cX5_placeAtom 36 = .ok (.istore 9, 2) := by decide +kernel
theorem dX5_placeAtom_38 : decode cX5_placeAtom 38 = .ok (.aload_n 0, 1) := by decide +kernel
theorem dX5_placeAtom_39 : decode cX5_placeAtom 39 = .ok (.getfield 35, 3) := by decide +kernel
theorem dX5_placeAtom_42 : decode cX5_placeAtom 42 = .ok (.iload_n 1, 1) := by decide +kernel
theorem dX5_placeAtom_43 : decode cX5_placeAtom 43 = .ok (.iaload, 1) := by decide +kernel
theorem dX5_placeAtom_44 : decode cX5_placeAtom 44 = .ok (.iconst (-1), 1) := by decide +kernel
theorem dX5_placeAtom_45 : decode cX5_placeAtom 45 = .ok (.if_icmp .ne 13, 3) := by decide +kernel
theorem dX5_placeAtom_48 : decode cX5_placeAtom 48 = .ok (.aload_n 0, 1) := by decide +kernel
theorem dX5_placeAtom_49 : decode cX5_placeAtom 49 = .ok (.getfield 38, 3) := by decide +kernel
theorem dX5_placeAtom_52 : decode cX5_placeAtom 52 = .ok (.iload_n 1, 1) := by decide +kernel
theorem dX5_placeAtom_53 : decode cX5_placeAtom 53 = .ok (.iaload, 1) := by decide +kernel
theorem dX5_placeAtom_54 : decode cX5_placeAtom 54 = .ok (.iconst (-1), 1) := by decide +kernel
theorem dX5_placeAtom_55 : decode cX5_placeAtom 55 = .ok (.if_icmp .eq 7, 3) := by decide +kernel
theorem dX5_placeAtom_58 : decode cX5_placeAtom 58 = .ok (.iconst 1, 1) := by decide +kernel
theorem dX5_placeAtom_59 : decode cX5_placeAtom 59 = .ok (.goto 4, 3) := by decide +kernel
theorem dX5_placeAtom_62 : decode cX5_placeAtom 62 = .ok (.iconst 0, 1) := by decide +kernel
theorem dX5_placeAtom_63 : decode cX5_placeAtom 63 = .ok (.istore 10, 2) := by decide +kernel
theorem dX5_placeAtom_65 : decode cX5_placeAtom 65 = .ok (.iload 10, 2) := by decide +kernel
theorem dX5_placeAtom_67 : decode cX5_placeAtom 67 = .ok (.ifCond .eq 21, 3) := by decide +kernel
theorem dX5_placeAtom_70 : decode cX5_placeAtom 70 = .ok (.aload_n 0, 1) := by decide +kernel
theorem dX5_placeAtom_71 : decode cX5_placeAtom 71 = .ok (.getfield 23, 3) := by decide +kernel
theorem dX5_placeAtom_74 : decode cX5_placeAtom 74 = .ok (.iload_n 1, 1) := by decide +kernel
theorem dX5_placeAtom_75 : decode cX5_placeAtom 75 = .ok (.iaload, 1) := by decide +kernel
theorem dX5_placeAtom_76 : decode cX5_placeAtom 76 = .ok (.iconst 1, 1) := by decide +kernel
theorem dX5_placeAtom_77 : decode cX5_placeAtom 77 = .ok (.if_icmp .ne 11, 3) := by decide +kernel
theorem dX5_placeAtom_80 : decode cX5_placeAtom 80 = .ok (.iload_n 2, 1) := by decide +kernel
theorem dX5_placeAtom_81 : decode cX5_placeAtom 81 = .ok (.ifCond .ne 7, 3) := by decide +kernel
theorem dX5_placeAtom_84 : decode cX5_placeAtom 84 = .ok (.iconst 1, 1) := by decide +kernel
theorem dX5_placeAtom_85 : decode cX5_placeAtom 85 = .ok (.goto 4, 3) := by decide +kernel
theorem dX5_placeAtom_88 : decode cX5_placeAtom 88 = .ok (.iconst 0, 1) := by decide +kernel
theorem dX5_placeAtom_89 : decode cX5_placeAtom 89 = .ok (.istore 11, 2) := by decide +kernel
theorem dX5_placeAtom_91 : decode cX5_placeAtom 91 = .ok (.iload_n 2, 1) := by decide +kernel
theorem dX5_placeAtom_92 : decode cX5_placeAtom 92 = .ok (.invokestatic 156, 3) := by decide +kernel
theorem dX5_placeAtom_95 : decode cX5_placeAtom 95 = .ok (.istore 12, 2) := by decide +kernel
theorem dX5_placeAtom_97 : decode cX5_placeAtom 97 = .ok (.aload_n 0, 1) := by decide +kernel
theorem dX5_placeAtom_98 : decode cX5_placeAtom 98 = .ok (.iload_n 1, 1) := by decide +kernel
theorem dX5_placeAtom_99 : decode cX5_placeAtom 99 = .ok (.iload_n 2, 1) := by decide +kernel
theorem dX5_placeAtom_100 : decode cX5_placeAtom 100 = .ok (.iload_n 3, 1) := by decide +kernel
theorem dX5_placeAtom_101 : decode cX5_placeAtom 101 = .ok (.iload 11, 2) := by decide +kernel
theorem dX5_placeAtom_103 : decode cX5_placeAtom 103 = .ok (.ifCond .eq 17, 3) := by decide +kernel
theorem dX5_placeAtom_106 : decode cX5_placeAtom 106 = .ok (.iload 4, 2) := by decide +kernel
theorem dX5_placeAtom_108 : decode cX5_placeAtom 108 = .ok (.iload 6, 2) := by decide +kernel
theorem dX5_placeAtom_110 : decode cX5_placeAtom 110 = .ok (.iload 9, 2) := by decide +kernel
theorem dX5_placeAtom_112 : decode cX5_placeAtom 112 = .ok (.isub, 1) := by decide +kernel
theorem dX5_placeAtom_113 : decode cX5_placeAtom 113 = .ok (.invokestatic 108, 3) := by decide +kernel
theorem dX5_placeAtom_116 : decode cX5_placeAtom 116 = .ok (.iadd, 1) := by decide +kernel
theorem dX5_placeAtom_117 : decode cX5_placeAtom 117 = .ok (.goto 5, 3) := by decide +kernel
theorem dX5_placeAtom_120 : decode cX5_placeAtom 120 = .ok (.iload 4, 2) := by decide +kernel
theorem dX5_placeAtom_122 : decode cX5_placeAtom 122 = .ok (.iload 5, 2) := by decide +kernel
theorem dX5_placeAtom_124 : decode cX5_placeAtom 124 = .ok (.invokevirtual 191, 3) := by decide +kernel
theorem dX5_placeAtom_127 : decode cX5_placeAtom 127 = .ok (.aload_n 0, 1) := by decide +kernel
theorem dX5_placeAtom_128 : decode cX5_placeAtom 128 = .ok (.getfield 35, 3) := by decide +kernel
theorem dX5_placeAtom_131 : decode cX5_placeAtom 131 = .ok (.iload_n 1, 1) := by decide +kernel
theorem dX5_placeAtom_132 : decode cX5_placeAtom 132 = .ok (.iaload, 1) := by decide +kernel
theorem dX5_placeAtom_133 : decode cX5_placeAtom 133 = .ok (.iconst (-1), 1) := by decide +kernel
theorem dX5_placeAtom_134 : decode cX5_placeAtom 134 = .ok (.if_icmp .eq 57, 3) := by decide +kernel
theorem dX5_placeAtom_137 : decode cX5_placeAtom 137 = .ok (.iload 11, 2) := by decide +kernel
theorem dX5_placeAtom_139 : decode cX5_placeAtom 139 = .ok (.ifCond .eq 25, 3) := by decide +kernel
theorem dX5_placeAtom_142 : decode cX5_placeAtom 142 = .ok (.iload 6, 2) := by decide +kernel
theorem dX5_placeAtom_144 : decode cX5_placeAtom 144 = .ok (.aload_n 0, 1) := by decide +kernel
theorem dX5_placeAtom_145 : decode cX5_placeAtom 145 = .ok (.aload_n 0, 1) := by decide +kernel
theorem dX5_placeAtom_146 : decode cX5_placeAtom 146 = .ok (.getfield 35, 3) := by decide +kernel
theorem dX5_placeAtom_149 : decode cX5_placeAtom 149 = .ok (.iload_n 1, 1) := by decide +kernel
theorem dX5_placeAtom_150 : decode cX5_placeAtom 150 = .ok (.iaload, 1) := by decide +kernel
theorem dX5_placeAtom_151 : decode cX5_placeAtom 151 = .ok (.iload 12, 2) := by decide +kernel
theorem dX5_placeAtom_153 : decode cX5_placeAtom 153 = .ok (.iload_n 3, 1) := by decide +kernel
theorem dX5_placeAtom_154 : decode cX5_placeAtom 154 = .ok (.invokevirtual 169, 3) := by decide +kernel
theorem dX5_placeAtom_157 : decode cX5_placeAtom 157 = .ok (.isub, 1) := by decide +kernel
theorem dX5_placeAtom_158 : decode cX5_placeAtom 158 = .ok (.invokestatic 108, 3) := by decide +kernel
theorem dX5_placeAtom_161 : decode cX5_placeAtom 161 = .ok (.goto 5, 3) := by decide +kernel
theorem dX5_placeAtom_164 : decode cX5_placeAtom 164 = .ok (.iload 9, 2) := by decide +kernel
theorem dX5_placeAtom_166 : decode cX5_placeAtom 166 = .ok (.istore 13, 2) := by decide +kernel
theorem dX5_placeAtom_168 : decode cX5_placeAtom 168 = .ok (.aload_n 0, 1) := by decide +kernel
theorem dX5_placeAtom_169 : decode cX5_placeAtom 169 = .ok (.aload_n 0, 1) := by decide +kernel
theorem dX5_placeAtom_170 : decode cX5_placeAtom 170 = .ok (.getfield 35, 3) := by decide +kernel
theorem dX5_placeAtom_173 : decode cX5_placeAtom 173 = .ok (.iload_n 1, 1) := by decide +kernel
theorem dX5_placeAtom_174 : decode cX5_placeAtom 174 = .ok (.iaload, 1) := by decide +kernel
theorem dX5_placeAtom_175 : decode cX5_placeAtom 175 = .ok (.iload 12, 2) := by decide +kernel
theorem dX5_placeAtom_177 : decode cX5_placeAtom 177 = .ok (.iload_n 3, 1) := by decide +kernel
theorem dX5_placeAtom_178 : decode cX5_placeAtom 178 = .ok (.iload 4, 2) := by decide +kernel
theorem dX5_placeAtom_180 : decode cX5_placeAtom 180 = .ok (.iload 13, 2) := by decide +kernel
theorem dX5_placeAtom_182 : decode cX5_placeAtom 182 = .ok (.iadd, 1) := by decide +kernel
theorem dX5_placeAtom_183 : decode cX5_placeAtom 183 = .ok (.iload 5, 2) := by decide +kernel
theorem dX5_placeAtom_185 : decode cX5_placeAtom 185 = .ok (.iload 7, 2) := by decide +kernel
theorem dX5_placeAtom_187 : decode cX5_placeAtom 187 = .ok (.iadd, 1) := by decide +kernel
theorem dX5_placeAtom_188 : decode cX5_placeAtom 188 = .ok (.invokevirtual 173, 3) := by decide +kernel
theorem dX5_placeAtom_191 : decode cX5_placeAtom 191 = .ok (.aload_n 0, 1) := by decide +kernel
theorem dX5_placeAtom_192 : decode cX5_placeAtom 192 = .ok (.getfield 38, 3) := by decide +kernel
theorem dX5_placeAtom_195 : decode cX5_placeAtom 195 = .ok (.iload_n 1, 1) := by decide +kernel
theorem dX5_placeAtom_196 : decode cX5_placeAtom 196 = .ok (.iaload, 1) := by decide +kernel
theorem dX5_placeAtom_197 : decode cX5_placeAtom 197 = .ok (.iconst (-1), 1) := by decide +kernel
theorem dX5_placeAtom_198 : decode cX5_placeAtom 198 = .ok (.if_icmp .eq 57, 3) := by decide +kernel
theorem dX5_placeAtom_201 : decode cX5_placeAtom 201 = .ok (.iload 11, 2) := by decide +kernel
theorem dX5_placeAtom_203 : decode cX5_placeAtom 203 = .ok (.ifCond .eq 25, 3) := by decide +kernel
theorem dX5_placeAtom_206 : decode cX5_placeAtom 206 = .ok (.iload 6, 2) := by decide +kernel
theorem dX5_placeAtom_208 : decode cX5_placeAtom 208 = .ok (.aload_n 0, 1) := by decide +kernel
theorem dX5_placeAtom_209 : decode cX5_placeAtom 209 = .ok (.aload_n 0, 1) := by decide +kernel
theorem dX5_placeAtom_210 : decode cX5_placeAtom 210 = .ok (.getfield 38, 3) := by decide +kernel
theorem dX5_placeAtom_213 : decode cX5_placeAtom 213 = .ok (.iload_n 1, 1) := by decide +kernel
theorem dX5_placeAtom_214 : decode cX5_placeAtom 214 = .ok (.iaload, 1) := by decide +kernel
theorem dX5_placeAtom_215 : decode cX5_placeAtom 215 = .ok (.iload 12, 2) := by decide +kernel
theorem dX5_placeAtom_217 : decode cX5_placeAtom 217 = .ok (.iconst 1, 1) := by decide +kernel
theorem dX5_placeAtom_218 : decode cX5_placeAtom 218 = .ok (.invokevirtual 169, 3) := by decide +kernel
theorem dX5_placeAtom_221 : decode cX5_placeAtom 221 = .ok (.isub, 1) := by decide +kernel
theorem dX5_placeAtom_222 : decode cX5_placeAtom 222 = .ok (.invokestatic 108, 3) := by decide +kernel
theorem dX5_placeAtom_225 : decode cX5_placeAtom 225 = .ok (.goto 5, 3) := by decide +kernel
theorem dX5_placeAtom_228 : decode cX5_placeAtom 228 = .ok (.iload 9, 2) := by decide +kernel
theorem dX5_placeAtom_230 : decode cX5_placeAtom 230 = .ok (.istore 13, 2) := by decide +kernel
theorem dX5_placeAtom_232 : decode cX5_placeAtom 232 = .ok (.aload_n 0, 1) := by decide +kernel
theorem dX5_placeAtom_233 : decode cX5_placeAtom 233 = .ok (.aload_n 0, 1) := by decide +kernel
theorem dX5_placeAtom_234 : decode cX5_placeAtom 234 = .ok (.getfield 38, 3) := by decide +kernel
theorem dX5_placeAtom_237 : decode cX5_placeAtom 237 = .ok (.iload_n 1, 1) := by decide +kernel
theorem dX5_placeAtom_238 : decode cX5_placeAtom 238 = .ok (.iaload, 1) := by decide +kernel
theorem dX5_placeAtom_239 : decode cX5_placeAtom 239 = .ok (.iload 12, 2) := by decide +kernel
theorem dX5_placeAtom_241 : decode cX5_placeAtom 241 = .ok (.iconst 1, 1) := by decide +kernel
theorem dX5_placeAtom_242 : decode cX5_placeAtom 242 = .ok (.iload 4, 2) := by decide +kernel
theorem dX5_placeAtom_244 : decode cX5_placeAtom 244 = .ok (.iload 13, 2) := by decide +kernel
theorem dX5_placeAtom_246 : decode cX5_placeAtom 246 = .ok (.iadd, 1) := by decide +kernel
theorem dX5_placeAtom_247 : decode cX5_placeAtom 247 = .ok (.iload 5, 2) := by decide +kernel
theorem dX5_placeAtom_249 : decode cX5_placeAtom 249 = .ok (.iload 8, 2) := by decide +kernel
theorem dX5_placeAtom_251 : decode cX5_placeAtom 251 = .ok (.isub, 1) := by decide +kernel
theorem dX5_placeAtom_252 : decode cX5_placeAtom 252 = .ok (.invokevirtual 173, 3) := by decide +kernel
theorem dX5_placeAtom_255 : decode cX5_placeAtom 255 = .ok (.return_, 1) := by decide +kernel
theorem dX5_placeList_0 : decode cX5_placeList 0 = .ok (.iload 4, 2) := by decide +kernel
theorem dX5_placeList_2 : decode cX5_placeList 2 = .ok (.istore 6, 2) := by decide +kernel
theorem dX5_placeList_4 : decode cX5_placeList 4 = .ok (.iload_n 2, 1) := by decide +kernel
theorem dX5_placeList_5 : decode cX5_placeList 5 = .ok (.istore 7, 2) := by decide +kernel
theorem dX5_placeList_7 : decode cX5_placeList 7 = .ok (.iload_n 3, 1) := by decide +kernel
theorem dX5_placeList_8 : decode cX5_placeList 8 = .ok (.istore 8, 2) := by decide +kernel
theorem dX5_placeList_10 : decode cX5_placeList 10 = .ok (.iconst (-1), 1) := by decide +kernel
theorem dX5_placeList_11 : decode cX5_placeList 11 = .ok (.istore 9, 2) := by decide +kernel
theorem dX5_placeList_13 : decode cX5_placeList 13 = .ok (.iconst 0, 1) := by decide +kernel
theorem dX5_placeList_14 : decode cX5_placeList 14 = .ok (.istore 10, 2) := by decide +kernel
theorem dX5_placeList_16 : decode cX5_placeList 16 = .ok (.iload 10, 2) := by decide +kernel
theorem dX5_placeList_18 : decode cX5_placeList 18 = .ok (.aload_n 0, 1) := by decide +kernel
theorem dX5_placeList_19 : decode cX5_placeList 19 = .ok (.getfield 53, 3) := by decide +kernel
theorem dX5_placeList_22 : decode cX5_placeList 22 = .ok (.if_icmp .ge 141, 3) := by decide +kernel
theorem dX5_placeList_25 : decode cX5_placeList 25 = .ok (.aload_n 0, 1) := by decide +kernel
theorem dX5_placeList_26 : decode cX5_placeList 26 = .ok (.getfield 17, 3) := by decide +kernel
theorem dX5_placeList_29 : decode cX5_placeList 29 = .ok (.iload 10, 2) := by decide +kernel
theorem dX5_placeList_31 : decode cX5_placeList 31 = .ok (.iaload, 1) := by decide +kernel
theorem dX5_placeList_32 : decode cX5_placeList 32 = .ok (.iload_n 1, 1) := by decide +kernel
theorem dX5_placeList_33 : decode cX5_placeList 33 = .ok (.if_icmp .ne 44, 3) := by decide +kernel
theorem dX5_placeList_36 : decode cX5_placeList 36 = .ok (.aload_n 0, 1) := by decide +kernel
theorem dX5_placeList_37 : decode cX5_placeList 37 = .ok (.getfield 20, 3) := by decide +kernel
theorem dX5_placeList_40 : decode cX5_placeList 40 = .ok (.iload 10, 2) := by decide +kernel
theorem dX5_placeList_42 : decode cX5_placeList 42 = .ok (.iaload, 1) := by decide +kernel
theorem dX5_placeList_43 : decode cX5_placeList 43 = .ok (.iconst 4, 1) := by decide +kernel
theorem dX5_placeList_44 : decode cX5_placeList 44 = .ok (.if_icmp .ne 33, 3) := by decide +kernel
theorem dX5_placeList_47 : decode cX5_placeList 47 = .ok (.aload_n 0, 1) := by decide +kernel
theorem dX5_placeList_48 : decode cX5_placeList 48 = .ok (.getfield 26, 3) := by decide +kernel
theorem dX5_placeList_51 : decode cX5_placeList 51 = .ok (.iload 10, 2) := by decide +kernel
theorem dX5_placeList_53 : decode cX5_placeList 53 = .ok (.iaload, 1) := by decide +kernel
theorem dX5_placeList_54 : decode cX5_placeList 54 = .ok (.istore 7, 2) := by decide +kernel
theorem dX5_placeList_56 : decode cX5_placeList 56 = .ok (.aload_n 0, 1) := by decide +kernel
theorem dX5_placeList_57 : decode cX5_placeList 57 = .ok (.getfield 29, 3) := by decide +kernel
theorem dX5_placeList_60 : decode cX5_placeList 60 = .ok (.iload 10, 2) := by decide +kernel
theorem dX5_placeList_62 : decode cX5_placeList 62 = .ok (.iaload, 1) := by decide +kernel
theorem dX5_placeList_63 : decode cX5_placeList 63 = .ok (.iconst 1, 1) := by decide +kernel
theorem dX5_placeList_64 : decode cX5_placeList 64 = .ok (.if_icmp .ne 7, 3) := by decide +kernel
theorem dX5_placeList_67 : decode cX5_placeList 67 = .ok (.iconst 1, 1) := by decide +kernel
theorem dX5_placeList_68 : decode cX5_placeList 68 = .ok (.goto 4, 3) := by decide +kernel
theorem dX5_placeList_71 : decode cX5_placeList 71 = .ok (.iconst 0, 1) := by decide +kernel
theorem dX5_placeList_72 : decode cX5_placeList 72 = .ok (.istore 8, 2) := by decide +kernel
theorem dX5_placeList_74 : decode cX5_placeList 74 = .ok (.goto 83, 3) := by decide +kernel
theorem dX5_placeList_77 : decode cX5_placeList 77 = .ok (.aload_n 0, 1) := by decide +kernel
theorem dX5_placeList_78 : decode cX5_placeList 78 = .ok (.getfield 17, 3) := by decide +kernel
theorem dX5_placeList_81 : decode cX5_placeList 81 = .ok (.iload 10, 2) := by decide +kernel
theorem dX5_placeList_83 : decode cX5_placeList 83 = .ok (.iaload, 1) := by decide +kernel
theorem dX5_placeList_84 : decode cX5_placeList 84 = .ok (.iload_n 1, 1) := by decide +kernel
theorem dX5_placeList_85 : decode cX5_placeList 85 = .ok (.if_icmp .ne 72, 3) := by decide +kernel
theorem dX5_placeList_88 : decode cX5_placeList 88 = .ok (.aload_n 0, 1) := by decide +kernel
theorem dX5_placeList_89 : decode cX5_placeList 89 = .ok (.iload 10, 2) := by decide +kernel
theorem dX5_placeList_91 : decode cX5_placeList 91 = .ok (.invokevirtual 86, 3) := by decide +kernel
theorem dX5_placeList_94 : decode cX5_placeList 94 = .ok (.istore 11, 2) := by decide +kernel
theorem dX5_placeList_96 : decode cX5_placeList 96 = .ok (.iload 6, 2) := by decide +kernel
theorem dX5_placeList_98 : decode cX5_placeList 98 = .ok (.iload 9, 2) := by decide +kernel
theorem dX5_placeList_100 : decode cX5_placeList 100 = .ok (.iconst (-1), 1) := by decide +kernel
theorem dX5_placeList_101 : decode cX5_placeList 101 = .ok (.if_icmp .ne 7, 3) := by decide +kernel
theorem dX5_placeList_104 : decode cX5_placeList 104 = .ok (.iconst 0, 1) := by decide +kernel
theorem dX5_placeList_105 : decode cX5_placeList 105 = .ok (.goto 12, 3) := by decide +kernel
theorem dX5_placeList_108 : decode cX5_placeList 108 = .ok (.iload 9, 2) := by decide +kernel
theorem dX5_placeList_110 : decode cX5_placeList 110 = .ok (.iload 11, 2) := by decide +kernel
theorem dX5_placeList_112 : decode cX5_placeList 112 = .ok (.iload 7, 2) := by decide +kernel
theorem dX5_placeList_114 : decode cX5_placeList 114 = .ok (.invokestatic 162, 3) := by decide +kernel
theorem dX5_placeList_117 : decode cX5_placeList 117 = .ok (.iadd, 1) := by decide +kernel
theorem dX5_placeList_118 : decode cX5_placeList 118 = .ok (.istore 6, 2) := by decide +kernel
theorem dX5_placeList_120 : decode cX5_placeList 120 = .ok (.aload_n 0, 1) := by decide +kernel
theorem dX5_placeList_121 : decode cX5_placeList 121 = .ok (.iload 10, 2) := by decide +kernel
theorem dX5_placeList_123 : decode cX5_placeList 123 = .ok (.iload 7, 2) := by decide +kernel
theorem dX5_placeList_125 : decode cX5_placeList 125 = .ok (.iload 8, 2) := by decide +kernel
theorem dX5_placeList_127 : decode cX5_placeList 127 = .ok (.iload 6, 2) := by decide +kernel
theorem dX5_placeList_129 : decode cX5_placeList 129 = .ok (.iload 5, 2) := by decide +kernel
theorem dX5_placeList_131 : decode cX5_placeList 131 = .ok (.invokevirtual 194, 3) := by decide +kernel
theorem dX5_placeList_134 : decode cX5_placeList 134 = .ok (.aload_n 0, 1) := by decide +kernel
theorem dX5_placeList_135 : decode cX5_placeList 135 = .ok (.iload 10, 2) := by decide +kernel
theorem dX5_placeList_137 : decode cX5_placeList 137 = .ok (.iload 7, 2) := by decide +kernel
theorem dX5_placeList_139 : decode cX5_placeList 139 = .ok (.iload 8, 2) := by decide +kernel
theorem dX5_placeList_141 : decode cX5_placeList 141 = .ok (.invokevirtual 159, 3) := by decide +kernel
theorem dX5_placeList_144 : decode cX5_placeList 144 = .ok (.iload 6, 2) := by decide +kernel
theorem dX5_placeList_146 : decode cX5_placeList 146 = .ok (.aload_n 0, 1) := by decide +kernel
theorem dX5_placeList_147 : decode cX5_placeList 147 = .ok (.getfield 96, 3) := by decide +kernel
theorem dX5_placeList_150 : decode cX5_placeList 150 = .ok (.iadd, 1) := by decide +kernel
theorem dX5_placeList_151 : decode cX5_placeList 151 = .ok (.istore 6, 2) := by decide +kernel
theorem dX5_placeList_153 : decode cX5_placeList 153 = .ok (.iload 11, 2) := by decide +kernel
theorem dX5_placeList_155 : decode cX5_placeList 155 = .ok (.istore 9, 2) := by decide +kernel
theorem dX5_placeList_157 : decode cX5_placeList 157 = .ok (.iinc 10 1, 3) := by decide +kernel
theorem dX5_placeList_160 : decode cX5_placeList 160 = .ok (.goto (-144), 3) := by decide +kernel
theorem dX5_placeList_163 : decode cX5_placeList 163 = .ok (.return_, 1) := by decide +kernel
theorem dX5_run_0 : decode cX5_run 0 = .ok (.aload_n 0, 1) := by decide +kernel
theorem dX5_run_1 : decode cX5_run 1 = .ok (.aload_n 0, 1) := by decide +kernel
theorem dX5_run_2 : decode cX5_run 2 = .ok (.iload_n 1, 1) := by decide +kernel
theorem dX5_run_3 : decode cX5_run 3 = .ok (.invokevirtual 67, 3) := by decide +kernel
theorem dX5_run_6 : decode cX5_run 6 = .ok (.ifCond .eq 7, 3) := by decide +kernel
theorem dX5_run_9 : decode cX5_run 9 = .ok (.iconst 0, 1) := by decide +kernel
theorem dX5_run_10 : decode cX5_run 10 = .ok (.goto 4, 3) := by decide +kernel
theorem dX5_run_13 : decode cX5_run 13 = .ok (.iconst 1, 1) := by decide +kernel
theorem dX5_run_14 : decode cX5_run 14 = .ok (.putfield 50, 3) := by decide +kernel
theorem dX5_run_17 : decode cX5_run 17 = .ok (.aload_n 0, 1) := by decide +kernel
theorem dX5_run_18 : decode cX5_run 18 = .ok (.getfield 50, 3) := by decide +kernel
theorem dX5_run_21 : decode cX5_run 21 = .ok (.ifCond .le 5, 3) := by decide +kernel
theorem dX5_run_24 : decode cX5_run 24 = .ok (.iconst 0, 1) := by decide +kernel
theorem dX5_run_25 : decode cX5_run 25 = .ok (.ireturn, 1) := by decide +kernel
theorem dX5_run_26 : decode cX5_run 26 = .ok (.aload_n 0, 1) := by decide +kernel
theorem dX5_run_27 : decode cX5_run 27 = .ok (.iconst 0, 1) := by decide +kernel
theorem dX5_run_28 : decode cX5_run 28 = .ok (.putfield 166, 3) := by decide +kernel
theorem dX5_run_31 : decode cX5_run 31 = .ok (.aload_n 0, 1) := by decide +kernel
theorem dX5_run_32 : decode cX5_run 32 = .ok (.iload_n 1, 1) := by decide +kernel
theorem dX5_run_33 : decode cX5_run 33 = .ok (.iconst 0, 1) := by decide +kernel
theorem dX5_run_34 : decode cX5_run 34 = .ok (.iconst 0, 1) := by decide +kernel
theorem dX5_run_35 : decode cX5_run 35 = .ok (.invokevirtual 117, 3) := by decide +kernel
theorem dX5_run_38 : decode cX5_run 38 = .ok (.aload_n 0, 1) := by decide +kernel
theorem dX5_run_39 : decode cX5_run 39 = .ok (.aload_n 0, 1) := by decide +kernel
theorem dX5_run_40 : decode cX5_run 40 = .ok (.getfield 96, 3) := by decide +kernel
theorem dX5_run_43 : decode cX5_run 43 = .ok (.putfield 197, 3) := by decide +kernel
theorem dX5_run_46 : decode cX5_run 46 = .ok (.aload_n 0, 1) := by decide +kernel
theorem dX5_run_47 : decode cX5_run 47 = .ok (.aload_n 0, 1) := by decide +kernel
theorem dX5_run_48 : decode cX5_run 48 = .ok (.getfield 99, 3) := by decide +kernel
theorem dX5_run_51 : decode cX5_run 51 = .ok (.putfield 200, 3) := by decide +kernel
theorem dX5_run_54 : decode cX5_run 54 = .ok (.aload_n 0, 1) := by decide +kernel
theorem dX5_run_55 : decode cX5_run 55 = .ok (.aload_n 0, 1) := by decide +kernel
theorem dX5_run_56 : decode cX5_run 56 = .ok (.getfield 102, 3) := by decide +kernel
theorem dX5_run_59 : decode cX5_run 59 = .ok (.putfield 203, 3) := by decide +kernel
theorem dX5_run_62 : decode cX5_run 62 = .ok (.aload_n 0, 1) := by decide +kernel
theorem dX5_run_63 : decode cX5_run 63 = .ok (.iload_n 1, 1) := by decide +kernel
theorem dX5_run_64 : decode cX5_run 64 = .ok (.iconst 0, 1) := by decide +kernel
theorem dX5_run_65 : decode cX5_run 65 = .ok (.iconst 0, 1) := by decide +kernel
theorem dX5_run_66 : decode cX5_run 66 = .ok (.iconst 0, 1) := by decide +kernel
theorem dX5_run_67 : decode cX5_run 67 = .ok (.iconst 0, 1) := by decide +kernel
theorem dX5_run_68 : decode cX5_run 68 = .ok (.invokevirtual 173, 3) := by decide +kernel
theorem dX5_run_71 : decode cX5_run 71 = .ok (.aload_n 0, 1) := by decide +kernel
theorem dX5_run_72 : decode cX5_run 72 = .ok (.getfield 166, 3) := by decide +kernel
theorem dX5_run_75 : decode cX5_run 75 = .ok (.ireturn, 1) := by decide +kernel
theorem dX5_item_0 : decode cX5_item 0 = .ok (.aload_n 0, 1) := by decide +kernel
theorem dX5_item_1 : decode cX5_item 1 = .ok (.iload_n 1, 1) := by decide +kernel
theorem dX5_item_2 : decode cX5_item 2 = .ok (.iconst (-1), 1) := by decide +kernel
theorem dX5_item_3 : decode cX5_item 3 = .ok (.if_icmp .lt 30, 3) := by decide +kernel
theorem dX5_item_6 : decode cX5_item 6 = .ok (.iload_n 1, 1) := by decide +kernel
theorem dX5_item_7 : decode cX5_item 7 = .ok (.aload_n 0, 1) := by decide +kernel
theorem dX5_item_8 : decode cX5_item 8 = .ok (.getfield 166, 3) := by decide +kernel
theorem dX5_item_11 : decode cX5_item 11 = .ok (.if_icmp .ge 22, 3) := by decide +kernel
theorem dX5_item_14 : decode cX5_item 14 = .ok (.iload_n 2, 1) := by decide +kernel
theorem dX5_item_15 : decode cX5_item 15 = .ok (.ifCond .lt 18, 3) := by decide +kernel
theorem dX5_item_18 : decode cX5_item 18 = .ok (.iload_n 2, 1) := by decide +kernel
theorem dX5_item_19 : decode cX5_item 19 = .ok (.iload_n 1, 1) := by decide +kernel
theorem dX5_item_20 : decode cX5_item 20 = .ok (.iconst (-1), 1) := by decide +kernel
theorem dX5_item_21 : decode cX5_item 21 = .ok (.if_icmp .ne 7, 3) := by decide +kernel
theorem dX5_item_24 : decode cX5_item 24 = .ok (.iconst 2, 1) := by decide +kernel
theorem dX5_item_25 : decode cX5_item 25 = .ok (.goto 5, 3) := by decide +kernel
theorem dX5_item_28 : decode cX5_item 28 = .ok (.bipush 7, 2) := by decide +kernel
theorem dX5_item_30 : decode cX5_item 30 = .ok (.if_icmp .le 7, 3) := by decide +kernel
theorem dX5_item_33 : decode cX5_item 33 = .ok (.iconst 1, 1) := by decide +kernel
theorem dX5_item_34 : decode cX5_item 34 = .ok (.goto 4, 3) := by decide +kernel
theorem dX5_item_37 : decode cX5_item 37 = .ok (.iconst 0, 1) := by decide +kernel
theorem dX5_item_38 : decode cX5_item 38 = .ok (.putfield 50, 3) := by decide +kernel
theorem dX5_item_41 : decode cX5_item 41 = .ok (.aload_n 0, 1) := by decide +kernel
theorem dX5_item_42 : decode cX5_item 42 = .ok (.getfield 50, 3) := by decide +kernel
theorem dX5_item_45 : decode cX5_item 45 = .ok (.ifCond .le 5, 3) := by decide +kernel
theorem dX5_item_48 : decode cX5_item 48 = .ok (.iconst 0, 1) := by decide +kernel
theorem dX5_item_49 : decode cX5_item 49 = .ok (.ireturn, 1) := by decide +kernel
theorem dX5_item_50 : decode cX5_item 50 = .ok (.iload_n 1, 1) := by decide +kernel
theorem dX5_item_51 : decode cX5_item 51 = .ok (.iconst (-1), 1) := by decide +kernel
theorem dX5_item_52 : decode cX5_item 52 = .ok (.if_icmp .ne 31, 3) := by decide +kernel
theorem dX5_item_55 : decode cX5_item 55 = .ok (.iload_n 2, 1) := by decide +kernel
theorem dX5_item_56 : decode cX5_item 56 = .ok (.ifCond .ne 10, 3) := by decide +kernel
theorem dX5_item_59 : decode cX5_item 59 = .ok (.aload_n 0, 1) := by decide +kernel
theorem dX5_item_60 : decode cX5_item 60 = .ok (.getfield 197, 3) := by decide +kernel
theorem dX5_item_63 : decode cX5_item 63 = .ok (.goto 19, 3) := by decide +kernel
theorem dX5_item_66 : decode cX5_item 66 = .ok (.iload_n 2, 1) := by decide +kernel
theorem dX5_item_67 : decode cX5_item 67 = .ok (.iconst 1, 1) := by decide +kernel
theorem dX5_item_68 : decode cX5_item 68 = .ok (.if_icmp .ne 10, 3) := by decide +kernel
theorem dX5_item_71 : decode cX5_item 71 = .ok (.aload_n 0, 1) := by decide +kernel
theorem dX5_item_72 : decode cX5_item 72 = .ok (.getfield 200, 3) := by decide +kernel
theorem dX5_item_75 : decode cX5_item 75 = .ok (.goto 7, 3) := by decide +kernel
theorem dX5_item_78 : decode cX5_item 78 = .ok (.aload_n 0, 1) := by decide +kernel
theorem dX5_item_79 : decode cX5_item 79 = .ok (.getfield 203, 3) := by decide +kernel
theorem dX5_item_82 : decode cX5_item 82 = .ok (.ireturn, 1) := by decide +kernel
theorem dX5_item_83 : decode cX5_item 83 = .ok (.aload_n 0, 1) := by decide +kernel
theorem dX5_item_84 : decode cX5_item 84 = .ok (.getfield 44, 3) := by decide +kernel
theorem dX5_item_87 : decode cX5_item 87 = .ok (.bipush 8, 2) := by decide +kernel
theorem dX5_item_89 : decode cX5_item 89 = .ok (.iload_n 1, 1) := by decide +kernel
theorem dX5_item_90 : decode cX5_item 90 = .ok (.imul, 1) := by decide +kernel
theorem dX5_item_91 : decode cX5_item 91 = .ok (.iload_n 2, 1) := by decide +kernel
theorem dX5_item_92 : decode cX5_item 92 = .ok (.iadd, 1) := by decide +kernel
theorem dX5_item_93 : decode cX5_item 93 = .ok (.iaload, 1) := by decide +kernel
theorem dX5_item_94 : decode cX5_item 94 = .ok (.ireturn, 1) := by decide +kernel
theorem dX5_split_0 : decode cX5_split 0 = .ok (.aload_n 0, 1) := by decide +kernel
theorem dX5_split_1 : decode cX5_split 1 = .ok (.aload_n 0, 1) := by decide +kernel
theorem dX5_split_2 : decode cX5_split 2 = .ok (.iload_n 1, 1) := by decide +kernel
theorem dX5_split_3 : decode cX5_split 3 = .ok (.invokevirtual 67, 3) := by decide +kernel
theorem dX5_split_6 : decode cX5_split 6 = .ok (.ifCond .eq 7, 3) := by decide +kernel
theorem dX5_split_9 : decode cX5_split 9 = .ok (.iconst 0, 1) := by decide +kernel
theorem dX5_split_10 : decode cX5_split 10 = .ok (.goto 4, 3) := by decide +kernel
theorem dX5_split_13 : decode cX5_split 13 = .ok (.iconst 1, 1) := by decide +kernel
theorem dX5_split_14 : decode cX5_split 14 = .ok (.putfield 50, 3) := by decide +kernel
theorem dX5_split_17 : decode cX5_split 17 = .ok (.aload_n 0, 1) := by decide +kernel
theorem dX5_split_18 : decode cX5_split 18 = .ok (.getfield 50, 3) := by decide +kernel
theorem dX5_split_21 : decode cX5_split 21 = .ok (.ifCond .le 5, 3) := by decide +kernel
theorem dX5_split_24 : decode cX5_split 24 = .ok (.iconst 0, 1) := by decide +kernel
theorem dX5_split_25 : decode cX5_split 25 = .ok (.ireturn, 1) := by decide +kernel
theorem dX5_split_26 : decode cX5_split 26 = .ok (.iconst 0, 1) := by decide +kernel
theorem dX5_split_27 : decode cX5_split 27 = .ok (.istore_n 3, 1) := by decide +kernel
theorem dX5_split_28 : decode cX5_split 28 = .ok (.iconst (-1), 1) := by decide +kernel
theorem dX5_split_29 : decode cX5_split 29 = .ok (.istore 4, 2) := by decide +kernel
theorem dX5_split_31 : decode cX5_split 31 = .ok (.iconst 0, 1) := by decide +kernel
theorem dX5_split_32 : decode cX5_split 32 = .ok (.istore 5, 2) := by decide +kernel
theorem dX5_split_34 : decode cX5_split 34 = .ok (.iload 5, 2) := by decide +kernel
theorem dX5_split_36 : decode cX5_split 36 = .ok (.aload_n 0, 1) := by decide +kernel
theorem dX5_split_37 : decode cX5_split 37 = .ok (.getfield 53, 3) := by decide +kernel
theorem dX5_split_40 : decode cX5_split 40 = .ok (.if_icmp .ge 59, 3) := by decide +kernel
theorem dX5_split_43 : decode cX5_split 43 = .ok (.aload_n 0, 1) := by decide +kernel
theorem dX5_split_44 : decode cX5_split 44 = .ok (.getfield 17, 3) := by decide +kernel
theorem dX5_split_47 : decode cX5_split 47 = .ok (.iload 5, 2) := by decide +kernel
theorem dX5_split_49 : decode cX5_split 49 = .ok (.iaload, 1) := by decide +kernel
theorem dX5_split_50 : decode cX5_split 50 = .ok (.iload_n 1, 1) := by decide +kernel
theorem dX5_split_51 : decode cX5_split 51 = .ok (.if_icmp .ne 42, 3) := by decide +kernel
theorem dX5_split_54 : decode cX5_split 54 = .ok (.aload_n 0, 1) := by decide +kernel
theorem dX5_split_55 : decode cX5_split 55 = .ok (.getfield 20, 3) := by decide +kernel
theorem dX5_split_58 : decode cX5_split 58 = .ok (.iload 5, 2) := by decide +kernel
theorem dX5_split_60 : decode cX5_split 60 = .ok (.iaload, 1) := by decide +kernel
theorem dX5_split_61 : decode cX5_split 61 = .ok (.iconst 4, 1) := by decide +kernel
theorem dX5_split_62 : decode cX5_split 62 = .ok (.if_icmp .eq 31, 3) := by decide +kernel
theorem dX5_split_65 : decode cX5_split 65 = .ok (.aload_n 0, 1) := by decide +kernel
theorem dX5_split_66 : decode cX5_split 66 = .ok (.getfield 23, 3) := by decide +kernel
theorem dX5_split_69 : decode cX5_split 69 = .ok (.iload 5, 2) := by decide +kernel
theorem dX5_split_71 : decode cX5_split 71 = .ok (.iaload, 1) := by decide +kernel
theorem dX5_split_72 : decode cX5_split 72 = .ok (.iconst 3, 1) := by decide +kernel
theorem dX5_split_73 : decode cX5_split 73 = .ok (.if_icmp .ne 20, 3) := by decide +kernel
theorem dX5_split_76 : decode cX5_split 76 = .ok (.iload_n 3, 1) := by decide +kernel
theorem dX5_split_77 : decode cX5_split 77 = .ok (.iload_n 2, 1) := by decide +kernel
theorem dX5_split_78 : decode cX5_split 78 = .ok (.if_icmp .ne 8, 3) := by decide +kernel
theorem dX5_split_81 : decode cX5_split 81 = .ok (.iload 5, 2) := by decide +kernel
theorem dX5_split_83 : decode cX5_split 83 = .ok (.goto 5, 3) := by decide +kernel
theorem dX5_split_86 : decode cX5_split 86 = .ok (.iload 4, 2) := by decide +kernel
theorem dX5_split_88 : decode cX5_split 88 = .ok (.istore 4, 2) := by decide +kernel
theorem dX5_split_90 : decode cX5_split 90 = .ok (.iinc 3 1, 3) := by decide +kernel
theorem dX5_split_93 : decode cX5_split 93 = .ok (.iinc 5 1, 3) := by decide +kernel
theorem dX5_split_96 : decode cX5_split 96 = .ok (.goto (-62), 3) := by decide +kernel
theorem dX5_split_99 : decode cX5_split 99 = .ok (.aload_n 0, 1) := by decide +kernel
theorem dX5_split_100 : decode cX5_split 100 = .ok (.iload 4, 2) := by decide +kernel
theorem dX5_split_102 : decode cX5_split 102 = .ok (.iconst (-1), 1) := by decide +kernel
theorem dX5_split_103 : decode cX5_split 103 = .ok (.if_icmp .ne 7, 3) := by decide +kernel
theorem dX5_split_106 : decode cX5_split 106 = .ok (.iconst 2, 1) := by decide +kernel
theorem dX5_split_107 : decode cX5_split 107 = .ok (.goto 17, 3) := by decide +kernel
theorem dX5_split_110 : decode cX5_split 110 = .ok (.aload_n 0, 1) := by decide +kernel
theorem dX5_split_111 : decode cX5_split 111 = .ok (.getfield 7, 3) := by decide +kernel
theorem dX5_split_114 : decode cX5_split 114 = .ok (.bipush 30, 2) := by decide +kernel
theorem dX5_split_116 : decode cX5_split 116 = .ok (.if_icmp .ne 7, 3) := by decide +kernel
theorem dX5_split_119 : decode cX5_split 119 = .ok (.iconst 3, 1) := by decide +kernel
theorem dX5_split_120 : decode cX5_split 120 = .ok (.goto 4, 3) := by decide +kernel
theorem dX5_split_123 : decode cX5_split 123 = .ok (.iconst 0, 1) := by decide +kernel
theorem dX5_split_124 : decode cX5_split 124 = .ok (.putfield 50, 3) := by decide +kernel
theorem dX5_split_127 : decode cX5_split 127 = .ok (.aload_n 0, 1) := by decide +kernel
theorem dX5_split_128 : decode cX5_split 128 = .ok (.getfield 50, 3) := by decide +kernel
theorem dX5_split_131 : decode cX5_split 131 = .ok (.ifCond .le 5, 3) := by decide +kernel
theorem dX5_split_134 : decode cX5_split 134 = .ok (.iconst 0, 1) := by decide +kernel
theorem dX5_split_135 : decode cX5_split 135 = .ok (.ireturn, 1) := by decide +kernel
theorem dX5_split_136 : decode cX5_split 136 = .ok (.iload 4, 2) := by decide +kernel
theorem dX5_split_138 : decode cX5_split 138 = .ok (.istore 5, 2) := by decide +kernel
theorem dX5_split_140 : decode cX5_split 140 = .ok (.iload 5, 2) := by decide +kernel
theorem dX5_split_142 : decode cX5_split 142 = .ok (.aload_n 0, 1) := by decide +kernel
theorem dX5_split_143 : decode cX5_split 143 = .ok (.getfield 53, 3) := by decide +kernel
theorem dX5_split_146 : decode cX5_split 146 = .ok (.if_icmp .ge 41, 3) := by decide +kernel
theorem dX5_split_149 : decode cX5_split 149 = .ok (.aload_n 0, 1) := by decide +kernel
theorem dX5_split_150 : decode cX5_split 150 = .ok (.getfield 17, 3) := by decide +kernel
theorem dX5_split_153 : decode cX5_split 153 = .ok (.iload 5, 2) := by decide +kernel
theorem dX5_split_155 : decode cX5_split 155 = .ok (.aload_n 0, 1) := by decide +kernel
theorem dX5_split_156 : decode cX5_split 156 = .ok (.getfield 17, 3) := by decide +kernel
theorem dX5_split_159 : decode cX5_split 159 = .ok (.iload 5, 2) := by decide +kernel
theorem dX5_split_161 : decode cX5_split 161 = .ok (.iaload, 1) := by decide +kernel
theorem dX5_split_162 : decode cX5_split 162 = .ok (.iload_n 1, 1) := by decide +kernel
theorem dX5_split_163 : decode cX5_split 163 = .ok (.if_icmp .ne 10, 3) := by decide +kernel
theorem dX5_split_166 : decode cX5_split 166 = .ok (.aload_n 0, 1) := by decide +kernel
theorem dX5_split_167 : decode cX5_split 167 = .ok (.getfield 7, 3) := by decide +kernel
theorem dX5_split_170 : decode cX5_split 170 = .ok (.goto 10, 3) := by decide +kernel
theorem dX5_split_173 : decode cX5_split 173 = .ok (.aload_n 0, 1) := by decide +kernel
theorem dX5_split_174 : decode cX5_split 174 = .ok (.getfield 17, 3) := by decide +kernel
theorem dX5_split_177 : decode cX5_split 177 = .ok (.iload 5, 2) := by decide +kernel
theorem dX5_split_179 : decode cX5_split 179 = .ok (.iaload, 1) := by decide +kernel
theorem dX5_split_180 : decode cX5_split 180 = .ok (.iastore, 1) := by decide +kernel
theorem dX5_split_181 : decode cX5_split 181 = .ok (.iinc 5 1, 3) := by decide +kernel
theorem dX5_split_184 : decode cX5_split 184 = .ok (.goto (-44), 3) := by decide +kernel
theorem dX5_split_187 : decode cX5_split 187 = .ok (.aload_n 0, 1) := by decide +kernel
theorem dX5_split_188 : decode cX5_split 188 = .ok (.aload_n 0, 1) := by decide +kernel
theorem dX5_split_189 : decode cX5_split 189 = .ok (.getfield 56, 3) := by decide +kernel
theorem dX5_split_192 : decode cX5_split 192 = .ok (.iload_n 1, 1) := by decide +kernel
theorem dX5_split_193 : decode cX5_split 193 = .ok (.if_icmp .ne 10, 3) := by decide +kernel
theorem dX5_split_196 : decode cX5_split 196 = .ok (.aload_n 0, 1) := by decide +kernel
theorem dX5_split_197 : decode cX5_split 197 = .ok (.getfield 7, 3) := by decide +kernel
theorem dX5_split_200 : decode cX5_split 200 = .ok (.goto 7, 3) := by decide +kernel
theorem dX5_split_203 : decode cX5_split 203 = .ok (.aload_n 0, 1) := by decide +kernel
theorem dX5_split_204 : decode cX5_split 204 = .ok (.getfield 56, 3) := by decide +kernel
theorem dX5_split_207 : decode cX5_split 207 = .ok (.putfield 56, 3) := by decide +kernel
theorem dX5_split_210 : decode cX5_split 210 = .ok (.aload_n 0, 1) := by decide +kernel
theorem dX5_split_211 : decode cX5_split 211 = .ok (.dup, 1) := by decide +kernel
theorem dX5_split_212 : decode cX5_split 212 = .ok (.getfield 7, 3) := by decide +kernel
theorem dX5_split_215 : decode cX5_split 215 = .ok (.iconst 1, 1) := by decide +kernel
theorem dX5_split_216 : decode cX5_split 216 = .ok (.iadd, 1) := by decide +kernel
theorem dX5_split_217 : decode cX5_split 217 = .ok (.putfield 7, 3) := by decide +kernel
theorem dX5_split_220 : decode cX5_split 220 = .ok (.aload_n 0, 1) := by decide +kernel
theorem dX5_split_221 : decode cX5_split 221 = .ok (.getfield 7, 3) := by decide +kernel
theorem dX5_split_224 : decode cX5_split 224 = .ok (.iconst 1, 1) := by decide +kernel
theorem dX5_split_225 : decode cX5_split 225 = .ok (.isub, 1) := by decide +kernel
theorem dX5_split_226 : decode cX5_split 226 = .ok (.ireturn, 1) := by decide +kernel
