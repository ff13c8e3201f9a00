theorem dX5_letterOf_114 : decode cX5_letterOf 114 = .ok (.iconst 3, 1) := by decide +kernel
theorem dX5_letterOf_115 : decode cX5_letterOf 115 = .ok (.goto 4, 3) := by decide +kernel
theorem dX5_letterOf_118 : decode cX5_letterOf 118 = .ok (.iconst 0, 1) := by decide +kernel
theorem dX5_letterOf_119 : decode cX5_letterOf 119 = .ok (.ireturn, 1) := by decide +kernel
theorem dX5_letterOf_120 : decode cX5_letterOf 120 = .ok (.iload_n 0, 1) := by decide +kernel
theorem dX5_letterOf_121 : decode cX5_letterOf 121 = .ok (.iconst 3, 1) := by decide +kernel
theorem dX5_letterOf_122 : decode cX5_letterOf 122 = .ok (.if_icmp .ne 18, 3) := by decide +kernel
theorem dX5_letterOf_125 : decode cX5_letterOf 125 = .ok (.iload_n 1, 1) := by decide +kernel
theorem dX5_letterOf_126 : decode cX5_letterOf 126 = .ok (.ifCond .eq 8, 3) := by decide +kernel
theorem dX5_letterOf_129 : decode cX5_letterOf 129 = .ok (.iload_n 1, 1) := by decide +kernel
theorem dX5_letterOf_130 : decode cX5_letterOf 130 = .ok (.iconst 4, 1) := by decide +kernel
theorem dX5_letterOf_131 : decode cX5_letterOf 131 = .ok (.if_icmp .ne 7, 3) := by decide +kernel
theorem dX5_letterOf_134 : decode cX5_letterOf 134 = .ok (.iconst 4, 1) := by decide +kernel
theorem dX5_letterOf_135 : decode cX5_letterOf 135 = .ok (.goto 4, 3) := by decide +kernel
theorem dX5_letterOf_138 : decode cX5_letterOf 138 = .ok (.iconst 0, 1) := by decide +kernel
theorem dX5_letterOf_139 : decode cX5_letterOf 139 = .ok (.ireturn, 1) := by decide +kernel
theorem dX5_letterOf_140 : decode cX5_letterOf 140 = .ok (.iload_n 1, 1) := by decide +kernel
theorem dX5_letterOf_141 : decode cX5_letterOf 141 = .ok (.iconst 3, 1) := by decide +kernel
theorem dX5_letterOf_142 : decode cX5_letterOf 142 = .ok (.if_icmp .ne 5, 3) := by decide +kernel
theorem dX5_letterOf_145 : decode cX5_letterOf 145 = .ok (.iconst 4, 1) := by decide +kernel
theorem dX5_letterOf_146 : decode cX5_letterOf 146 = .ok (.ireturn, 1) := by decide +kernel
theorem dX5_letterOf_147 : decode cX5_letterOf 147 = .ok (.iload_n 1, 1) := by decide +kernel
theorem dX5_letterOf_148 : decode cX5_letterOf 148 = .ok (.iconst 2, 1) := by decide +kernel
theorem dX5_letterOf_149 : decode cX5_letterOf 149 = .ok (.if_icmp .ne 14, 3) := by decide +kernel
theorem dX5_letterOf_152 : decode cX5_letterOf 152 = .ok (.iload_n 0, 1) := by decide +kernel
theorem dX5_letterOf_153 : decode cX5_letterOf 153 = .ok (.iconst 1, 1) := by decide +kernel
theorem dX5_letterOf_154 : decode cX5_letterOf 154 = .ok (.if_icmp .ne 7, 3) := by decide +kernel
theorem dX5_letterOf_157 : decode cX5_letterOf 157 = .ok (.iconst 0, 1) := by decide +kernel
theorem dX5_letterOf_158 : decode cX5_letterOf 158 = .ok (.goto 4, 3) := by decide +kernel
theorem dX5_letterOf_161 : decode cX5_letterOf 161 = .ok (.iconst 3, 1) := by decide +kernel
theorem dX5_letterOf_162 : decode cX5_letterOf 162 = .ok (.ireturn, 1) := by decide +kernel
theorem dX5_letterOf_163 : decode cX5_letterOf 163 = .ok (.iload_n 0, 1) := by decide +kernel
theorem dX5_letterOf_164 : decode cX5_letterOf 164 = .ok (.iconst 1, 1) := by decide +kernel
theorem dX5_letterOf_165 : decode cX5_letterOf 165 = .ok (.if_icmp .ne 13, 3) := by decide +kernel
theorem dX5_letterOf_168 : decode cX5_letterOf 168 = .ok (.iload_n 1, 1) := by decide +kernel
theorem dX5_letterOf_169 : decode cX5_letterOf 169 = .ok (.ifCond .ne 7, 3) := by decide +kernel
theorem dX5_letterOf_172 : decode cX5_letterOf 172 = .ok (.iconst 1, 1) := by decide +kernel
theorem dX5_letterOf_173 : decode cX5_letterOf 173 = .ok (.goto 4, 3) := by decide +kernel
theorem dX5_letterOf_176 : decode cX5_letterOf 176 = .ok (.iconst 0, 1) := by decide +kernel
theorem dX5_letterOf_177 : decode cX5_letterOf 177 = .ok (.ireturn, 1) := by decide +kernel
theorem dX5_letterOf_178 : decode cX5_letterOf 178 = .ok (.iload_n 0, 1) := by decide +kernel
theorem dX5_letterOf_179 : decode cX5_letterOf 179 = .ok (.bipush 7, 2) := by decide +kernel
theorem dX5_letterOf_181 : decode cX5_letterOf 181 = .ok (.if_icmp .ne 16, 3) := by decide +kernel
theorem dX5_letterOf_184 : decode cX5_letterOf 184 = .ok (.iload_n 1, 1) := by decide +kernel
theorem dX5_letterOf_185 : decode cX5_letterOf 185 = .ok (.iconst 5, 1) := by decide +kernel
theorem dX5_letterOf_186 : decode cX5_letterOf 186 = .ok (.if_icmp .ne 7, 3) := by decide +kernel
theorem dX5_letterOf_189 : decode cX5_letterOf 189 = .ok (.iconst 0, 1) := by decide +kernel
theorem dX5_letterOf_190 : decode cX5_letterOf 190 = .ok (.goto 8, 3) := by decide +kernel
theorem dX5_letterOf_193 : decode cX5_letterOf 193 = .ok (.iconst 2, 1) := by decide +kernel
theorem dX5_letterOf_194 : decode cX5_letterOf 194 = .ok (.goto 4, 3) := by decide +kernel
theorem dX5_letterOf_197 : decode cX5_letterOf 197 = .ok (.iconst 0, 1) := by decide +kernel
theorem dX5_letterOf_198 : decode cX5_letterOf 198 = .ok (.ireturn, 1) := by decide +kernel
theorem dX5_space_0 : decode cX5_space 0 = .ok (.aload_n 0, 1) := by decide +kernel
theorem dX5_space_1 : decode cX5_space 1 = .ok (.iload_n 1, 1) := by decide +kernel
theorem dX5_space_2 : decode cX5_space 2 = .ok (.ifCond .lt 19, 3) := by decide +kernel
theorem dX5_space_5 : decode cX5_space 5 = .ok (.iload_n 1, 1) := by decide +kernel
theorem dX5_space_6 : decode cX5_space 6 = .ok (.bipush 7, 2) := by decide +kernel
theorem dX5_space_8 : decode cX5_space 8 = .ok (.if_icmp .gt 13, 3) := by decide +kernel
theorem dX5_space_11 : decode cX5_space 11 = .ok (.iload_n 2, 1) := by decide +kernel
theorem dX5_space_12 : decode cX5_space 12 = .ok (.ifCond .lt 9, 3) := by decide +kernel
theorem dX5_space_15 : decode cX5_space 15 = .ok (.iload_n 2, 1) := by decide +kernel
theorem dX5_space_16 : decode cX5_space 16 = .ok (.bipush 7, 2) := by decide +kernel
theorem dX5_space_18 : decode cX5_space 18 = .ok (.if_icmp .le 7, 3) := by decide +kernel
theorem dX5_space_21 : decode cX5_space 21 = .ok (.iconst 1, 1) := by decide +kernel
theorem dX5_space_22 : decode cX5_space 22 = .ok (.goto 4, 3) := by decide +kernel
theorem dX5_space_25 : decode cX5_space 25 = .ok (.iconst 0, 1) := by decide +kernel
theorem dX5_space_26 : decode cX5_space 26 = .ok (.putfield 50, 3) := by decide +kernel
theorem dX5_space_29 : decode cX5_space 29 = .ok (.aload_n 0, 1) := by decide +kernel
theorem dX5_space_30 : decode cX5_space 30 = .ok (.getfield 50, 3) := by decide +kernel
theorem dX5_space_33 : decode cX5_space 33 = .ok (.ifCond .le 5, 3) := by decide +kernel
theorem dX5_space_36 : decode cX5_space 36 = .ok (.iconst 0, 1) := by decide +kernel
theorem dX5_space_37 : decode cX5_space 37 = .ok (.ireturn, 1) := by decide +kernel
theorem dX5_space_38 : decode cX5_space 38 = .ok (.iload_n 1, 1) := by decide +kernel
theorem dX5_space_39 : decode cX5_space 39 = .ok (.iload_n 2, 1) := by decide +kernel
theorem dX5_space_40 : decode cX5_space 40 = .ok (.invokestatic 90, 3) := by decide +kernel
theorem dX5_space_43 : decode cX5_space 43 = .ok (.istore_n 3, 1) := by decide +kernel
theorem dX5_space_44 : decode cX5_space 44 = .ok (.iload_n 3, 1) := by decide +kernel
theorem dX5_space_45 : decode cX5_space 45 = .ok (.iconst 2, 1) := by decide +kernel
theorem dX5_space_46 : decode cX5_space 46 = .ok (.if_icmp .ge 7, 3) := by decide +kernel
theorem dX5_space_49 : decode cX5_space 49 = .ok (.iload_n 3, 1) := by decide +kernel
theorem dX5_space_50 : decode cX5_space 50 = .ok (.goto 6, 3) := by decide +kernel
theorem dX5_space_53 : decode cX5_space 53 = .ok (.iload_n 3, 1) := by decide +kernel
theorem dX5_space_54 : decode cX5_space 54 = .ok (.iconst 1, 1) := by decide +kernel
theorem dX5_space_55 : decode cX5_space 55 = .ok (.isub, 1) := by decide +kernel
theorem dX5_space_56 : decode cX5_space 56 = .ok (.ireturn, 1) := by decide +kernel
theorem dX5_unit_0 : decode cX5_unit 0 = .ok (.iload_n 0, 1) := by decide +kernel
theorem dX5_unit_1 : decode cX5_unit 1 = .ok (.iconst 2, 1) := by decide +kernel
theorem dX5_unit_2 : decode cX5_unit 2 = .ok (.if_icmp .ge 8, 3) := by decide +kernel
theorem dX5_unit_5 : decode cX5_unit 5 = .ok (.bipush 10, 2) := by decide +kernel
theorem dX5_unit_7 : decode cX5_unit 7 = .ok (.goto 14, 3) := by decide +kernel
theorem dX5_unit_10 : decode cX5_unit 10 = .ok (.iload_n 0, 1) := by decide +kernel
theorem dX5_unit_11 : decode cX5_unit 11 = .ok (.iconst 2, 1) := by decide +kernel
theorem dX5_unit_12 : decode cX5_unit 12 = .ok (.if_icmp .ne 8, 3) := by decide +kernel
theorem dX5_unit_15 : decode cX5_unit 15 = .ok (.bipush 7, 2) := by decide +kernel
theorem dX5_unit_17 : decode cX5_unit 17 = .ok (.goto 4, 3) := by decide +kernel
theorem dX5_unit_20 : decode cX5_unit 20 = .ok (.iconst 5, 1) := by decide +kernel
theorem dX5_unit_21 : decode cX5_unit 21 = .ok (.ireturn, 1) := by decide +kernel
theorem dX5_spaceOf_0 : decode cX5_spaceOf 0 = .ok (.iload_n 0, 1) := by decide +kernel
theorem dX5_spaceOf_1 : decode cX5_spaceOf 1 = .ok (.iload_n 1, 1) := by decide +kernel
theorem dX5_spaceOf_2 : decode cX5_spaceOf 2 = .ok (.invokestatic 90, 3) := by decide +kernel
theorem dX5_spaceOf_5 : decode cX5_spaceOf 5 = .ok (.istore_n 3, 1) := by decide +kernel
theorem dX5_spaceOf_6 : decode cX5_spaceOf 6 = .ok (.iload_n 3, 1) := by decide +kernel
theorem dX5_spaceOf_7 : decode cX5_spaceOf 7 = .ok (.iconst 1, 1) := by decide +kernel
theorem dX5_spaceOf_8 : decode cX5_spaceOf 8 = .ok (.if_icmp .ne 8, 3) := by decide +kernel
theorem dX5_spaceOf_11 : decode cX5_spaceOf 11 = .ok (.iload_n 2, 1) := by decide +kernel
theorem dX5_spaceOf_12 : decode cX5_spaceOf 12 = .ok (.invokestatic 93, 3) := by decide +kernel
theorem dX5_spaceOf_15 : decode cX5_spaceOf 15 = .ok (.ireturn, 1) := by decide +kernel
theorem dX5_spaceOf_16 : decode cX5_spaceOf 16 = .ok (.iload_n 2, 1) := by decide +kernel
theorem dX5_spaceOf_17 : decode cX5_spaceOf 17 = .ok (.iconst 1, 1) := by decide +kernel
theorem dX5_spaceOf_18 : decode cX5_spaceOf 18 = .ok (.if_icmp .gt 7, 3) := by decide +kernel
theorem dX5_spaceOf_21 : decode cX5_spaceOf 21 = .ok (.iload_n 3, 1) := by decide +kernel
theorem dX5_spaceOf_22 : decode cX5_spaceOf 22 = .ok (.ifCond .ne 7, 3) := by decide +kernel
theorem dX5_spaceOf_25 : decode cX5_spaceOf 25 = .ok (.iconst 0, 1) := by decide +kernel
theorem dX5_spaceOf_26 : decode cX5_spaceOf 26 = .ok (.goto 11, 3) := by decide +kernel
theorem dX5_spaceOf_29 : decode cX5_spaceOf 29 = .ok (.iload_n 3, 1) := by decide +kernel
theorem dX5_spaceOf_30 : decode cX5_spaceOf 30 = .ok (.iconst 1, 1) := by decide +kernel
theorem dX5_spaceOf_31 : decode cX5_spaceOf 31 = .ok (.isub, 1) := by decide +kernel
theorem dX5_spaceOf_32 : decode cX5_spaceOf 32 = .ok (.iload_n 2, 1) := by decide +kernel
theorem dX5_spaceOf_33 : decode cX5_spaceOf 33 = .ok (.invokestatic 93, 3) := by decide +kernel
theorem dX5_spaceOf_36 : decode cX5_spaceOf 36 = .ok (.imul, 1) := by decide +kernel
theorem dX5_spaceOf_37 : decode cX5_spaceOf 37 = .ok (.ireturn, 1) := by decide +kernel
theorem dX5_partLevel_0 : decode cX5_partLevel 0 = .ok (.iload_n 0, 1) := by decide +kernel
theorem dX5_partLevel_1 : decode cX5_partLevel 1 = .ok (.iconst 3, 1) := by decide +kernel
theorem dX5_partLevel_2 : decode cX5_partLevel 2 = .ok (.if_icmp .ne 7, 3) := by decide +kernel
theorem dX5_partLevel_5 : decode cX5_partLevel 5 = .ok (.iconst 3, 1) := by decide +kernel
theorem dX5_partLevel_6 : decode cX5_partLevel 6 = .ok (.goto 6, 3) := by decide +kernel
theorem dX5_partLevel_9 : decode cX5_partLevel 9 = .ok (.iload_n 0, 1) := by decide +kernel
theorem dX5_partLevel_10 : decode cX5_partLevel 10 = .ok (.iconst 1, 1) := by decide +kernel
theorem dX5_partLevel_11 : decode cX5_partLevel 11 = .ok (.iadd, 1) := by decide +kernel
theorem dX5_partLevel_12 : decode cX5_partLevel 12 = .ok (.ireturn, 1) := by decide +kernel
theorem dX5_scriptLevel_0 : decode cX5_scriptLevel 0 = .ok (.iload_n 0, 1) := by decide +kernel
theorem dX5_scriptLevel_1 : decode cX5_scriptLevel 1 = .ok (.iconst 2, 1) := by decide +kernel
theorem dX5_scriptLevel_2 : decode cX5_scriptLevel 2 = .ok (.if_icmp .ge 7, 3) := by decide +kernel
theorem dX5_scriptLevel_5 : decode cX5_scriptLevel 5 = .ok (.iconst 2, 1) := by decide +kernel
theorem dX5_scriptLevel_6 : decode cX5_scriptLevel 6 = .ok (.goto 4, 3) := by decide +kernel
theorem dX5_scriptLevel_9 : decode cX5_scriptLevel 9 = .ok (.iconst 3, 1) := by decide +kernel
theorem dX5_scriptLevel_10 : decode cX5_scriptLevel 10 = .ok (.ireturn, 1) := by decide +kernel
theorem dX5_set_0 : decode cX5_set 0 = .ok (.aload_n 0, 1) := by decide +kernel
theorem dX5_set_1 : decode cX5_set 1 = .ok (.iload_n 1, 1) := by decide +kernel
theorem dX5_set_2 : decode cX5_set 2 = .ok (.putfield 96, 3) := by decide +kernel
theorem dX5_set_5 : decode cX5_set 5 = .ok (.aload_n 0, 1) := by decide +kernel
theorem dX5_set_6 : decode cX5_set 6 = .ok (.iload_n 2, 1) := by decide +kernel
theorem dX5_set_7 : decode cX5_set 7 = .ok (.putfield 99, 3) := by decide +kernel
theorem dX5_set_10 : decode cX5_set 10 = .ok (.aload_n 0, 1) := by decide +kernel
theorem dX5_set_11 : decode cX5_set 11 = .ok (.iload_n 3, 1) := by decide +kernel
theorem dX5_set_12 : decode cX5_set 12 = .ok (.putfield 102, 3) := by decide +kernel
theorem dX5_set_15 : decode cX5_set 15 = .ok (.return_, 1) := by decide +kernel
theorem dX5_signSize_0 : decode cX5_signSize 0 = .ok (.iload_n 0, 1) := by decide +kernel
theorem dX5_signSize_1 : decode cX5_signSize 1 = .ok (.iconst 1, 1) := by decide +kernel
theorem dX5_signSize_2 : decode cX5_signSize 2 = .ok (.if_icmp .ne 12, 3) := by decide +kernel
theorem dX5_signSize_5 : decode cX5_signSize 5 = .ok (.iload_n 1, 1) := by decide +kernel
theorem dX5_signSize_6 : decode cX5_signSize 6 = .ok (.ifCond .ne 8, 3) := by decide +kernel
theorem dX5_signSize_9 : decode cX5_signSize 9 = .ok (.bipush 14, 2) := by decide +kernel
theorem dX5_signSize_11 : decode cX5_signSize 11 = .ok (.goto 7, 3) := by decide +kernel
theorem dX5_signSize_14 : decode cX5_signSize 14 = .ok (.iload_n 1, 1) := by decide +kernel
theorem dX5_signSize_15 : decode cX5_signSize 15 = .ok (.invokestatic 93, 3) := by decide +kernel
theorem dX5_signSize_18 : decode cX5_signSize 18 = .ok (.ireturn, 1) := by decide +kernel
theorem dX5_stepOf_0 : decode cX5_stepOf 0 = .ok (.iconst 0, 1) := by decide +kernel
theorem dX5_stepOf_1 : decode cX5_stepOf 1 = .ok (.istore_n 2, 1) := by decide +kernel
theorem dX5_stepOf_2 : decode cX5_stepOf 2 = .ok (.iload_n 2, 1) := by decide +kernel
theorem dX5_stepOf_3 : decode cX5_stepOf 3 = .ok (.iconst 4, 1) := by decide +kernel
theorem dX5_stepOf_4 : decode cX5_stepOf 4 = .ok (.if_icmp .ge 24, 3) := by decide +kernel
theorem dX5_stepOf_7 : decode cX5_stepOf 7 = .ok (.bipush 10, 2) := by decide +kernel
theorem dX5_stepOf_9 : decode cX5_stepOf 9 = .ok (.iload_n 2, 1) := by decide +kernel
theorem dX5_stepOf_10 : decode cX5_stepOf 10 = .ok (.iload_n 1, 1) := by decide +kernel
theorem dX5_stepOf_11 : decode cX5_stepOf 11 = .ok (.invokestatic 105, 3) := by decide +kernel
theorem dX5_stepOf_14 : decode cX5_stepOf 14 = .ok (.imul, 1) := by decide +kernel
theorem dX5_stepOf_15 : decode cX5_stepOf 15 = .ok (.bipush 9, 2) := by decide +kernel
theorem dX5_stepOf_17 : decode cX5_stepOf 17 = .ok (.iload_n 0, 1) := by decide +kernel
theorem dX5_stepOf_18 : decode cX5_stepOf 18 = .ok (.imul, 1) := by decide +kernel
theorem dX5_stepOf_19 : decode cX5_stepOf 19 = .ok (.if_icmp .ge 9, 3) := by decide +kernel
theorem dX5_stepOf_22 : decode cX5_stepOf 22 = .ok (.iinc 2 1, 3) := by decide +kernel
theorem dX5_stepOf_25 : decode cX5_stepOf 25 = .ok (.goto (-23), 3) := by decide +kernel
theorem dX5_stepOf_28 : decode cX5_stepOf 28 = .ok (.iload_n 2, 1) := by decide +kernel
theorem dX5_stepOf_29 : decode cX5_stepOf 29 = .ok (.ireturn, 1) := by decide +kernel
theorem dX5_tall_0 : decode cX5_tall 0 = .ok (.iload_n 1, 1) := by decide +kernel
theorem dX5_tall_1 : decode cX5_tall 1 = .ok (.invokestatic 93, 3) := by decide +kernel
theorem dX5_tall_4 : decode cX5_tall 4 = .ok (.bipush 6, 2) := by decide +kernel
theorem dX5_tall_6 : decode cX5_tall 6 = .ok (.iconst 4, 1) := by decide +kernel
theorem dX5_tall_7 : decode cX5_tall 7 = .ok (.iload_n 0, 1) := by decide +kernel
theorem dX5_tall_8 : decode cX5_tall 8 = .ok (.imul, 1) := by decide +kernel
theorem dX5_tall_9 : decode cX5_tall 9 = .ok (.iadd, 1) := by decide +kernel
theorem dX5_tall_10 : decode cX5_tall 10 = .ok (.imul, 1) := by decide +kernel
theorem dX5_tall_11 : decode cX5_tall 11 = .ok (.ireturn, 1) := by decide +kernel
theorem dX5_delimiterWidth_0 : decode cX5_delimiterWidth 0 = .ok (.iload_n 0, 1) := by decide +kernel
theorem dX5_delimiterWidth_1 : decode cX5_delimiterWidth 1 = .ok (.ifCond .ne 13, 3) := by decide +kernel
theorem dX5_delimiterWidth_4 : decode cX5_delimiterWidth 4 = .ok (.iload_n 1, 1) := by decide +kernel
theorem dX5_delimiterWidth_5 : decode cX5_delimiterWidth 5 = .ok (.invokestatic 93, 3) := by decide +kernel
theorem dX5_delimiterWidth_8 : decode cX5_delimiterWidth 8 = .ok (.invokestatic 108, 3) := by decide +kernel
theorem dX5_delimiterWidth_11 : decode cX5_delimiterWidth 11 = .ok (.goto 13, 3) := by decide +kernel
theorem dX5_delimiterWidth_14 : decode cX5_delimiterWidth 14 = .ok (.iload_n 1, 1) := by decide +kernel
theorem dX5_delimiterWidth_15 : decode cX5_delimiterWidth 15 = .ok (.invokestatic 93, 3) := by decide +kernel
theorem dX5_delimiterWidth_18 : decode cX5_delimiterWidth 18 = .ok (.iconst 2, 1) := by decide +kernel
theorem dX5_delimiterWidth_19 : decode cX5_delimiterWidth 19 = .ok (.iload_n 0, 1) := by decide +kernel
theorem dX5_delimiterWidth_20 : decode cX5_delimiterWidth 20 = .ok (.iconst 3, 1) := by decide +kernel
theorem dX5_delimiterWidth_21 : decode cX5_delimiterWidth 21 = .ok (.irem, 1) := by decide +kernel
theorem dX5_delimiterWidth_22 : decode cX5_delimiterWidth 22 = .ok (.iadd, 1) := by decide +kernel
theorem dX5_delimiterWidth_23 : decode cX5_delimiterWidth 23 = .ok (.imul, 1) := by decide +kernel
theorem dX5_delimiterWidth_24 : decode cX5_delimiterWidth 24 = .ok (.ireturn, 1) := by decide +kernel
theorem dX5_need_0 : decode cX5_need 0 = .ok (.iconst 2, 1) := by decide +kernel
theorem dX5_need_1 : decode cX5_need 1 = .ok (.aload_n 0, 1) := by decide +kernel
theorem dX5_need_2 : decode cX5_need 2 = .ok (.getfield 99, 3) := by decide +kernel
theorem dX5_need_5 : decode cX5_need 5 = .ok (.iconst 2, 1) := by decide +kernel
theorem dX5_need_6 : decode cX5_need 6 = .ok (.iload_n 1, 1) := by decide +kernel
theorem dX5_need_7 : decode cX5_need 7 = .ok (.invokestatic 93, 3) := by decide +kernel
theorem dX5_need_10 : decode cX5_need 10 = .ok (.imul, 1) := by decide +kernel
theorem dX5_need_11 : decode cX5_need 11 = .ok (.isub, 1) := by decide +kernel
theorem dX5_need_12 : decode cX5_need 12 = .ok (.aload_n 0, 1) := by decide +kernel
theorem dX5_need_13 : decode cX5_need 13 = .ok (.getfield 102, 3) := by decide +kernel
theorem dX5_need_16 : decode cX5_need 16 = .ok (.iconst 2, 1) := by decide +kernel
theorem dX5_need_17 : decode cX5_need 17 = .ok (.iload_n 1, 1) := by decide +kernel
theorem dX5_need_18 : decode cX5_need 18 = .ok (.invokestatic 93, 3) := by decide +kernel
theorem dX5_need_21 : decode cX5_need 21 = .ok (.imul, 1) := by decide +kernel
theorem dX5_need_22 : decode cX5_need 22 = .ok (.iadd, 1) := by decide +kernel
theorem dX5_need_23 : decode cX5_need 23 = .ok (.invokestatic 111, 3) := by decide +kernel
theorem dX5_need_26 : decode cX5_need 26 = .ok (.imul, 1) := by decide +kernel
theorem dX5_need_27 : decode cX5_need 27 = .ok (.ireturn, 1) := by decide +kernel
theorem dX5_measureFraction_0 : decode cX5_measureFraction 0 = .ok (.iload_n 2, 1) := by decide +kernel
theorem dX5_measureFraction_1 : decode cX5_measureFraction 1 = .ok (.invokestatic 93, 3) := by decide +kernel
theorem dX5_measureFraction_4 : decode cX5_measureFraction 4 = .ok (.istore 4, 2) := by decide +kernel
theorem dX5_measureFraction_6 : decode cX5_measureFraction 6 = .ok (.aload_n 0, 1) := by decide +kernel
theorem dX5_measureFraction_7 : decode cX5_measureFraction 7 = .ok (.getfield 32, 3) := by decide +kernel
theorem dX5_measureFraction_10 : decode cX5_measureFraction 10 = .ok (.iload_n 1, 1) := by decide +kernel
theorem dX5_measureFraction_11 : decode cX5_measureFraction 11 = .ok (.iaload, 1) := by decide +kernel
theorem dX5_measureFraction_12 : decode cX5_measureFraction 12 = .ok (.ifCond .ge 11, 3) := by decide +kernel
theorem dX5_measureFraction_15 : decode cX5_measureFraction 15 = .ok (.iload 4, 2) := by decide +kernel
theorem dX5_measureFraction_17 : decode cX5_measureFraction 17 = .ok (.invokestatic 108, 3) := by decide +kernel
theorem dX5_measureFraction_20 : decode cX5_measureFraction 20 = .ok (.goto 9, 3) := by decide +kernel
theorem dX5_measureFraction_23 : decode cX5_measureFraction 23 = .ok (.aload_n 0, 1) := by decide +kernel
theorem dX5_measureFraction_24 : decode cX5_measureFraction 24 = .ok (.getfield 32, 3) := by decide +kernel
theorem dX5_measureFraction_27 : decode cX5_measureFraction 27 = .ok (.iload_n 1, 1) := by decide +kernel
theorem dX5_measureFraction_28 : decode cX5_measureFraction 28 = .ok (.iaload, 1) := by decide +kernel
theorem dX5_measureFraction_29 : decode cX5_measureFraction 29 = .ok (.istore 5, 2) := by decide +kernel
theorem dX5_measureFraction_31 : decode cX5_measureFraction 31 = .ok (.iload_n 2, 1) := by decide +kernel
theorem dX5_measureFraction_32 : decode cX5_measureFraction 32 = .ok (.ifCond .ne 10, 3) := by decide +kernel
theorem dX5_measureFraction_35 : decode cX5_measureFraction 35 = .ok (.iconst 3, 1) := by decide +kernel
theorem dX5_measureFraction_36 : decode cX5_measureFraction 36 = .ok (.iload 4, 2) := by decide +kernel
theorem dX5_measureFraction_38 : decode cX5_measureFraction 38 = .ok (.imul, 1) := by decide +kernel
theorem dX5_measureFraction_39 : decode cX5_measureFraction 39 = .ok (.goto 5, 3) := by decide +kernel
theorem dX5_measureFraction_42 : decode cX5_measureFraction 42 = .ok (.iload 4, 2) := by decide +kernel
theorem dX5_measureFraction_44 : decode cX5_measureFraction 44 = .ok (.istore 6, 2) := by decide +kernel
theorem dX5_measureFraction_46 : decode cX5_measureFraction 46 = .ok (.aload_n 0, 1) := by decide +kernel
theorem dX5_measureFraction_47 : decode cX5_measureFraction 47 = .ok (.aload_n 0, 1) := by decide +kernel
theorem dX5_measureFraction_48 : decode cX5_measureFraction 48 = .ok (.getfield 26, 3) := by decide +kernel
theorem dX5_measureFraction_51 : decode cX5_measureFraction 51 = .ok (.iload_n 1, 1) := by decide +kernel
theorem dX5_measureFraction_52 : decode cX5_measureFraction 52 = .ok (.iaload, 1) := by decide +kernel
theorem dX5_measureFraction_53 : decode cX5_measureFraction 53 = .ok (.iload_n 2, 1) := by decide +kernel
theorem dX5_measureFraction_54 : decode cX5_measureFraction 54 = .ok (.invokestatic 114, 3) := by decide +kernel
theorem dX5_measureFraction_57 : decode cX5_measureFraction 57 = .ok (.iload_n 3, 1) := by decide +kernel
theorem dX5_measureFraction_58 : decode cX5_measureFraction 58 = .ok (.invokevirtual 117, 3) := by decide +kernel
theorem dX5_measureFraction_61 : decode cX5_measureFraction 61 = .ok (.aload_n 0, 1) := by decide +kernel
theorem dX5_measureFraction_62 : decode cX5_measureFraction 62 = .ok (.getfield 96, 3) := by decide +kernel
theorem dX5_measureFraction_65 : decode cX5_measureFraction 65 = .ok (.istore 7, 2) := by decide +kernel
theorem dX5_measureFraction_67 : decode cX5_measureFraction 67 = .ok (.iconst 2, 1) := by decide +kernel
theorem dX5_measureFraction_68 : decode cX5_measureFraction 68 = .ok (.iload 4, 2) := by decide +kernel
theorem dX5_measureFraction_70 : decode cX5_measureFraction 70 = .ok (.imul, 1) := by decide +kernel
theorem dX5_measureFraction_71 : decode cX5_measureFraction 71 = .ok (.iload 5, 2) := by decide +kernel
theorem dX5_measureFraction_73 : decode cX5_measureFraction 73 = .ok (.invokestatic 108, 3) := by decide +kernel
theorem dX5_measureFraction_76 : decode cX5_measureFraction 76 = .ok (.iadd, 1) := by decide +kernel
theorem dX5_measureFraction_77 : decode cX5_measureFraction 77 = .ok (.iload 6, 2) := by decide +kernel
theorem dX5_measureFraction_79 : decode cX5_measureFraction 79 = .ok (.iadd, 1) := by decide +kernel
theorem dX5_measureFraction_80 : decode cX5_measureFraction 80 = .ok (.aload_n 0, 1) := by decide +kernel
theorem dX5_measureFraction_81 : decode cX5_measureFraction 81 = .ok (.getfield 102, 3) := by decide +kernel
theorem dX5_measureFraction_84 : decode cX5_measureFraction 84 = .ok (.iadd, 1) := by decide +kernel
theorem dX5_measureFraction_85 : decode cX5_measureFraction 85 = .ok (.istore 8, 2) := by decide +kernel
theorem dX5_measureFraction_87 : decode cX5_measureFraction 87 = .ok (.iconst 0, 1) := by decide +kernel
theorem dX5_measureFraction_88 : decode cX5_measureFraction 88 = .ok (.iload 8, 2) := by decide +kernel
theorem dX5_measureFraction_90 : decode cX5_measureFraction 90 = .ok (.aload_n 0, 1) := by decide +kernel
theorem dX5_measureFraction_91 : decode cX5_measureFraction 91 = .ok (.getfield 99, 3) := by decide +kernel
theorem dX5_measureFraction_94 : decode cX5_measureFraction 94 = .ok (.iadd, 1) := by decide +kernel
theorem dX5_measureFraction_95 : decode cX5_measureFraction 95 = .ok (.invokestatic 111, 3) := by decide +kernel
theorem dX5_measureFraction_98 : decode cX5_measureFraction 98 = .ok (.istore 9, 2) := by decide +kernel
theorem dX5_measureFraction_100 : decode cX5_measureFraction 100 = .ok (.iconst 0, 1) := by decide +kernel
theorem dX5_measureFraction_101 : decode cX5_measureFraction 101 = .ok (.aload_n 0, 1) := by decide +kernel
theorem dX5_measureFraction_102 : decode cX5_measureFraction 102 = .ok (.getfield 102, 3) := by decide +kernel
theorem dX5_measureFraction_105 : decode cX5_measureFraction 105 = .ok (.iload 8, 2) := by decide +kernel
theorem dX5_measureFraction_107 : decode cX5_measureFraction 107 = .ok (.isub, 1) := by decide +kernel
theorem dX5_measureFraction_108 : decode cX5_measureFraction 108 = .ok (.invokestatic 111, 3) := by decide +kernel
theorem dX5_measureFraction_111 : decode cX5_measureFraction 111 = .ok (.istore 10, 2) := by decide +kernel
theorem dX5_measureFraction_113 : decode cX5_measureFraction 113 = .ok (.aload_n 0, 1) := by decide +kernel
theorem dX5_measureFraction_114 : decode cX5_measureFraction 114 = .ok (.aload_n 0, 1) := by decide +kernel
theorem dX5_measureFraction_115 : decode cX5_measureFraction 115 = .ok (.getfield 29, 3) := by decide +kernel
theorem dX5_measureFraction_118 : decode cX5_measureFraction 118 = .ok (.iload_n 1, 1) := by decide +kernel
theorem dX5_measureFraction_119 : decode cX5_measureFraction 119 = .ok (.iaload, 1) := by decide +kernel
theorem dX5_measureFraction_120 : decode cX5_measureFraction 120 = .ok (.iload_n 2, 1) := by decide +kernel
theorem dX5_measureFraction_121 : decode cX5_measureFraction 121 = .ok (.invokestatic 114, 3) := by decide +kernel
theorem dX5_measureFraction_124 : decode cX5_measureFraction 124 = .ok (.iconst 1, 1) := by decide +kernel
theorem dX5_measureFraction_125 : decode cX5_measureFraction 125 = .ok (.invokevirtual 117, 3) := by decide +kernel
theorem dX5_measureFraction_128 : decode cX5_measureFraction 128 = .ok (.aload_n 0, 1) := by decide +kernel
theorem dX5_measureFraction_129 : decode cX5_measureFraction 129 = .ok (.getfield 99, 3) := by decide +kernel
theorem dX5_measureFraction_132 : decode cX5_measureFraction 132 = .ok (.iload 6, 2) := by decide +kernel
theorem dX5_measureFraction_134 : decode cX5_measureFraction 134 = .ok (.iadd, 1) := by decide +kernel
theorem dX5_measureFraction_135 : decode cX5_measureFraction 135 = .ok (.iload 5, 2) := by decide +kernel
theorem dX5_measureFraction_137 : decode cX5_measureFraction 137 = .ok (.iadd, 1) := by decide +kernel
theorem dX5_measureFraction_138 : decode cX5_measureFraction 138 = .ok (.iload 5, 2) := by decide +kernel
theorem dX5_measureFraction_140 : decode cX5_measureFraction 140 = .ok (.invokestatic 108, 3) := by decide +kernel
theorem dX5_measureFraction_143 : decode cX5_measureFraction 143 = .ok (.isub, 1) := by decide +kernel
theorem dX5_measureFraction_144 : decode cX5_measureFraction 144 = .ok (.iconst 2, 1) := by decide +kernel
theorem dX5_measureFraction_145 : decode cX5_measureFraction 145 = .ok (.iload 4, 2) := by decide +kernel
theorem dX5_measureFraction_147 : decode cX5_measureFraction 147 = .ok (.imul, 1) := by decide +kernel
theorem dX5_measureFraction_148 : decode cX5_measureFraction 148 = .ok (.isub, 1) := by decide +kernel
theorem dX5_measureFraction_149 : decode cX5_measureFraction 149 = .ok (.istore 11, 2) := by decide +kernel
theorem dX5_measureFraction_151 : decode cX5_measureFraction 151 = .ok (.iload 9, 2) := by decide +kernel
theorem dX5_measureFraction_153 : decode cX5_measureFraction 153 = .ok (.aload_n 0, 1) := by decide +kernel
theorem dX5_measureFraction_154 : decode cX5_measureFraction 154 = .ok (.getfield 99, 3) := by decide +kernel
theorem dX5_measureFraction_157 : decode cX5_measureFraction 157 = .ok (.iload 11, 2) := by decide +kernel
theorem dX5_measureFraction_159 : decode cX5_measureFraction 159 = .ok (.isub, 1) := by decide +kernel
theorem dX5_measureFraction_160 : decode cX5_measureFraction 160 = .ok (.invokestatic 111, 3) := by decide +kernel
theorem dX5_measureFraction_163 : decode cX5_measureFraction 163 = .ok (.istore 9, 2) := by decide +kernel
theorem dX5_measureFraction_165 : decode cX5_measureFraction 165 = .ok (.iload 10, 2) := by decide +kernel
theorem dX5_measureFraction_167 : decode cX5_measureFraction 167 = .ok (.aload_n 0, 1) := by decide +kernel
theorem dX5_measureFraction_168 : decode cX5_measureFraction 168 = .ok (.getfield 102, 3) := by decide +kernel
theorem dX5_measureFraction_171 : decode cX5_measureFraction 171 = .ok (.iload 11, 2) := by decide +kernel
theorem dX5_measureFraction_173 : decode cX5_measureFraction 173 = .ok (.iadd, 1) := by decide +kernel
theorem dX5_measureFraction_174 : decode cX5_measureFraction 174 = .ok (.invokestatic 111, 3) := by decide +kernel
theorem dX5_measureFraction_177 : decode cX5_measureFraction 177 = .ok (.istore 10, 2) := by decide +kernel
theorem dX5_measureFraction_179 : decode cX5_measureFraction 179 = .ok (.iconst 2, 1) := by decide +kernel
theorem dX5_measureFraction_180 : decode cX5_measureFraction 180 = .ok (.iload 4, 2) := by decide +kernel
theorem dX5_measureFraction_182 : decode cX5_measureFraction 182 = .ok (.imul, 1) := by decide +kernel
theorem dX5_measureFraction_183 : decode cX5_measureFraction 183 = .ok (.iload 5, 2) := by decide +kernel
theorem dX5_measureFraction_185 : decode cX5_measureFraction 185 = .ok (.iload 5, 2) := by decide +kernel
theorem dX5_measureFraction_187 : decode cX5_measureFraction 187 = .ok (.invokestatic 108, 3) := by decide +kernel
theorem dX5_measureFraction_190 : decode cX5_measureFraction 190 = .ok (.isub, 1) := by decide +kernel
theorem dX5_measureFraction_191 : decode cX5_measureFraction 191 = .ok (.isub, 1) := by decide +kernel
theorem dX5_measureFraction_192 : decode cX5_measureFraction 192 = .ok (.istore 12, 2) := by decide +kernel
theorem dX5_measureFraction_194 : decode cX5_measureFraction 194 = .ok (.iload 5, 2) := by decide +kernel
theorem dX5_measureFraction_196 : decode cX5_measureFraction 196 = .ok (.ifCond .le 25, 3) := by decide +kernel
theorem dX5_measureFraction_199 : decode cX5_measureFraction 199 = .ok (.iload 9, 2) := by decide +kernel
theorem dX5_measureFraction_201 : decode cX5_measureFraction 201 = .ok (.iload 12, 2) := by decide +kernel
theorem dX5_measureFraction_203 : decode cX5_measureFraction 203 = .ok (.iload 5, 2) := by decide +kernel
theorem dX5_measureFraction_205 : decode cX5_measureFraction 205 = .ok (.iadd, 1) := by decide +kernel
theorem dX5_measureFraction_206 : decode cX5_measureFraction 206 = .ok (.invokestatic 111, 3) := by decide +kernel
theorem dX5_measureFraction_209 : decode cX5_measureFraction 209 = .ok (.istore 9, 2) := by decide +kernel
theorem dX5_measureFraction_211 : decode cX5_measureFraction 211 = .ok (.iload 10, 2) := by decide +kernel
theorem dX5_measureFraction_213 : decode cX5_measureFraction 213 = .ok (.iload 12, 2) := by decide +kernel
theorem dX5_measureFraction_215 : decode cX5_measureFraction 215 = .ok (.ineg, 1) := by decide +kernel
theorem dX5_measureFraction_216 : decode cX5_measureFraction 216 = .ok (.invokestatic 111, 3) := by decide +kernel
theorem dX5_measureFraction_219 : decode cX5_measureFraction 219 = .ok (.istore 10, 2) := by decide +kernel
theorem dX5_measureFraction_221 : decode cX5_measureFraction 221 = .ok (.iload 7, 2) := by decide +kernel
theorem dX5_measureFraction_223 : decode cX5_measureFraction 223 = .ok (.aload_n 0, 1) := by decide +kernel
theorem dX5_measureFraction_224 : decode cX5_measureFraction 224 = .ok (.getfield 96, 3) := by decide +kernel
theorem dX5_measureFraction_227 : decode cX5_measureFraction 227 = .ok (.invokestatic 111, 3) := by decide +kernel
theorem dX5_measureFraction_230 : decode cX5_measureFraction 230 = .ok (.iload 4, 2) := by decide +kernel
theorem dX5_measureFraction_232 : decode cX5_measureFraction 232 = .ok (.iadd, 1) := by decide +kernel
theorem dX5_measureFraction_233 : decode cX5_measureFraction 233 = .ok (.istore 7, 2) := by decide +kernel
theorem dX5_measureFraction_235 : decode cX5_measureFraction 235 = .ok (.aload_n 0, 1) := by decide +kernel
theorem dX5_measureFraction_236 : decode cX5_measureFraction 236 = .ok (.iload 7, 2) := by decide +kernel
theorem dX5_measureFraction_238 : decode cX5_measureFraction 238 = .ok (.iload 9, 2) := by decide +kernel
theorem dX5_measureFraction_240 : decode cX5_measureFraction 240 = .ok (.iload 10, 2) := by decide +kernel
theorem dX5_measureFraction_242 : decode cX5_measureFraction 242 = .ok (.invokevirtual 121, 3) := by decide +kernel
theorem dX5_measureFraction_245 : decode cX5_measureFraction 245 = .ok (.aload_n 0, 1) := by decide +kernel
theorem dX5_measureFraction_246 : decode cX5_measureFraction 246 = .ok (.iload 8, 2) := by decide +kernel
theorem dX5_measureFraction_248 : decode cX5_measureFraction 248 = .ok (.putfield 125, 3) := by decide +kernel
theorem dX5_measureFraction_251 : decode cX5_measureFraction 251 = .ok (.aload_n 0, 1) := by decide +kernel
theorem dX5_measureFraction_252 : decode cX5_measureFraction 252 = .ok (.iload 11, 2) := by decide +kernel
theorem dX5_measureFraction_254 : decode cX5_measureFraction 254 = .ok (.putfield 128, 3) := by decide +kernel
theorem dX5_measureFraction_257 : decode cX5_measureFraction 257 = .ok (.return_, 1) := by decide +kernel
theorem dX5_measureFence_0 : decode cX5_measureFence 0 = .ok (.aload_n 0, 1) := by decide +kernel
theorem dX5_measureFence_1 : decode cX5_measureFence 1 = .ok (.aload_n 0, 1) := by decide +kernel
theorem dX5_measureFence_2 : decode cX5_measureFence 2 = .ok (.getfield 29, 3) := by decide +kernel
theorem dX5_measureFence_5 : decode cX5_measureFence 5 = .ok (.iload_n 1, 1) := by decide +kernel
theorem dX5_measureFence_6 : decode cX5_measureFence 6 = .ok (.iaload, 1) := by decide +kernel
theorem dX5_measureFence_7 : decode cX5_measureFence 7 = .ok (.iload_n 2, 1) := by decide +kernel
theorem dX5_measureFence_8 : decode cX5_measureFence 8 = .ok (.iload_n 3, 1) := by decide +kernel
theorem dX5_measureFence_9 : decode cX5_measureFence 9 = .ok (.invokevirtual 117, 3) := by decide +kernel
theorem dX5_measureFence_12 : decode cX5_measureFence 12 = .ok (.aload_n 0, 1) := by decide +kernel
theorem dX5_measureFence_13 : decode cX5_measureFence 13 = .ok (.iload_n 2, 1) := by decide +kernel
theorem dX5_measureFence_14 : decode cX5_measureFence 14 = .ok (.invokevirtual 131, 3) := by decide +kernel
theorem dX5_measureFence_17 : decode cX5_measureFence 17 = .ok (.istore 4, 2) := by decide +kernel
theorem dX5_measureFence_19 : decode cX5_measureFence 19 = .ok (.aload_n 0, 1) := by decide +kernel
theorem dX5_measureFence_20 : decode cX5_measureFence 20 = .ok (.getfield 96, 3) := by decide +kernel
theorem dX5_measureFence_23 : decode cX5_measureFence 23 = .ok (.aload_n 0, 1) := by decide +kernel
theorem dX5_measureFence_24 : decode cX5_measureFence 24 = .ok (.getfield 26, 3) := by decide +kernel
theorem dX5_measureFence_27 : decode cX5_measureFence 27 = .ok (.iload_n 1, 1) := by decide +kernel
theorem dX5_measureFence_28 : decode cX5_measureFence 28 = .ok (.iaload, 1) := by decide +kernel
theorem dX5_measureFence_29 : decode cX5_measureFence 29 = .ok (.iload_n 2, 1) := by decide +kernel
theorem dX5_measureFence_30 : decode cX5_measureFence 30 = .ok (.invokestatic 134, 3) := by decide +kernel
theorem dX5_measureFence_33 : decode cX5_measureFence 33 = .ok (.iadd, 1) := by decide +kernel
theorem dX5_measureFence_34 : decode cX5_measureFence 34 = .ok (.aload_n 0, 1) := by decide +kernel
theorem dX5_measureFence_35 : decode cX5_measureFence 35 = .ok (.getfield 32, 3) := by decide +kernel
theorem dX5_measureFence_38 : decode cX5_measureFence 38 = .ok (.iload_n 1, 1) := by decide +kernel
theorem dX5_measureFence_39 : decode cX5_measureFence 39 = .ok (.iaload, 1) := by decide +kernel
theorem dX5_measureFence_40 : decode cX5_measureFence 40 = .ok (.iload_n 2, 1) := by decide +kernel
theorem dX5_measureFence_41 : decode cX5_measureFence 41 = .ok (.invokestatic 134, 3) := by decide +kernel
theorem dX5_measureFence_44 : decode cX5_measureFence 44 = .ok (.iadd, 1) := by decide +kernel
theorem dX5_measureFence_45 : decode cX5_measureFence 45 = .ok (.istore 5, 2) := by decide +kernel
theorem dX5_measureFence_47 : decode cX5_measureFence 47 = .ok (.iload 4, 2) := by decide +kernel
theorem dX5_measureFence_49 : decode cX5_measureFence 49 = .ok (.iload_n 2, 1) := by decide +kernel
theorem dX5_measureFence_50 : decode cX5_measureFence 50 = .ok (.invokestatic 137, 3) := by decide +kernel
theorem dX5_measureFence_53 : decode cX5_measureFence 53 = .ok (.iload_n 2, 1) := by decide +kernel
theorem dX5_measureFence_54 : decode cX5_measureFence 54 = .ok (.invokestatic 105, 3) := by decide +kernel
theorem dX5_measureFence_57 : decode cX5_measureFence 57 = .ok (.istore 6, 2) := by decide +kernel
theorem dX5_measureFence_59 : decode cX5_measureFence 59 = .ok (.iconst 2, 1) := by decide +kernel
theorem dX5_measureFence_60 : decode cX5_measureFence 60 = .ok (.iload_n 2, 1) := by decide +kernel
theorem dX5_measureFence_61 : decode cX5_measureFence 61 = .ok (.invokestatic 93, 3) := by decide +kernel
theorem dX5_measureFence_64 : decode cX5_measureFence 64 = .ok (.imul, 1) := by decide +kernel
theorem dX5_measureFence_65 : decode cX5_measureFence 65 = .ok (.iload 6, 2) := by decide +kernel
theorem dX5_measureFence_67 : decode cX5_measureFence 67 = .ok (.invokestatic 108, 3) := by decide +kernel
theorem dX5_measureFence_70 : decode cX5_measureFence 70 = .ok (.iadd, 1) := by decide +kernel
theorem dX5_measureFence_71 : decode cX5_measureFence 71 = .ok (.istore 7, 2) := by decide +kernel
theorem dX5_measureFence_73 : decode cX5_measureFence 73 = .ok (.aload_n 0, 1) := by decide +kernel
theorem dX5_measureFence_74 : decode cX5_measureFence 74 = .ok (.iload 5, 2) := by decide +kernel
theorem dX5_measureFence_76 : decode cX5_measureFence 76 = .ok (.aload_n 0, 1) := by decide +kernel
theorem dX5_measureFence_77 : decode cX5_measureFence 77 = .ok (.getfield 99, 3) := by decide +kernel
theorem dX5_measureFence_80 : decode cX5_measureFence 80 = .ok (.iload 7, 2) := by decide +kernel
theorem dX5_measureFence_82 : decode cX5_measureFence 82 = .ok (.invokestatic 111, 3) := by decide +kernel
theorem dX5_measureFence_85 : decode cX5_measureFence 85 = .ok (.iconst 0, 1) := by decide +kernel
theorem dX5_measureFence_86 : decode cX5_measureFence 86 = .ok (.invokestatic 111, 3) := by decide +kernel
theorem dX5_measureFence_89 : decode cX5_measureFence 89 = .ok (.aload_n 0, 1) := by decide +kernel
theorem dX5_measureFence_90 : decode cX5_measureFence 90 = .ok (.getfield 102, 3) := by decide +kernel
theorem dX5_measureFence_93 : decode cX5_measureFence 93 = .ok (.iload 6, 2) := by decide +kernel
theorem dX5_measureFence_95 : decode cX5_measureFence 95 = .ok (.iload 7, 2) := by decide +kernel
theorem dX5_measureFence_97 : decode cX5_measureFence 97 = .ok (.isub, 1) := by decide +kernel
theorem dX5_measureFence_98 : decode cX5_measureFence 98 = .ok (.invokestatic 111, 3) := by decide +kernel
theorem dX5_measureFence_101 : decode cX5_measureFence 101 = .ok (.iconst 0, 1) := by decide +kernel
theorem dX5_measureFence_102 : decode cX5_measureFence 102 = .ok (.invokestatic 111, 3) := by decide +kernel
theorem dX5_measureFence_105 : decode cX5_measureFence 105 = .ok (.invokevirtual 121, 3) := by decide +kernel
theorem dX5_measureFence_108 : decode cX5_measureFence 108 = .ok (.return_, 1) := by decide +kernel
theorem dX5_measureMatrix_0 : decode cX5_measureMatrix 0 = .ok (.iload_n 2, 1) := by decide +kernel
theorem dX5_measureMatrix_1 : decode cX5_measureMatrix 1 = .ok (.invokestatic 93, 3) := by decide +kernel
theorem dX5_measureMatrix_4 : decode cX5_measureMatrix 4 = .ok (.istore_n 3, 1) := by decide +kernel
theorem dX5_measureMatrix_5 : decode cX5_measureMatrix 5 = .ok (.aload_n 0, 1) := by decide +kernel
theorem dX5_measureMatrix_6 : decode cX5_measureMatrix 6 = .ok (.getfield 26, 3) := by decide +kernel
theorem dX5_measureMatrix_9 : decode cX5_measureMatrix 9 = .ok (.iload_n 1, 1) := by decide +kernel
theorem dX5_measureMatrix_10 : decode cX5_measureMatrix 10 = .ok (.iaload, 1) := by decide +kernel
theorem dX5_measureMatrix_11 : decode cX5_measureMatrix 11 = .ok (.istore 4, 2) := by decide +kernel
theorem dX5_measureMatrix_13 : decode cX5_measureMatrix 13 = .ok (.aload_n 0, 1) := by decide +kernel
theorem dX5_measureMatrix_14 : decode cX5_measureMatrix 14 = .ok (.getfield 29, 3) := by decide +kernel
theorem dX5_measureMatrix_17 : decode cX5_measureMatrix 17 = .ok (.iload_n 1, 1) := by decide +kernel
theorem dX5_measureMatrix_18 : decode cX5_measureMatrix 18 = .ok (.iaload, 1) := by decide +kernel
theorem dX5_measureMatrix_19 : decode cX5_measureMatrix 19 = .ok (.istore 5, 2) := by decide +kernel
theorem dX5_measureMatrix_21 : decode cX5_measureMatrix 21 = .ok (.bipush 16, 2) := by decide +kernel
theorem dX5_measureMatrix_23 : decode cX5_measureMatrix 23 = .ok (.iload_n 1, 1) := by decide +kernel
theorem dX5_measureMatrix_24 : decode cX5_measureMatrix 24 = .ok (.imul, 1) := by decide +kernel
theorem dX5_measureMatrix_25 : decode cX5_measureMatrix 25 = .ok (.istore 6, 2) := by decide +kernel
theorem dX5_measureMatrix_27 : decode cX5_measureMatrix 27 = .ok (.iconst 0, 1) := by decide +kernel
theorem dX5_measureMatrix_28 : decode cX5_measureMatrix 28 = .ok (.istore 7, 2) := by decide +kernel
theorem dX5_measureMatrix_30 : decode cX5_measureMatrix 30 = .ok (.iload 7, 2) := by decide +kernel
theorem dX5_measureMatrix_32 : decode cX5_measureMatrix 32 = .ok (.bipush 16, 2) := by decide +kernel
theorem dX5_measureMatrix_34 : decode cX5_measureMatrix 34 = .ok (.if_icmp .ge 20, 3) := by decide +kernel
theorem dX5_measureMatrix_37 : decode cX5_measureMatrix 37 = .ok (.aload_n 0, 1) := by decide +kernel
theorem dX5_measureMatrix_38 : decode cX5_measureMatrix 38 = .ok (.getfield 47, 3) := by decide +kernel
theorem dX5_measureMatrix_41 : decode cX5_measureMatrix 41 = .ok (.iload 6, 2) := by decide +kernel
theorem dX5_measureMatrix_43 : decode cX5_measureMatrix 43 = .ok (.iload 7, 2) := by decide +kernel
theorem dX5_measureMatrix_45 : decode cX5_measureMatrix 45 = .ok (.iadd, 1) := by decide +kernel
theorem dX5_measureMatrix_46 : decode cX5_measureMatrix 46 = .ok (.iconst 0, 1) := by decide +kernel
theorem dX5_measureMatrix_47 : decode cX5_measureMatrix 47 = .ok (.iastore, 1) := by decide +kernel
theorem dX5_measureMatrix_48 : decode cX5_measureMatrix 48 = .ok (.iinc 7 1, 3) := by decide +kernel
theorem dX5_measureMatrix_51 : decode cX5_measureMatrix 51 = .ok (.goto (-21), 3) := by decide +kernel
theorem dX5_measureMatrix_54 : decode cX5_measureMatrix 54 = .ok (.iconst 0, 1) := by decide +kernel
theorem dX5_measureMatrix_55 : decode cX5_measureMatrix 55 = .ok (.istore 7, 2) := by decide +kernel
theorem dX5_measureMatrix_57 : decode cX5_measureMatrix 57 = .ok (.iload 7, 2) := by decide +kernel
theorem dX5_measureMatrix_59 : decode cX5_measureMatrix 59 = .ok (.iload 4, 2) := by decide +kernel
theorem dX5_measureMatrix_61 : decode cX5_measureMatrix 61 = .ok (.iload 5, 2) := by decide +kernel
theorem dX5_measureMatrix_63 : decode cX5_measureMatrix 63 = .ok (.imul, 1) := by decide +kernel
theorem dX5_measureMatrix_64 : decode cX5_measureMatrix 64 = .ok (.if_icmp .ge 140, 3) := by decide +kernel
theorem dX5_measureMatrix_67 : decode cX5_measureMatrix 67 = .ok (.aload_n 0, 1) := by decide +kernel
theorem dX5_measureMatrix_68 : decode cX5_measureMatrix 68 = .ok (.aload_n 0, 1) := by decide +kernel
theorem dX5_measureMatrix_69 : decode cX5_measureMatrix 69 = .ok (.getfield 41, 3) := by decide +kernel
theorem dX5_measureMatrix_72 : decode cX5_measureMatrix 72 = .ok (.bipush 25, 2) := by decide +kernel
theorem dX5_measureMatrix_74 : decode cX5_measureMatrix 74 = .ok (.iload_n 1, 1) := by decide +kernel
theorem dX5_measureMatrix_75 : decode cX5_measureMatrix 75 = .ok (.imul, 1) := by decide +kernel
theorem dX5_measureMatrix_76 : decode cX5_measureMatrix 76 = .ok (.iload 7, 2) := by decide +kernel
theorem dX5_measureMatrix_78 : decode cX5_measureMatrix 78 = .ok (.iadd, 1) := by decide +kernel
theorem dX5_measureMatrix_79 : decode cX5_measureMatrix 79 = .ok (.iaload, 1) := by decide +kernel
theorem dX5_measureMatrix_80 : decode cX5_measureMatrix 80 = .ok (.iload_n 2, 1) := by decide +kernel
theorem dX5_measureMatrix_81 : decode cX5_measureMatrix 81 = .ok (.ifCond .ne 7, 3) := by decide +kernel
theorem dX5_measureMatrix_84 : decode cX5_measureMatrix 84 = .ok (.iconst 1, 1) := by decide +kernel
theorem dX5_measureMatrix_85 : decode cX5_measureMatrix 85 = .ok (.goto 4, 3) := by decide +kernel
theorem dX5_measureMatrix_88 : decode cX5_measureMatrix 88 = .ok (.iload_n 2, 1) := by decide +kernel
theorem dX5_measureMatrix_89 : decode cX5_measureMatrix 89 = .ok (.iconst 0, 1) := by decide +kernel
theorem dX5_measureMatrix_90 : decode cX5_measureMatrix 90 = .ok (.invokevirtual 117, 3) := by decide +kernel
theorem dX5_measureMatrix_93 : decode cX5_measureMatrix 93 = .ok (.iload 7, 2) := by decide +kernel
theorem dX5_measureMatrix_95 : decode cX5_measureMatrix 95 = .ok (.iload 5, 2) := by decide +kernel
theorem dX5_measureMatrix_97 : decode cX5_measureMatrix 97 = .ok (.irem, 1) := by decide +kernel
theorem dX5_measureMatrix_98 : decode cX5_measureMatrix 98 = .ok (.istore 8, 2) := by decide +kernel
theorem dX5_measureMatrix_100 : decode cX5_measureMatrix 100 = .ok (.iload 7, 2) := by decide +kernel
theorem dX5_measureMatrix_102 : decode cX5_measureMatrix 102 = .ok (.iload 5, 2) := by decide +kernel
theorem dX5_measureMatrix_104 : decode cX5_measureMatrix 104 = .ok (.idiv, 1) := by decide +kernel
theorem dX5_measureMatrix_105 : decode cX5_measureMatrix 105 = .ok (.istore 9, 2) := by decide +kernel
theorem dX5_measureMatrix_107 : decode cX5_measureMatrix 107 = .ok (.aload_n 0, 1) := by decide +kernel
theorem dX5_measureMatrix_108 : decode cX5_measureMatrix 108 = .ok (.getfield 47, 3) := by decide +kernel
theorem dX5_measureMatrix_111 : decode cX5_measureMatrix 111 = .ok (.iload 6, 2) := by decide +kernel
theorem dX5_measureMatrix_113 : decode cX5_measureMatrix 113 = .ok (.iload 8, 2) := by decide +kernel
theorem dX5_measureMatrix_115 : decode cX5_measureMatrix 115 = .ok (.iadd, 1) := by decide +kernel
theorem dX5_measureMatrix_116 : decode cX5_measureMatrix 116 = .ok (.aload_n 0, 1) := by decide +kernel
theorem dX5_measureMatrix_117 : decode cX5_measureMatrix 117 = .ok (.getfield 47, 3) := by decide +kernel
theorem dX5_measureMatrix_120 : decode cX5_measureMatrix 120 = .ok (.iload 6, 2) := by decide +kernel
theorem dX5_measureMatrix_122 : decode cX5_measureMatrix 122 = .ok (.iload 8, 2) := by decide +kernel
theorem dX5_measureMatrix_124 : decode cX5_measureMatrix 124 = .ok (.iadd, 1) := by decide +kernel
theorem dX5_measureMatrix_125 : decode cX5_measureMatrix 125 = .ok (.iaload, 1) := by decide +kernel
theorem dX5_measureMatrix_126 : decode cX5_measureMatrix 126 = .ok (.aload_n 0, 1) := by decide +kernel
theorem dX5_measureMatrix_127 : decode cX5_measureMatrix 127 = .ok (.getfield 96, 3) := by decide +kernel
theorem dX5_measureMatrix_130 : decode cX5_measureMatrix 130 = .ok (.invokestatic 111, 3) := by decide +kernel
theorem dX5_measureMatrix_133 : decode cX5_measureMatrix 133 = .ok (.iastore, 1) := by decide +kernel
theorem dX5_measureMatrix_134 : decode cX5_measureMatrix 134 = .ok (.aload_n 0, 1) := by decide +kernel
theorem dX5_measureMatrix_135 : decode cX5_measureMatrix 135 = .ok (.getfield 47, 3) := by decide +kernel
theorem dX5_measureMatrix_138 : decode cX5_measureMatrix 138 = .ok (.iload 6, 2) := by decide +kernel
theorem dX5_measureMatrix_140 : decode cX5_measureMatrix 140 = .ok (.iconst 5, 1) := by decide +kernel
theorem dX5_measureMatrix_141 : decode cX5_measureMatrix 141 = .ok (.iadd, 1) := by decide +kernel
theorem dX5_measureMatrix_142 : decode cX5_measureMatrix 142 = .ok (.iload 9, 2) := by decide +kernel
theorem dX5_measureMatrix_144 : decode cX5_measureMatrix 144 = .ok (.iadd, 1) := by decide +kernel
theorem dX5_measureMatrix_145 : decode cX5_measureMatrix 145 = .ok (.aload_n 0, 1) := by decide +kernel
theorem dX5_measureMatrix_146 : decode cX5_measureMatrix 146 = .ok (.getfield 47, 3) := by decide +kernel
theorem dX5_measureMatrix_149 : decode cX5_measureMatrix 149 = .ok (.iload 6, 2) := by decide +kernel
theorem dX5_measureMatrix_151 : decode cX5_measureMatrix 151 = .ok (.iconst 5, 1) := by decide +kernel
theorem dX5_measureMatrix_152 : decode cX5_measureMatrix 152 = .ok (.iadd, 1) := by decide +kernel
theorem dX5_measureMatrix_153 : decode cX5_measureMatrix 153 = .ok (.iload 9, 2) := by decide +kernel
theorem dX5_measureMatrix_155 : decode cX5_measureMatrix 155 = .ok (.iadd, 1) := by decide +kernel
theorem dX5_measureMatrix_156 : decode cX5_measureMatrix 156 = .ok (.iaload, 1) := by decide +kernel
theorem dX5_measureMatrix_157 : decode cX5_measureMatrix 157 = .ok (.aload_n 0, 1) := by decide +kernel
theorem dX5_measureMatrix_158 : decode cX5_measureMatrix 158 = .ok (.getfield 99, 3) := by decide +kernel
theorem dX5_measureMatrix_161 : decode cX5_measureMatrix 161 = .ok (.invokestatic 111, 3) := by decide +kernel
theorem dX5_measureMatrix_164 : decode cX5_measureMatrix 164 = .ok (.iastore, 1) := by decide +kernel
theorem dX5_measureMatrix_165 : decode cX5_measureMatrix 165 = .ok (.aload_n 0, 1) := by decide +kernel
theorem dX5_measureMatrix_166 : decode cX5_measureMatrix 166 = .ok (.getfield 47, 3) := by decide +kernel
theorem dX5_measureMatrix_169 : decode cX5_measureMatrix 169 = .ok (.iload 6, 2) := by decide +kernel
theorem dX5_measureMatrix_171 : decode cX5_measureMatrix 171 = .ok (.bipush 10, 2) := by decide +kernel
theorem dX5_measureMatrix_173 : decode cX5_measureMatrix 173 = .ok (.iadd, 1) := by decide +kernel
theorem dX5_measureMatrix_174 : decode cX5_measureMatrix 174 = .ok (.iload 9, 2) := by decide +kernel
theorem dX5_measureMatrix_176 : decode cX5_measureMatrix 176 = .ok (.iadd, 1) := by decide +kernel
theorem dX5_measureMatrix_177 : decode cX5_measureMatrix 177 = .ok (.aload_n 0, 1) := by decide +kernel
theorem dX5_measureMatrix_178 : decode cX5_measureMatrix 178 = .ok (.getfield 47, 3) := by decide +kernel
theorem dX5_measureMatrix_181 : decode cX5_measureMatrix 181 = .ok (.iload 6, 2) := by decide +kernel
theorem dX5_measureMatrix_183 : decode cX5_measureMatrix 183 = .ok (.bipush 10, 2) := by decide +kernel
theorem dX5_measureMatrix_185 : decode cX5_measureMatrix 185 = .ok (.iadd, 1) := by decide +kernel
theorem dX5_measureMatrix_186 : decode cX5_measureMatrix 186 = .ok (.iload 9, 2) := by decide +kernel
theorem dX5_measureMatrix_188 : decode cX5_measureMatrix 188 = .ok (.iadd, 1) := by decide +kernel
theorem dX5_measureMatrix_189 : decode cX5_measureMatrix 189 = .ok (.iaload, 1) := by decide +kernel
theorem dX5_measureMatrix_190 : decode cX5_measureMatrix 190 = .ok (.aload_n 0, 1) := by decide +kernel
theorem dX5_measureMatrix_191 : decode cX5_measureMatrix 191 = .ok (.getfield 102, 3) := by decide +kernel
theorem dX5_measureMatrix_194 : decode cX5_measureMatrix 194 = .ok (.invokestatic 111, 3) := by decide +kernel
theorem dX5_measureMatrix_197 : decode cX5_measureMatrix 197 = .ok (.iastore, 1) := by decide +kernel
theorem dX5_measureMatrix_198 : decode cX5_measureMatrix 198 = .ok (.iinc 7 1, 3) := by decide +kernel
theorem dX5_measureMatrix_201 : decode cX5_measureMatrix 201 = .ok (.goto (-144), 3) := by decide +kernel
theorem dX5_measureMatrix_204 : decode cX5_measureMatrix 204 = .ok (.iconst 3, 1) := by decide +kernel
theorem dX5_measureMatrix_205 : decode cX5_measureMatrix 205 = .ok (.iload_n 3, 1) := by decide +kernel
theorem dX5_measureMatrix_206 : decode cX5_measureMatrix 206 = .ok (.imul, 1) := by decide +kernel
theorem dX5_measureMatrix_207 : decode cX5_measureMatrix 207 = .ok (.iload 5, 2) := by decide +kernel
theorem dX5_measureMatrix_209 : decode cX5_measureMatrix 209 = .ok (.iconst 1, 1) := by decide +kernel
theorem dX5_measureMatrix_210 : decode cX5_measureMatrix 210 = .ok (.isub, 1) := by decide +kernel
theorem dX5_measureMatrix_211 : decode cX5_measureMatrix 211 = .ok (.imul, 1) := by decide +kernel
theorem dX5_measureMatrix_212 : decode cX5_measureMatrix 212 = .ok (.istore 7, 2) := by decide +kernel
theorem dX5_measureMatrix_214 : decode cX5_measureMatrix 214 = .ok (.iconst 0, 1) := by decide +kernel
theorem dX5_measureMatrix_215 : decode cX5_measureMatrix 215 = .ok (.istore 8, 2) := by decide +kernel
theorem dX5_measureMatrix_217 : decode cX5_measureMatrix 217 = .ok (.iload 8, 2) := by decide +kernel
theorem dX5_measureMatrix_219 : decode cX5_measureMatrix 219 = .ok (.iload 5, 2) := by decide +kernel
theorem dX5_measureMatrix_221 : decode cX5_measureMatrix 221 = .ok (.if_icmp .ge 24, 3) := by decide +kernel
theorem dX5_measureMatrix_224 : decode cX5_measureMatrix 224 = .ok (.iload 7, 2) := by decide +kernel
theorem dX5_measureMatrix_226 : decode cX5_measureMatrix 226 = .ok (.aload_n 0, 1) := by decide +kernel
theorem dX5_measureMatrix_227 : decode cX5_measureMatrix 227 = .ok (.getfield 47, 3) := by decide +kernel
theorem dX5_measureMatrix_230 : decode cX5_measureMatrix 230 = .ok (.iload 6, 2) := by decide +kernel
theorem dX5_measureMatrix_232 : decode cX5_measureMatrix 232 = .ok (.iload 8, 2) := by decide +kernel
theorem dX5_measureMatrix_234 : decode cX5_measureMatrix 234 = .ok (.iadd, 1) := by decide +kernel
theorem dX5_measureMatrix_235 : decode cX5_measureMatrix 235 = .ok (.iaload, 1) := by decide +kernel
theorem dX5_measureMatrix_236 : decode cX5_measureMatrix 236 = .ok (.iadd, 1) := by decide +kernel
theorem dX5_measureMatrix_237 : decode cX5_measureMatrix 237 = .ok (.istore 7, 2) := by decide +kernel
theorem dX5_measureMatrix_239 : decode cX5_measureMatrix 239 = .ok (.iinc 8 1, 3) := by decide +kernel
theorem dX5_measureMatrix_242 : decode cX5_measureMatrix 242 = .ok (.goto (-25), 3) := by decide +kernel
theorem dX5_measureMatrix_245 : decode cX5_measureMatrix 245 = .ok (.iconst 2, 1) := by decide +kernel
theorem dX5_measureMatrix_246 : decode cX5_measureMatrix 246 = .ok (.iload_n 3, 1) := by decide +kernel
theorem dX5_measureMatrix_247 : decode cX5_measureMatrix 247 = .ok (.imul, 1) := by decide +kernel
theorem dX5_measureMatrix_248 : decode cX5_measureMatrix 248 = .ok (.iload 4, 2) := by decide +kernel
theorem dX5_measureMatrix_250 : decode cX5_measureMatrix 250 = .ok (.iconst 1, 1) := by decide +kernel
theorem dX5_measureMatrix_251 : decode cX5_measureMatrix 251 = .ok (.isub, 1) := by decide +kernel
theorem dX5_measureMatrix_252 : decode cX5_measureMatrix 252 = .ok (.imul, 1) := by decide +kernel
theorem dX5_measureMatrix_253 : decode cX5_measureMatrix 253 = .ok (.istore 8, 2) := by decide +kernel
theorem dX5_measureMatrix_255 : decode cX5_measureMatrix 255 = .ok (.iconst 0, 1) := by decide +kernel
theorem dX5_measureMatrix_256 : decode cX5_measureMatrix 256 = .ok (.istore 9, 2) := by decide +kernel
theorem dX5_measureMatrix_258 : decode cX5_measureMatrix 258 = .ok (.iload 9, 2) := by decide +kernel
theorem dX5_measureMatrix_260 : decode cX5_measureMatrix 260 = .ok (.iload 4, 2) := by decide +kernel
theorem dX5_measureMatrix_262 : decode cX5_measureMatrix 262 = .ok (.if_icmp .ge 40, 3) := by decide +kernel
theorem dX5_measureMatrix_265 : decode cX5_measureMatrix 265 = .ok (.iload 8, 2) := by decide +kernel
theorem dX5_measureMatrix_267 : decode cX5_measureMatrix 267 = .ok (.aload_n 0, 1) := by decide +kernel
theorem dX5_measureMatrix_268 : decode cX5_measureMatrix 268 = .ok (.getfield 47, 3) := by decide +kernel
theorem dX5_measureMatrix_271 : decode cX5_measureMatrix 271 = .ok (.iload 6, 2) := by decide +kernel
theorem dX5_measureMatrix_273 : decode cX5_measureMatrix 273 = .ok (.iconst 5, 1) := by decide +kernel
theorem dX5_measureMatrix_274 : decode cX5_measureMatrix 274 = .ok (.iadd, 1) := by decide +kernel
theorem dX5_measureMatrix_275 : decode cX5_measureMatrix 275 = .ok (.iload 9, 2) := by decide +kernel
theorem dX5_measureMatrix_277 : decode cX5_measureMatrix 277 = .ok (.iadd, 1) := by decide +kernel
theorem dX5_measureMatrix_278 : decode cX5_measureMatrix 278 = .ok (.iaload, 1) := by decide +kernel
theorem dX5_measureMatrix_279 : decode cX5_measureMatrix 279 = .ok (.iadd, 1) := by decide +kernel
theorem dX5_measureMatrix_280 : decode cX5_measureMatrix 280 = .ok (.aload_n 0, 1) := by decide +kernel
theorem dX5_measureMatrix_281 : decode cX5_measureMatrix 281 = .ok (.getfield 47, 3) := by decide +kernel
theorem dX5_measureMatrix_284 : decode cX5_measureMatrix 284 = .ok (.iload 6, 2) := by decide +kernel
theorem dX5_measureMatrix_286 : decode cX5_measureMatrix 286 = .ok (.bipush 10, 2) := by decide +kernel
theorem dX5_measureMatrix_288 : decode cX5_measureMatrix 288 = .ok (.iadd, 1) := by decide +kernel
theorem dX5_measureMatrix_289 : decode cX5_measureMatrix 289 = .ok (.iload 9, 2) := by decide +kernel
theorem dX5_measureMatrix_291 : decode cX5_measureMatrix 291 = .ok (.iadd, 1) := by decide +kernel
theorem dX5_measureMatrix_292 : decode cX5_measureMatrix 292 = .ok (.iaload, 1) := by decide +kernel
theorem dX5_measureMatrix_293 : decode cX5_measureMatrix 293 = .ok (.iadd, 1) := by decide +kernel
theorem dX5_measureMatrix_294 : decode cX5_measureMatrix 294 = .ok (.istore 8, 2) := by decide +kernel
theorem dX5_measureMatrix_296 : decode cX5_measureMatrix 296 = .ok (.iinc 9 1, 3) := by decide +kernel
theorem dX5_measureMatrix_299 : decode cX5_measureMatrix 299 = .ok (.goto (-41), 3) := by decide +kernel
theorem dX5_measureMatrix_302 : decode cX5_measureMatrix 302 = .ok (.iconst 2, 1) := by decide +kernel
theorem dX5_measureMatrix_303 : decode cX5_measureMatrix 303 = .ok (.iload_n 3, 1) := by decide +kernel
theorem dX5_measureMatrix_304 : decode cX5_measureMatrix 304 = .ok (.imul, 1) := by decide +kernel
theorem dX5_measureMatrix_305 : decode cX5_measureMatrix 305 = .ok (.iload 8, 2) := by decide +kernel
theorem dX5_measureMatrix_307 : decode cX5_measureMatrix 307 = .ok (.invokestatic 108, 3) := by decide +kernel
theorem dX5_measureMatrix_310 : decode cX5_measureMatrix 310 = .ok (.isub, 1) := by decide +kernel
theorem dX5_measureMatrix_311 : decode cX5_measureMatrix 311 = .ok (.iload 8, 2) := by decide +kernel
theorem dX5_measureMatrix_313 : decode cX5_measureMatrix 313 = .ok (.iadd, 1) := by decide +kernel
theorem dX5_measureMatrix_314 : decode cX5_measureMatrix 314 = .ok (.istore 9, 2) := by decide +kernel
theorem dX5_measureMatrix_316 : decode cX5_measureMatrix 316 = .ok (.aload_n 0, 1) := by decide +kernel
theorem dX5_measureMatrix_317 : decode cX5_measureMatrix 317 = .ok (.getfield 47, 3) := by decide +kernel
theorem dX5_measureMatrix_320 : decode cX5_measureMatrix 320 = .ok (.iload 6, 2) := by decide +kernel
theorem dX5_measureMatrix_322 : decode cX5_measureMatrix 322 = .ok (.bipush 15, 2) := by decide +kernel
theorem dX5_measureMatrix_324 : decode cX5_measureMatrix 324 = .ok (.iadd, 1) := by decide +kernel
theorem dX5_measureMatrix_325 : decode cX5_measureMatrix 325 = .ok (.iload 9, 2) := by decide +kernel
theorem dX5_measureMatrix_327 : decode cX5_measureMatrix 327 = .ok (.iastore, 1) := by decide +kernel
theorem dX5_measureMatrix_328 : decode cX5_measureMatrix 328 = .ok (.aload_n 0, 1) := by decide +kernel
theorem dX5_measureMatrix_329 : decode cX5_measureMatrix 329 = .ok (.iload 7, 2) := by decide +kernel
theorem dX5_measureMatrix_331 : decode cX5_measureMatrix 331 = .ok (.iconst 0, 1) := by decide +kernel
theorem dX5_measureMatrix_332 : decode cX5_measureMatrix 332 = .ok (.iload 9, 2) := by decide +kernel
theorem dX5_measureMatrix_334 : decode cX5_measureMatrix 334 = .ok (.invokestatic 111, 3) := by decide +kernel
theorem dX5_measureMatrix_337 : decode cX5_measureMatrix 337 = .ok (.iconst 0, 1) := by decide +kernel
theorem dX5_measureMatrix_338 : decode cX5_measureMatrix 338 = .ok (.iload 8, 2) := by decide +kernel
theorem dX5_measureMatrix_340 : decode cX5_measureMatrix 340 = .ok (.iload 9, 2) := by decide +kernel
theorem dX5_measureMatrix_342 : decode cX5_measureMatrix 342 = .ok (.isub, 1) := by decide +kernel
theorem dX5_measureMatrix_343 : decode cX5_measureMatrix 343 = .ok (.invokestatic 111, 3) := by decide +kernel
theorem dX5_measureMatrix_346 : decode cX5_measureMatrix 346 = .ok (.invokevirtual 121, 3) := by decide +kernel
theorem dX5_measureMatrix_349 : decode cX5_measureMatrix 349 = .ok (.return_, 1) := by decide +kernel
theorem dX5_measureNucleus_0 : decode cX5_measureNucleus 0 = .ok (.aload_n 0, 1) := by decide +kernel
theorem dX5_measureNucleus_1 : decode cX5_measureNucleus 1 = .ok (.getfield 20, 3) := by decide +kernel
theorem dX5_measureNucleus_4 : decode cX5_measureNucleus 4 = .ok (.iload_n 1, 1) := by decide +kernel
theorem dX5_measureNucleus_5 : decode cX5_measureNucleus 5 = .ok (.iaload, 1) := by decide +kernel
theorem dX5_measureNucleus_6 : decode cX5_measureNucleus 6 = .ok (.ifCond .ne 64, 3) := by decide +kernel
theorem dX5_measureNucleus_9 : decode cX5_measureNucleus 9 = .ok (.aload_n 0, 1) := by decide +kernel
theorem dX5_measureNucleus_10 : decode cX5_measureNucleus 10 = .ok (.getfield 23, 3) := by decide +kernel
theorem dX5_measureNucleus_13 : decode cX5_measureNucleus 13 = .ok (.iload_n 1, 1) := by decide +kernel
theorem dX5_measureNucleus_14 : decode cX5_measureNucleus 14 = .ok (.iaload, 1) := by decide +kernel
theorem dX5_measureNucleus_15 : decode cX5_measureNucleus 15 = .ok (.iload_n 2, 1) := by decide +kernel
theorem dX5_measureNucleus_16 : decode cX5_measureNucleus 16 = .ok (.invokestatic 140, 3) := by decide +kernel
theorem dX5_measureNucleus_19 : decode cX5_measureNucleus 19 = .ok (.istore 4, 2) := by decide +kernel
theorem dX5_measureNucleus_21 : decode cX5_measureNucleus 21 = .ok (.aload_n 0, 1) := by decide +kernel
theorem dX5_measureNucleus_22 : decode cX5_measureNucleus 22 = .ok (.getfield 26, 3) := by decide +kernel
theorem dX5_measureNucleus_25 : decode cX5_measureNucleus 25 = .ok (.iload_n 1, 1) := by decide +kernel
theorem dX5_measureNucleus_26 : decode cX5_measureNucleus 26 = .ok (.iaload, 1) := by decide +kernel
theorem dX5_measureNucleus_27 : decode cX5_measureNucleus 27 = .ok (.istore 5, 2) := by decide +kernel
theorem dX5_measureNucleus_29 : decode cX5_measureNucleus 29 = .ok (.aload_n 0, 1) := by decide +kernel
theorem dX5_measureNucleus_30 : decode cX5_measureNucleus 30 = .ok (.iload 4, 2) := by decide +kernel
theorem dX5_measureNucleus_32 : decode cX5_measureNucleus 32 = .ok (.iconst 4, 1) := by decide +kernel
theorem dX5_measureNucleus_33 : decode cX5_measureNucleus 33 = .ok (.iload 5, 2) := by decide +kernel
theorem dX5_measureNucleus_35 : decode cX5_measureNucleus 35 = .ok (.iconst 5, 1) := by decide +kernel
theorem dX5_measureNucleus_36 : decode cX5_measureNucleus 36 = .ok (.irem, 1) := by decide +kernel
theorem dX5_measureNucleus_37 : decode cX5_measureNucleus 37 = .ok (.iadd, 1) := by decide +kernel
theorem dX5_measureNucleus_38 : decode cX5_measureNucleus 38 = .ok (.imul, 1) := by decide +kernel
theorem dX5_measureNucleus_39 : decode cX5_measureNucleus 39 = .ok (.iload 4, 2) := by decide +kernel
theorem dX5_measureNucleus_41 : decode cX5_measureNucleus 41 = .ok (.iconst 5, 1) := by decide +kernel
theorem dX5_measureNucleus_42 : decode cX5_measureNucleus 42 = .ok (.iload 5, 2) := by decide +kernel
theorem dX5_measureNucleus_44 : decode cX5_measureNucleus 44 = .ok (.iconst 3, 1) := by decide +kernel
theorem dX5_measureNucleus_45 : decode cX5_measureNucleus 45 = .ok (.irem, 1) := by decide +kernel
theorem dX5_measureNucleus_46 : decode cX5_measureNucleus 46 = .ok (.iadd, 1) := by decide +kernel
theorem dX5_measureNucleus_47 : decode cX5_measureNucleus 47 = .ok (.imul, 1) := by decide +kernel
theorem dX5_measureNucleus_48 : decode cX5_measureNucleus 48 = .ok (.iload 5, 2) := by decide +kernel
theorem dX5_measureNucleus_50 : decode cX5_measureNucleus 50 = .ok (.iconst 4, 1) := by decide +kernel
theorem dX5_measureNucleus_51 : decode cX5_measureNucleus 51 = .ok (.irem, 1) := by decide +kernel
theorem dX5_measureNucleus_52 : decode cX5_measureNucleus 52 = .ok (.iconst 3, 1) := by decide +kernel
theorem dX5_measureNucleus_53 : decode cX5_measureNucleus 53 = .ok (.if_icmp .ne 10, 3) := by decide +kernel
theorem dX5_measureNucleus_56 : decode cX5_measureNucleus 56 = .ok (.iconst 2, 1) := by decide +kernel
theorem dX5_measureNucleus_57 : decode cX5_measureNucleus 57 = .ok (.iload 4, 2) := by decide +kernel
theorem dX5_measureNucleus_59 : decode cX5_measureNucleus 59 = .ok (.imul, 1) := by decide +kernel
theorem dX5_measureNucleus_60 : decode cX5_measureNucleus 60 = .ok (.goto 4, 3) := by decide +kernel
theorem dX5_measureNucleus_63 : decode cX5_measureNucleus 63 = .ok (.iconst 0, 1) := by decide +kernel
theorem dX5_measureNucleus_64 : decode cX5_measureNucleus 64 = .ok (.invokevirtual 121, 3) := by decide +kernel
theorem dX5_measureNucleus_67 : decode cX5_measureNucleus 67 = .ok (.goto 49, 3) := by decide +kernel
theorem dX5_measureNucleus_70 : decode cX5_measureNucleus 70 = .ok (.aload_n 0, 1) := by decide +kernel
theorem dX5_measureNucleus_71 : decode cX5_measureNucleus 71 = .ok (.getfield 20, 3) := by decide +kernel
theorem dX5_measureNucleus_74 : decode cX5_measureNucleus 74 = .ok (.iload_n 1, 1) := by decide +kernel
theorem dX5_measureNucleus_75 : decode cX5_measureNucleus 75 = .ok (.iaload, 1) := by decide +kernel
theorem dX5_measureNucleus_76 : decode cX5_measureNucleus 76 = .ok (.iconst 1, 1) := by decide +kernel
theorem dX5_measureNucleus_77 : decode cX5_measureNucleus 77 = .ok (.if_icmp .ne 13, 3) := by decide +kernel
theorem dX5_measureNucleus_80 : decode cX5_measureNucleus 80 = .ok (.aload_n 0, 1) := by decide +kernel
theorem dX5_measureNucleus_81 : decode cX5_measureNucleus 81 = .ok (.iload_n 1, 1) := by decide +kernel
theorem dX5_measureNucleus_82 : decode cX5_measureNucleus 82 = .ok (.iload_n 2, 1) := by decide +kernel
theorem dX5_measureNucleus_83 : decode cX5_measureNucleus 83 = .ok (.iload_n 3, 1) := by decide +kernel
theorem dX5_measureNucleus_84 : decode cX5_measureNucleus 84 = .ok (.invokevirtual 143, 3) := by decide +kernel
theorem dX5_measureNucleus_87 : decode cX5_measureNucleus 87 = .ok (.goto 29, 3) := by decide +kernel
theorem dX5_measureNucleus_90 : decode cX5_measureNucleus 90 = .ok (.aload_n 0, 1) := by decide +kernel
theorem dX5_measureNucleus_91 : decode cX5_measureNucleus 91 = .ok (.getfield 20, 3) := by decide +kernel
theorem dX5_measureNucleus_94 : decode cX5_measureNucleus 94 = .ok (.iload_n 1, 1) := by decide +kernel
theorem dX5_measureNucleus_95 : decode cX5_measureNucleus 95 = .ok (.iaload, 1) := by decide +kernel
theorem dX5_measureNucleus_96 : decode cX5_measureNucleus 96 = .ok (.iconst 2, 1) := by decide +kernel
theorem dX5_measureNucleus_97 : decode cX5_measureNucleus 97 = .ok (.if_icmp .ne 13, 3) := by decide +kernel
theorem dX5_measureNucleus_100 : decode cX5_measureNucleus 100 = .ok (.aload_n 0, 1) := by decide +kernel
theorem dX5_measureNucleus_101 : decode cX5_measureNucleus 101 = .ok (.iload_n 1, 1) := by decide +kernel
theorem dX5_measureNucleus_102 : decode cX5_measureNucleus 102 = .ok (.iload_n 2, 1) := by decide +kernel
theorem dX5_measureNucleus_103 : decode cX5_measureNucleus 103 = .ok (.iload_n 3, 1) := by decide +kernel
theorem dX5_measureNucleus_104 : decode cX5_measureNucleus 104 = .ok (.invokevirtual 146, 3) := by decide +kernel
theorem dX5_measureNucleus_107 : decode cX5_measureNucleus 107 = .ok (.goto 9, 3) := by decide +kernel
theorem dX5_measureNucleus_110 : decode cX5_measureNucleus 110 = .ok (.aload_n 0, 1) := by decide +kernel
theorem dX5_measureNucleus_111 : decode cX5_measureNucleus 111 = .ok (.iload_n 1, 1) := by decide +kernel
theorem dX5_measureNucleus_112 : decode cX5_measureNucleus 112 = .ok (.iload_n 2, 1) := by decide +kernel
theorem dX5_measureNucleus_113 : decode cX5_measureNucleus 113 = .ok (.invokevirtual 149, 3) := by decide +kernel
theorem dX5_measureNucleus_116 : decode cX5_measureNucleus 116 = .ok (.return_, 1) := by decide +kernel
theorem dX5_measureAtom_0 : decode cX5_measureAtom 0 = .ok (.aload_n 0, 1) := by decide +kernel
theorem dX5_measureAtom_1 : decode cX5_measureAtom 1 = .ok (.iload_n 1, 1) := by decide +kernel
theorem dX5_measureAtom_2 : decode cX5_measureAtom 2 = .ok (.iload_n 2, 1) := by decide +kernel
theorem dX5_measureAtom_3 : decode cX5_measureAtom 3 = .ok (.iload_n 3, 1) := by decide +kernel
theorem dX5_measureAtom_4 : decode cX5_measureAtom 4 = .ok (.invokevirtual 153, 3) := by decide +kernel
theorem dX5_measureAtom_7 : decode cX5_measureAtom 7 = .ok (.aload_n 0, 1) := by decide +kernel
theorem dX5_measureAtom_8 : decode cX5_measureAtom 8 = .ok (.getfield 35, 3) := by decide +kernel
theorem dX5_measureAtom_11 : decode cX5_measureAtom 11 = .ok (.iload_n 1, 1) := by decide +kernel
theorem dX5_measureAtom_12 : decode cX5_measureAtom 12 = .ok (.iaload, 1) := by decide +kernel
theorem dX5_measureAtom_13 : decode cX5_measureAtom 13 = .ok (.iconst (-1), 1) := by decide +kernel
theorem dX5_measureAtom_14 : decode cX5_measureAtom 14 = .ok (.if_icmp .ne 14, 3) := by decide +kernel
theorem dX5_measureAtom_17 : decode cX5_measureAtom 17 = .ok (.aload_n 0, 1) := by decide +kernel
theorem dX5_measureAtom_18 : decode cX5_measureAtom 18 = .ok (.getfield 38, 3) := by decide +kernel
theorem dX5_measureAtom_21 : decode cX5_measureAtom 21 = .ok (.iload_n 1, 1) := by decide +kernel
theorem dX5_measureAtom_22 : decode cX5_measureAtom 22 = .ok (.iaload, 1) := by decide +kernel
theorem dX5_measureAtom_23 : decode cX5_measureAtom 23 = .ok (.iconst (-1), 1) := by decide +kernel
theorem dX5_measureAtom_24 : decode cX5_measureAtom 24 = .ok (.if_icmp .ne 4, 3) := by decide +kernel
theorem dX5_measureAtom_27 : decode cX5_measureAtom 27 = .ok (.return_, 1) := by decide +kernel
theorem dX5_measureAtom_28 : decode cX5_measureAtom 28 = .ok (.iload_n 2, 1) := by decide +kernel
theorem dX5_measureAtom_29 : decode cX5_measureAtom 29 = .ok (.invokestatic 93, 3) := by decide +kernel
theorem dX5_measureAtom_32 : decode cX5_measureAtom 32 = .ok (.istore 4, 2) := by decide +kernel
theorem dX5_measureAtom_34 : decode cX5_measureAtom 34 = .ok (.aload_n 0, 1) := by decide +kernel
theorem dX5_measureAtom_35 : decode cX5_measureAtom 35 = .ok (.getfield 96, 3) := by decide +kernel
theorem dX5_measureAtom_38 : decode cX5_measureAtom 38 = .ok (.istore 5, 2) := by decide +kernel
theorem dX5_measureAtom_40 : decode cX5_measureAtom 40 = .ok (.aload_n 0, 1) := by decide +kernel
theorem dX5_measureAtom_41 : decode cX5_measureAtom 41 = .ok (.getfield 99, 3) := by decide +kernel
theorem dX5_measureAtom_44 : decode cX5_measureAtom 44 = .ok (.istore 6, 2) := by decide +kernel
theorem dX5_measureAtom_46 : decode cX5_measureAtom 46 = .ok (.aload_n 0, 1) := by decide +kernel
theorem dX5_measureAtom_47 : decode cX5_measureAtom 47 = .ok (.getfield 102, 3) := by decide +kernel
theorem dX5_measureAtom_50 : decode cX5_measureAtom 50 = .ok (.istore 7, 2) := by decide +kernel
theorem dX5_measureAtom_52 : decode cX5_measureAtom 52 = .ok (.iconst 0, 1) := by decide +kernel
theorem dX5_measureAtom_53 : decode cX5_measureAtom 53 = .ok (.istore 8, 2) := by decide +kernel
theorem dX5_measureAtom_55 : decode cX5_measureAtom 55 = .ok (.iconst 0, 1) := by decide +kernel
theorem dX5_measureAtom_56 : decode cX5_measureAtom 56 = .ok (.istore 9, 2) := by decide +kernel
theorem dX5_measureAtom_58 : decode cX5_measureAtom 58 = .ok (.iconst 0, 1) := by decide +kernel
theorem dX5_measureAtom_59 : decode cX5_measureAtom 59 = .ok (.istore 10, 2) := by decide +kernel
theorem dX5_measureAtom_61 : decode cX5_measureAtom 61 = .ok (.iconst 0, 1) := by decide +kernel
theorem dX5_measureAtom_62 : decode cX5_measureAtom 62 = .ok (.istore 11, 2) := by decide +kernel
theorem dX5_measureAtom_64 : decode cX5_measureAtom 64 = .ok (.iconst 0, 1) := by decide +kernel
theorem dX5_measureAtom_65 : decode cX5_measureAtom 65 = .ok (.istore 12, 2) := by decide +kernel
theorem dX5_measureAtom_67 : decode cX5_measureAtom 67 = .ok (.iconst 0, 1) := by decide +kernel
theorem dX5_measureAtom_68 : decode cX5_measureAtom 68 = .ok (.istore 13, 2) := by decide +kernel
theorem dX5_measureAtom_70 : decode cX5_measureAtom 70 = .ok (.aload_n 0, 1) := by decide +kernel
theorem dX5_measureAtom_71 : decode cX5_measureAtom 71 = .ok (.getfield 35, 3) := by decide +kernel
theorem dX5_measureAtom_74 : decode cX5_measureAtom 74 = .ok (.iload_n 1, 1) := by decide +kernel
theorem dX5_measureAtom_75 : decode cX5_measureAtom 75 = .ok (.iaload, 1) := by decide +kernel
theorem dX5_measureAtom_76 : decode cX5_measureAtom 76 = .ok (.iconst (-1), 1) := by decide +kernel
theorem dX5_measureAtom_77 : decode cX5_measureAtom 77 = .ok (.if_icmp .eq 7, 3) := by decide +kernel
theorem dX5_measureAtom_80 : decode cX5_measureAtom 80 = .ok (.iconst 1, 1) := by decide +kernel
theorem dX5_measureAtom_81 : decode cX5_measureAtom 81 = .ok (.goto 4, 3) := by decide +kernel
theorem dX5_measureAtom_84 : decode cX5_measureAtom 84 = .ok (.iconst 0, 1) := by decide +kernel
theorem dX5_measureAtom_85 : decode cX5_measureAtom 85 = .ok (.istore 14, 2) := by decide +kernel
theorem dX5_measureAtom_87 : decode cX5_measureAtom 87 = .ok (.aload_n 0, 1) := by decide +kernel
theorem dX5_measureAtom_88 : decode cX5_measureAtom 88 = .ok (.getfield 38, 3) := by decide +kernel
theorem dX5_measureAtom_91 : decode cX5_measureAtom 91 = .ok (.iload_n 1, 1) := by decide +kernel
theorem dX5_measureAtom_92 : decode cX5_measureAtom 92 = .ok (.iaload, 1) := by decide +kernel
theorem dX5_measureAtom_93 : decode cX5_measureAtom 93 = .ok (.iconst (-1), 1) := by decide +kernel
theorem dX5_measureAtom_94 : decode cX5_measureAtom 94 = .ok (.if_icmp .eq 7, 3) := by decide +kernel
theorem dX5_measureAtom_97 : decode cX5_measureAtom 97 = .ok (.iconst 1, 1) := by decide +kernel
theorem dX5_measureAtom_98 : decode cX5_measureAtom 98 = .ok (.goto 4, 3) := by decide +kernel
theorem dX5_measureAtom_101 : decode cX5_measureAtom 101 = .ok (.iconst 0, 1) := by decide +kernel
theorem dX5_measureAtom_102 : decode cX5_measureAtom 102 = .ok (.istore 15, 2) := by decide +kernel
theorem dX5_measureAtom_104 : decode cX5_measureAtom 104 = .ok (.iload 14, 2) := by decide +kernel
theorem dX5_measureAtom_106 : decode cX5_measureAtom 106 = .ok (.ifCond .eq 36, 3) := by decide +kernel
theorem dX5_measureAtom_109 : decode cX5_measureAtom 109 = .ok (.aload_n 0, 1) := by decide +kernel
theorem dX5_measureAtom_110 : decode cX5_measureAtom 110 = .ok (.aload_n 0, 1) := by decide +kernel
theorem dX5_measureAtom_111 : decode cX5_measureAtom 111 = .ok (.getfield 35, 3) := by decide +kernel
theorem dX5_measureAtom_114 : decode cX5_measureAtom 114 = .ok (.iload_n 1, 1) := by decide +kernel
theorem dX5_measureAtom_115 : decode cX5_measureAtom 115 = .ok (.iaload, 1) := by decide +kernel
theorem dX5_measureAtom_116 : decode cX5_measureAtom 116 = .ok (.iload_n 2, 1) := by decide +kernel
theorem dX5_measureAtom_117 : decode cX5_measureAtom 117 = .ok (.invokestatic 156, 3) := by decide +kernel
theorem dX5_measureAtom_120 : decode cX5_measureAtom 120 = .ok (.iload_n 3, 1) := by decide +kernel
theorem dX5_measureAtom_121 : decode cX5_measureAtom 121 = .ok (.invokevirtual 117, 3) := by decide +kernel
theorem dX5_measureAtom_124 : decode cX5_measureAtom 124 = .ok (.aload_n 0, 1) := by decide +kernel
theorem dX5_measureAtom_125 : decode cX5_measureAtom 125 = .ok (.getfield 96, 3) := by decide +kernel
theorem dX5_measureAtom_128 : decode cX5_measureAtom 128 = .ok (.istore 8, 2) := by decide +kernel
theorem dX5_measureAtom_130 : decode cX5_measureAtom 130 = .ok (.aload_n 0, 1) := by decide +kernel
theorem dX5_measureAtom_131 : decode cX5_measureAtom 131 = .ok (.getfield 99, 3) := by decide +kernel
theorem dX5_measureAtom_134 : decode cX5_measureAtom 134 = .ok (.istore 9, 2) := by decide +kernel
theorem dX5_measureAtom_136 : decode cX5_measureAtom 136 = .ok (.aload_n 0, 1) := by decide +kernel
theorem dX5_measureAtom_137 : decode cX5_measureAtom 137 = .ok (.getfield 102, 3) := by decide +kernel
theorem dX5_measureAtom_140 : decode cX5_measureAtom 140 = .ok (.istore 10, 2) := by decide +kernel
theorem dX5_measureAtom_142 : decode cX5_measureAtom 142 = .ok (.iload 15, 2) := by decide +kernel
theorem dX5_measureAtom_144 : decode cX5_measureAtom 144 = .ok (.ifCond .eq 36, 3) := by decide +kernel
theorem dX5_measureAtom_147 : decode cX5_measureAtom 147 = .ok (.aload_n 0, 1) := by decide +kernel
theorem dX5_measureAtom_148 : decode cX5_measureAtom 148 = .ok (.aload_n 0, 1) := by decide +kernel
theorem dX5_measureAtom_149 : decode cX5_measureAtom 149 = .ok (.getfield 38, 3) := by decide +kernel
theorem dX5_measureAtom_152 : decode cX5_measureAtom 152 = .ok (.iload_n 1, 1) := by decide +kernel
theorem dX5_measureAtom_153 : decode cX5_measureAtom 153 = .ok (.iaload, 1) := by decide +kernel
theorem dX5_measureAtom_154 : decode cX5_measureAtom 154 = .ok (.iload_n 2, 1) := by decide +kernel
theorem dX5_measureAtom_155 : decode cX5_measureAtom 155 = .ok (.invokestatic 156, 3) := by decide +kernel
theorem dX5_measureAtom_158 : decode cX5_measureAtom 158 = .ok (.iconst 1, 1) := by decide +kernel
theorem dX5_measureAtom_159 : decode cX5_measureAtom 159 = .ok (.invokevirtual 117, 3) := by decide +kernel
theorem dX5_measureAtom_162 : decode cX5_measureAtom 162 = .ok (.aload_n 0, 1) := by decide +kernel
theorem dX5_measureAtom_163 : decode cX5_measureAtom 163 = .ok (.getfield 96, 3) := by decide +kernel
theorem dX5_measureAtom_166 : decode cX5_measureAtom 166 = .ok (.istore 11, 2) := by decide +kernel
theorem dX5_measureAtom_168 : decode cX5_measureAtom 168 = .ok (.aload_n 0, 1) := by decide +kernel
theorem dX5_measureAtom_169 : decode cX5_measureAtom 169 = .ok (.getfield 99, 3) := by decide +kernel
theorem dX5_measureAtom_172 : decode cX5_measureAtom 172 = .ok (.istore 12, 2) := by decide +kernel
theorem dX5_measureAtom_174 : decode cX5_measureAtom 174 = .ok (.aload_n 0, 1) := by decide +kernel
theorem dX5_measureAtom_175 : decode cX5_measureAtom 175 = .ok (.getfield 102, 3) := by decide +kernel
theorem dX5_measureAtom_178 : decode cX5_measureAtom 178 = .ok (.istore 13, 2) := by decide +kernel
theorem dX5_measureAtom_180 : decode cX5_measureAtom 180 = .ok (.aload_n 0, 1) := by decide +kernel
theorem dX5_measureAtom_181 : decode cX5_measureAtom 181 = .ok (.getfield 23, 3) := by decide +kernel
theorem dX5_measureAtom_184 : decode cX5_measureAtom 184 = .ok (.iload_n 1, 1) := by decide +kernel
theorem dX5_measureAtom_185 : decode cX5_measureAtom 185 = .ok (.iaload, 1) := by decide +kernel
theorem dX5_measureAtom_186 : decode cX5_measureAtom 186 = .ok (.iconst 1, 1) := by decide +kernel
theorem dX5_measureAtom_187 : decode cX5_measureAtom 187 = .ok (.if_icmp .ne 11, 3) := by decide +kernel
theorem dX5_measureAtom_190 : decode cX5_measureAtom 190 = .ok (.iload_n 2, 1) := by decide +kernel
theorem dX5_measureAtom_191 : decode cX5_measureAtom 191 = .ok (.ifCond .ne 7, 3) := by decide +kernel
theorem dX5_measureAtom_194 : decode cX5_measureAtom 194 = .ok (.iconst 1, 1) := by decide +kernel
theorem dX5_measureAtom_195 : decode cX5_measureAtom 195 = .ok (.goto 4, 3) := by decide +kernel
theorem dX5_measureAtom_198 : decode cX5_measureAtom 198 = .ok (.iconst 0, 1) := by decide +kernel
theorem dX5_measureAtom_199 : decode cX5_measureAtom 199 = .ok (.istore 16, 2) := by decide +kernel
theorem dX5_measureAtom_201 : decode cX5_measureAtom 201 = .ok (.iload 16, 2) := by decide +kernel
theorem dX5_measureAtom_203 : decode cX5_measureAtom 203 = .ok (.ifCond .eq 14, 3) := by decide +kernel
theorem dX5_measureAtom_206 : decode cX5_measureAtom 206 = .ok (.iload 6, 2) := by decide +kernel
theorem dX5_measureAtom_208 : decode cX5_measureAtom 208 = .ok (.iload 4, 2) := by decide +kernel
theorem dX5_measureAtom_210 : decode cX5_measureAtom 210 = .ok (.iadd, 1) := by decide +kernel
theorem dX5_measureAtom_211 : decode cX5_measureAtom 211 = .ok (.iload 10, 2) := by decide +kernel
theorem dX5_measureAtom_213 : decode cX5_measureAtom 213 = .ok (.iadd, 1) := by decide +kernel
theorem dX5_measureAtom_214 : decode cX5_measureAtom 214 = .ok (.goto 33, 3) := by decide +kernel
theorem dX5_measureAtom_217 : decode cX5_measureAtom 217 = .ok (.iload 6, 2) := by decide +kernel
theorem dX5_measureAtom_219 : decode cX5_measureAtom 219 = .ok (.iconst 2, 1) := by decide +kernel
theorem dX5_measureAtom_220 : decode cX5_measureAtom 220 = .ok (.iload 4, 2) := by decide +kernel
theorem dX5_measureAtom_222 : decode cX5_measureAtom 222 = .ok (.imul, 1) := by decide +kernel
theorem dX5_measureAtom_223 : decode cX5_measureAtom 223 = .ok (.isub, 1) := by decide +kernel
theorem dX5_measureAtom_224 : decode cX5_measureAtom 224 = .ok (.iload_n 3, 1) := by decide +kernel
theorem dX5_measureAtom_225 : decode cX5_measureAtom 225 = .ok (.ifCond .eq 7, 3) := by decide +kernel
theorem dX5_measureAtom_228 : decode cX5_measureAtom 228 = .ok (.iconst 3, 1) := by decide +kernel
theorem dX5_measureAtom_229 : decode cX5_measureAtom 229 = .ok (.goto 4, 3) := by decide +kernel
theorem dX5_measureAtom_232 : decode cX5_measureAtom 232 = .ok (.iconst 4, 1) := by decide +kernel
theorem dX5_measureAtom_233 : decode cX5_measureAtom 233 = .ok (.iload 4, 2) := by decide +kernel
theorem dX5_measureAtom_235 : decode cX5_measureAtom 235 = .ok (.imul, 1) := by decide +kernel
theorem dX5_measureAtom_236 : decode cX5_measureAtom 236 = .ok (.iload 10, 2) := by decide +kernel
theorem dX5_measureAtom_238 : decode cX5_measureAtom 238 = .ok (.iload 4, 2) := by decide +kernel
theorem dX5_measureAtom_240 : decode cX5_measureAtom 240 = .ok (.iadd, 1) := by decide +kernel
theorem dX5_measureAtom_241 : decode cX5_measureAtom 241 = .ok (.invokestatic 111, 3) := by decide +kernel
theorem dX5_measureAtom_244 : decode cX5_measureAtom 244 = .ok (.invokestatic 111, 3) := by decide +kernel
theorem dX5_measureAtom_247 : decode cX5_measureAtom 247 = .ok (.istore 17, 2) := by decide +kernel
theorem dX5_measureAtom_249 : decode cX5_measureAtom 249 = .ok (.iload 16, 2) := by decide +kernel
theorem dX5_measureAtom_251 : decode cX5_measureAtom 251 = .ok (.ifCond .eq 14, 3) := by decide +kernel
theorem dX5_measureAtom_254 : decode cX5_measureAtom 254 = .ok (.iload 7, 2) := by decide +kernel
theorem dX5_measureAtom_256 : decode cX5_measureAtom 256 = .ok (.iload 4, 2) := by decide +kernel
theorem dX5_measureAtom_258 : decode cX5_measureAtom 258 = .ok (.iadd, 1) := by decide +kernel
theorem dX5_measureAtom_259 : decode cX5_measureAtom 259 = .ok (.iload 12, 2) := by decide +kernel
theorem dX5_measureAtom_261 : decode cX5_measureAtom 261 = .ok (.iadd, 1) := by decide +kernel
theorem dX5_measureAtom_262 : decode cX5_measureAtom 262 = .ok (.goto 25, 3) := by decide +kernel
theorem dX5_measureAtom_265 : decode cX5_measureAtom 265 = .ok (.iload 7, 2) := by decide +kernel
theorem dX5_measureAtom_267 : decode cX5_measureAtom 267 = .ok (.iload 4, 2) := by decide +kernel
theorem dX5_measureAtom_269 : decode cX5_measureAtom 269 = .ok (.iadd, 1) := by decide +kernel
theorem dX5_measureAtom_270 : decode cX5_measureAtom 270 = .ok (.iconst 2, 1) := by decide +kernel
theorem dX5_measureAtom_271 : decode cX5_measureAtom 271 = .ok (.iload 4, 2) := by decide +kernel
theorem dX5_measureAtom_273 : decode cX5_measureAtom 273 = .ok (.imul, 1) := by decide +kernel
theorem dX5_measureAtom_274 : decode cX5_measureAtom 274 = .ok (.iload 12, 2) := by decide +kernel
theorem dX5_measureAtom_276 : decode cX5_measureAtom 276 = .ok (.iconst 4, 1) := by decide +kernel
theorem dX5_measureAtom_277 : decode cX5_measureAtom 277 = .ok (.iload 4, 2) := by decide +kernel
theorem dX5_measureAtom_279 : decode cX5_measureAtom 279 = .ok (.imul, 1) := by decide +kernel
theorem dX5_measureAtom_280 : decode cX5_measureAtom 280 = .ok (.isub, 1) := by decide +kernel
theorem dX5_measureAtom_281 : decode cX5_measureAtom 281 = .ok (.invokestatic 111, 3) := by decide +kernel
theorem dX5_measureAtom_284 : decode cX5_measureAtom 284 = .ok (.invokestatic 111, 3) := by decide +kernel
theorem dX5_measureAtom_287 : decode cX5_measureAtom 287 = .ok (.istore 18, 2) := by decide +kernel
theorem dX5_measureAtom_289 : decode cX5_measureAtom 289 = .ok (.iload 16, 2) := by decide +kernel
theorem dX5_measureAtom_291 : decode cX5_measureAtom 291 = .ok (.ifCond .ne 48, 3) := by decide +kernel
theorem dX5_measureAtom_294 : decode cX5_measureAtom 294 = .ok (.iload 14, 2) := by decide +kernel
theorem dX5_measureAtom_296 : decode cX5_measureAtom 296 = .ok (.ifCond .eq 43, 3) := by decide +kernel
theorem dX5_measureAtom_299 : decode cX5_measureAtom 299 = .ok (.iload 15, 2) := by decide +kernel
theorem dX5_measureAtom_301 : decode cX5_measureAtom 301 = .ok (.ifCond .eq 38, 3) := by decide +kernel
theorem dX5_measureAtom_304 : decode cX5_measureAtom 304 = .ok (.iload 17, 2) := by decide +kernel
theorem dX5_measureAtom_306 : decode cX5_measureAtom 306 = .ok (.iload 10, 2) := by decide +kernel
theorem dX5_measureAtom_308 : decode cX5_measureAtom 308 = .ok (.isub, 1) := by decide +kernel
theorem dX5_measureAtom_309 : decode cX5_measureAtom 309 = .ok (.iload 18, 2) := by decide +kernel
theorem dX5_measureAtom_311 : decode cX5_measureAtom 311 = .ok (.iadd, 1) := by decide +kernel
theorem dX5_measureAtom_312 : decode cX5_measureAtom 312 = .ok (.iload 12, 2) := by decide +kernel
theorem dX5_measureAtom_314 : decode cX5_measureAtom 314 = .ok (.isub, 1) := by decide +kernel
theorem dX5_measureAtom_315 : decode cX5_measureAtom 315 = .ok (.istore 19, 2) := by decide +kernel
theorem dX5_measureAtom_317 : decode cX5_measureAtom 317 = .ok (.iload 19, 2) := by decide +kernel
theorem dX5_measureAtom_319 : decode cX5_measureAtom 319 = .ok (.iload 4, 2) := by decide +kernel
theorem dX5_measureAtom_321 : decode cX5_measureAtom 321 = .ok (.if_icmp .ge 14, 3) := by decide +kernel
theorem dX5_measureAtom_324 : decode cX5_measureAtom 324 = .ok (.iload 18, 2) := by decide +kernel
theorem dX5_measureAtom_326 : decode cX5_measureAtom 326 = .ok (.iload 4, 2) := by decide +kernel
theorem dX5_measureAtom_328 : decode cX5_measureAtom 328 = .ok (.iadd, 1) := by decide +kernel
theorem dX5_measureAtom_329 : decode cX5_measureAtom 329 = .ok (.iload 19, 2) := by decide +kernel
theorem dX5_measureAtom_331 : decode cX5_measureAtom 331 = .ok (.isub, 1) := by decide +kernel
theorem dX5_measureAtom_332 : decode cX5_measureAtom 332 = .ok (.goto 5, 3) := by decide +kernel
theorem dX5_measureAtom_335 : decode cX5_measureAtom 335 = .ok (.iload 18, 2) := by decide +kernel
theorem dX5_measureAtom_337 : decode cX5_measureAtom 337 = .ok (.istore 18, 2) := by decide +kernel
theorem dX5_measureAtom_339 : decode cX5_measureAtom 339 = .ok (.iload 8, 2) := by decide +kernel
theorem dX5_measureAtom_341 : decode cX5_measureAtom 341 = .ok (.iload 11, 2) := by decide +kernel
theorem dX5_measureAtom_343 : decode cX5_measureAtom 343 = .ok (.invokestatic 111, 3) := by decide +kernel
theorem dX5_measureAtom_346 : decode cX5_measureAtom 346 = .ok (.istore 19, 2) := by decide +kernel
theorem dX5_measureAtom_348 : decode cX5_measureAtom 348 = .ok (.iload 16, 2) := by decide +kernel
theorem dX5_measureAtom_350 : decode cX5_measureAtom 350 = .ok (.ifCond .eq 13, 3) := by decide +kernel
theorem dX5_measureAtom_353 : decode cX5_measureAtom 353 = .ok (.iload 5, 2) := by decide +kernel
theorem dX5_measureAtom_355 : decode cX5_measureAtom 355 = .ok (.iload 19, 2) := by decide +kernel
theorem dX5_measureAtom_357 : decode cX5_measureAtom 357 = .ok (.invokestatic 111, 3) := by decide +kernel
theorem dX5_measureAtom_360 : decode cX5_measureAtom 360 = .ok (.goto 14, 3) := by decide +kernel
theorem dX5_measureAtom_363 : decode cX5_measureAtom 363 = .ok (.iload 5, 2) := by decide +kernel
theorem dX5_measureAtom_365 : decode cX5_measureAtom 365 = .ok (.iload 19, 2) := by decide +kernel
theorem dX5_measureAtom_367 : decode cX5_measureAtom 367 = .ok (.iadd, 1) := by decide +kernel
theorem dX5_measureAtom_368 : decode cX5_measureAtom 368 = .ok (.iload 4, 2) := by decide +kernel
theorem dX5_measureAtom_370 : decode cX5_measureAtom 370 = .ok (.invokestatic 108, 3) := by decide +kernel
theorem dX5_measureAtom_373 : decode cX5_measureAtom 373 = .ok (.iadd, 1) := by decide +kernel
theorem dX5_measureAtom_374 : decode cX5_measureAtom 374 = .ok (.istore 20, 2) := by decide +kernel
theorem dX5_measureAtom_376 : decode cX5_measureAtom 376 = .ok (.iload 6, 2) := by decide +kernel
theorem dX5_measureAtom_378 : decode cX5_measureAtom 378 = .ok (.iconst 0, 1) := by decide +kernel
theorem dX5_measureAtom_379 : decode cX5_measureAtom 379 = .ok (.invokestatic 111, 3) := by decide +kernel
theorem dX5_measureAtom_382 : decode cX5_measureAtom 382 = .ok (.istore 6, 2) := by decide +kernel
theorem dX5_measureAtom_384 : decode cX5_measureAtom 384 = .ok (.iload 7, 2) := by decide +kernel
theorem dX5_measureAtom_386 : decode cX5_measureAtom 386 = .ok (.iconst 0, 1) := by decide +kernel
theorem dX5_measureAtom_387 : decode cX5_measureAtom 387 = .ok (.invokestatic 111, 3) := by decide +kernel
theorem dX5_measureAtom_390 : decode cX5_measureAtom 390 = .ok (.istore 7, 2) := by decide +kernel
theorem dX5_measureAtom_392 : decode cX5_measureAtom 392 = .ok (.iload 14, 2) := by decide +kernel
theorem dX5_measureAtom_394 : decode cX5_measureAtom 394 = .ok (.ifCond .eq 27, 3) := by decide +kernel
theorem dX5_measureAtom_397 : decode cX5_measureAtom 397 = .ok (.iload 6, 2) := by decide +kernel
theorem dX5_measureAtom_399 : decode cX5_measureAtom 399 = .ok (.iload 17, 2) := by decide +kernel
theorem dX5_measureAtom_401 : decode cX5_measureAtom 401 = .ok (.iload 9, 2) := by decide +kernel
theorem dX5_measureAtom_403 : decode cX5_measureAtom 403 = .ok (.iadd, 1) := by decide +kernel
theorem dX5_measureAtom_404 : decode cX5_measureAtom 404 = .ok (.invokestatic 111, 3) := by decide +kernel
theorem dX5_measureAtom_407 : decode cX5_measureAtom 407 = .ok (.istore 6, 2) := by decide +kernel
theorem dX5_measureAtom_409 : decode cX5_measureAtom 409 = .ok (.iload 7, 2) := by decide +kernel
theorem dX5_measureAtom_411 : decode cX5_measureAtom 411 = .ok (.iload 10, 2) := by decide +kernel
theorem dX5_measureAtom_413 : decode cX5_measureAtom 413 = .ok (.iload 17, 2) := by decide +kernel
theorem dX5_measureAtom_415 : decode cX5_measureAtom 415 = .ok (.isub, 1) := by decide +kernel
theorem dX5_measureAtom_416 : decode cX5_measureAtom 416 = .ok (.invokestatic 111, 3) := by decide +kernel
theorem dX5_measureAtom_419 : decode cX5_measureAtom 419 = .ok (.istore 7, 2) := by decide +kernel
theorem dX5_measureAtom_421 : decode cX5_measureAtom 421 = .ok (.iload 15, 2) := by decide +kernel
theorem dX5_measureAtom_423 : decode cX5_measureAtom 423 = .ok (.ifCond .eq 27, 3) := by decide +kernel
theorem dX5_measureAtom_426 : decode cX5_measureAtom 426 = .ok (.iload 6, 2) := by decide +kernel
theorem dX5_measureAtom_428 : decode cX5_measureAtom 428 = .ok (.iload 12, 2) := by decide +kernel
theorem dX5_measureAtom_430 : decode cX5_measureAtom 430 = .ok (.iload 18, 2) := by decide +kernel
theorem dX5_measureAtom_432 : decode cX5_measureAtom 432 = .ok (.isub, 1) := by decide +kernel
theorem dX5_measureAtom_433 : decode cX5_measureAtom 433 = .ok (.invokestatic 111, 3) := by decide +kernel
theorem dX5_measureAtom_436 : decode cX5_measureAtom 436 = .ok (.istore 6, 2) := by decide +kernel
theorem dX5_measureAtom_438 : decode cX5_measureAtom 438 = .ok (.iload 7, 2) := by decide +kernel
theorem dX5_measureAtom_440 : decode cX5_measureAtom 440 = .ok (.iload 13, 2) := by decide +kernel
theorem dX5_measureAtom_442 : decode cX5_measureAtom 442 = .ok (.iload 18, 2) := by decide +kernel
theorem dX5_measureAtom_444 : decode cX5_measureAtom 444 = .ok (.iadd, 1) := by decide +kernel
theorem dX5_measureAtom_445 : decode cX5_measureAtom 445 = .ok (.invokestatic 111, 3) := by decide +kernel
theorem dX5_measureAtom_448 : decode cX5_measureAtom 448 = .ok (.istore 7, 2) := by decide +kernel
theorem dX5_measureAtom_450 : decode cX5_measureAtom 450 = .ok (.aload_n 0, 1) := by decide +kernel
theorem dX5_measureAtom_451 : decode cX5_measureAtom 451 = .ok (.iload 20, 2) := by decide +kernel
theorem dX5_measureAtom_453 : decode cX5_measureAtom 453 = .ok (.iload 6, 2) := by decide +kernel
theorem dX5_measureAtom_455 : decode cX5_measureAtom 455 = .ok (.iload 7, 2) := by decide +kernel
theorem dX5_measureAtom_457 : decode cX5_measureAtom 457 = .ok (.invokevirtual 121, 3) := by decide +kernel
theorem dX5_measureAtom_460 : decode cX5_measureAtom 460 = .ok (.aload_n 0, 1) := by decide +kernel
theorem dX5_measureAtom_461 : decode cX5_measureAtom 461 = .ok (.iload 17, 2) := by decide +kernel
theorem dX5_measureAtom_463 : decode cX5_measureAtom 463 = .ok (.putfield 125, 3) := by decide +kernel
theorem dX5_measureAtom_466 : decode cX5_measureAtom 466 = .ok (.aload_n 0, 1) := by decide +kernel
theorem dX5_measureAtom_467 : decode cX5_measureAtom 467 = .ok (.iload 18, 2) := by decide +kernel
theorem dX5_measureAtom_469 : decode cX5_measureAtom 469 = .ok (.putfield 128, 3) := by decide +kernel
theorem dX5_measureAtom_472 : decode cX5_measureAtom 472 = .ok (.return_, 1) := by decide +kernel
theorem dX5_measureList_0 : decode cX5_measureList 0 = .ok (.iconst 0, 1) := by decide +kernel
theorem dX5_measureList_1 : decode cX5_measureList 1 = .ok (.istore 4, 2) := by decide +kernel
theorem dX5_measureList_3 : decode cX5_measureList 3 = .ok (.iconst 0, 1) := by decide +kernel
theorem dX5_measureList_4 : decode cX5_measureList 4 = .ok (.istore 5, 2) := by decide +kernel
theorem dX5_measureList_6 : decode cX5_measureList 6 = .ok (.iconst 0, 1) := by decide +kernel
theorem dX5_measureList_7 : decode cX5_measureList 7 = .ok (.istore 6, 2) := by decide +kernel
theorem dX5_measureList_9 : decode cX5_measureList 9 = .ok (.iload_n 2, 1) := by decide +kernel
theorem dX5_measureList_10 : decode cX5_measureList 10 = .ok (.istore 7, 2) := by decide +kernel
theorem dX5_measureList_12 : decode cX5_measureList 12 = .ok (.iload_n 3, 1) := by decide +kernel
theorem dX5_measureList_13 : decode cX5_measureList 13 = .ok (.istore 8, 2) := by decide +kernel
theorem dX5_measureList_15 : decode cX5_measureList 15 = .ok (.iconst (-1), 1) := by decide +kernel
theorem dX5_measureList_16 : decode cX5_measureList 16 = .ok (.istore 9, 2) := by decide +kernel
theorem dX5_measureList_18 : decode cX5_measureList 18 = .ok (.iconst 0, 1) := by decide +kernel
theorem dX5_measureList_19 : decode cX5_measureList 19 = .ok (.istore 10, 2) := by decide +kernel
theorem dX5_measureList_21 : decode cX5_measureList 21 = .ok (.iload 10, 2) := by decide +kernel
theorem dX5_measureList_23 : decode cX5_measureList 23 = .ok (.aload_n 0, 1) := by decide +kernel
theorem dX5_measureList_24 : decode cX5_measureList 24 = .ok (.getfield 53, 3) := by decide +kernel
theorem dX5_measureList_27 : decode cX5_measureList 27 = .ok (.if_icmp .ge 145, 3) := by decide +kernel
theorem dX5_measureList_30 : decode cX5_measureList 30 = .ok (.aload_n 0, 1) := by decide +kernel
theorem dX5_measureList_31 : decode cX5_measureList 31 = .ok (.getfield 17, 3) := by decide +kernel
theorem dX5_measureList_34 : decode cX5_measureList 34 = .ok (.iload 10, 2) := by decide +kernel
theorem dX5_measureList_36 : decode cX5_measureList 36 = .ok (.iaload, 1) := by decide +kernel
theorem dX5_measureList_37 : decode cX5_measureList 37 = .ok (.iload_n 1, 1) := by decide +kernel
theorem dX5_measureList_38 : decode cX5_measureList 38 = .ok (.if_icmp .ne 44, 3) := by decide +kernel
theorem dX5_measureList_41 : decode cX5_measureList 41 = .ok (.aload_n 0, 1) := by decide +kernel
theorem dX5_measureList_42 : decode cX5_measureList 42 = .ok (.getfield 20, 3) := by decide +kernel
theorem dX5_measureList_45 : decode cX5_measureList 45 = .ok (.iload 10, 2) := by decide +kernel
theorem dX5_measureList_47 : decode cX5_measureList 47 = .ok (.iaload, 1) := by decide +kernel
theorem dX5_measureList_48 : decode cX5_measureList 48 = .ok (.iconst 4, 1) := by decide +kernel
theorem dX5_measureList_49 : decode cX5_measureList 49 = .ok (.if_icmp .ne 33, 3) := by decide +kernel
theorem dX5_measureList_52 : decode cX5_measureList 52 = .ok (.aload_n 0, 1) := by decide +kernel
theorem dX5_measureList_53 : decode cX5_measureList 53 = .ok (.getfield 26, 3) := by decide +kernel
theorem dX5_measureList_56 : decode cX5_measureList 56 = .ok (.iload 10, 2) := by decide +kernel
theorem dX5_measureList_58 : decode cX5_measureList 58 = .ok (.iaload, 1) := by decide +kernel
theorem dX5_measureList_59 : decode cX5_measureList 59 = .ok (.istore 7, 2) := by decide +kernel
theorem dX5_measureList_61 : decode cX5_measureList 61 = .ok (.aload_n 0, 1) := by decide +kernel
theorem dX5_measureList_62 : decode cX5_measureList 62 = .ok (.getfield 29, 3) := by decide +kernel
theorem dX5_measureList_65 : decode cX5_measureList 65 = .ok (.iload 10, 2) := by decide +kernel
theorem dX5_measureList_67 : decode cX5_measureList 67 = .ok (.iaload, 1) := by decide +kernel
theorem dX5_measureList_68 : decode cX5_measureList 68 = .ok (.iconst 1, 1) := by decide +kernel
theorem dX5_measureList_69 : decode cX5_measureList 69 = .ok (.if_icmp .ne 7, 3) := by decide +kernel
theorem dX5_measureList_72 : decode cX5_measureList 72 = .ok (.iconst 1, 1) := by decide +kernel
theorem dX5_measureList_73 : decode cX5_measureList 73 = .ok (.goto 4, 3) := by decide +kernel
theorem dX5_measureList_76 : decode cX5_measureList 76 = .ok (.iconst 0, 1) := by decide +kernel
theorem dX5_measureList_77 : decode cX5_measureList 77 = .ok (.istore 8, 2) := by decide +kernel
theorem dX5_measureList_79 : decode cX5_measureList 79 = .ok (.goto 87, 3) := by decide +kernel
theorem dX5_measureList_82 : decode cX5_measureList 82 = .ok (.aload_n 0, 1) := by decide +kernel
theorem dX5_measureList_83 : decode cX5_measureList 83 = .ok (.getfield 17, 3) := by decide +kernel
theorem dX5_measureList_86 : decode cX5_measureList 86 = .ok (.iload 10, 2) := by decide +kernel
theorem dX5_measureList_88 : decode cX5_measureList 88 = .ok (.iaload, 1) := by decide +kernel
theorem dX5_measureList_89 : decode cX5_measureList 89 = .ok (.iload_n 1, 1) := by decide +kernel
theorem dX5_measureList_90 : decode cX5_measureList 90 = .ok (.if_icmp .ne 76, 3) := by decide +kernel
theorem dX5_measureList_93 : decode cX5_measureList 93 = .ok (.aload_n 0, 1) := by decide +kernel
theorem dX5_measureList_94 : decode cX5_measureList 94 = .ok (.iload 10, 2) := by decide +kernel
theorem dX5_measureList_96 : decode cX5_measureList 96 = .ok (.invokevirtual 86, 3) := by decide +kernel
theorem dX5_measureList_99 : decode cX5_measureList 99 = .ok (.istore 11, 2) := by decide +kernel
theorem dX5_measureList_101 : decode cX5_measureList 101 = .ok (.aload_n 0, 1) := by decide +kernel
theorem dX5_measureList_102 : decode cX5_measureList 102 = .ok (.iload 10, 2) := by decide +kernel
theorem dX5_measureList_104 : decode cX5_measureList 104 = .ok (.iload 7, 2) := by decide +kernel
theorem dX5_measureList_106 : decode cX5_measureList 106 = .ok (.iload 8, 2) := by decide +kernel
theorem dX5_measureList_108 : decode cX5_measureList 108 = .ok (.invokevirtual 159, 3) := by decide +kernel
theorem dX5_measureList_111 : decode cX5_measureList 111 = .ok (.iload 4, 2) := by decide +kernel
theorem dX5_measureList_113 : decode cX5_measureList 113 = .ok (.iload 9, 2) := by decide +kernel
theorem dX5_measureList_115 : decode cX5_measureList 115 = .ok (.iconst (-1), 1) := by decide +kernel
theorem dX5_measureList_116 : decode cX5_measureList 116 = .ok (.if_icmp .ne 7, 3) := by decide +kernel
theorem dX5_measureList_119 : decode cX5_measureList 119 = .ok (.iconst 0, 1) := by decide +kernel
theorem dX5_measureList_120 : decode cX5_measureList 120 = .ok (.goto 12, 3) := by decide +kernel
theorem dX5_measureList_123 : decode cX5_measureList 123 = .ok (.iload 9, 2) := by decide +kernel
theorem dX5_measureList_125 : decode cX5_measureList 125 = .ok (.iload 11, 2) := by decide +kernel
theorem dX5_measureList_127 : decode cX5_measureList 127 = .ok (.iload 7, 2) := by decide +kernel
theorem dX5_measureList_129 : decode cX5_measureList 129 = .ok (.invokestatic 162, 3) := by decide +kernel
theorem dX5_measureList_132 : decode cX5_measureList 132 = .ok (.iadd, 1) := by decide +kernel
theorem dX5_measureList_133 : decode cX5_measureList 133 = .ok (.aload_n 0, 1) := by decide +kernel
theorem dX5_measureList_134 : decode cX5_measureList 134 = .ok (.getfield 96, 3) := by decide +kernel
theorem dX5_measureList_137 : decode cX5_measureList 137 = .ok (.iadd, 1) := by decide +kernel
theorem dX5_measureList_138 : decode cX5_measureList 138 = .ok (.istore 4, 2) := by decide +kernel
theorem dX5_measureList_140 : decode cX5_measureList 140 = .ok (.iload 5, 2) := by decide +kernel
theorem dX5_measureList_142 : decode cX5_measureList 142 = .ok (.aload_n 0, 1) := by decide +kernel
theorem dX5_measureList_143 : decode cX5_measureList 143 = .ok (.getfield 99, 3) := by decide +kernel
theorem dX5_measureList_146 : decode cX5_measureList 146 = .ok (.invokestatic 111, 3) := by decide +kernel
theorem dX5_measureList_149 : decode cX5_measureList 149 = .ok (.istore 5, 2) := by decide +kernel
theorem dX5_measureList_151 : decode cX5_measureList 151 = .ok (.iload 6, 2) := by decide +kernel
theorem dX5_measureList_153 : decode cX5_measureList 153 = .ok (.aload_n 0, 1) := by decide +kernel
theorem dX5_measureList_154 : decode cX5_measureList 154 = .ok (.getfield 102, 3) := by decide +kernel
theorem dX5_measureList_157 : decode cX5_measureList 157 = .ok (.invokestatic 111, 3) := by decide +kernel
theorem dX5_measureList_160 : decode cX5_measureList 160 = .ok (.istore 6, 2) := by decide +kernel
theorem dX5_measureList_162 : decode cX5_measureList 162 = .ok (.iload 11, 2) := by decide +kernel
theorem dX5_measureList_164 : decode cX5_measureList 164 = .ok (.istore 9, 2) := by decide +kernel
theorem dX5_measureList_166 : decode cX5_measureList 166 = .ok (.iinc 10 1, 3) := by decide +kernel
theorem dX5_measureList_169 : decode cX5_measureList 169 = .ok (.goto (-148), 3) := by decide +kernel
theorem dX5_measureList_172 : decode cX5_measureList 172 = .ok (.aload_n 0, 1) := by decide +kernel
theorem dX5_measureList_173 : decode cX5_measureList 173 = .ok (.iload 4, 2) := by decide +kernel
theorem dX5_measureList_175 : decode cX5_measureList 175 = .ok (.iload 5, 2) := by decide +kernel
theorem dX5_measureList_177 : decode cX5_measureList 177 = .ok (.iload 6, 2) := by decide +kernel
theorem dX5_measureList_179 : decode cX5_measureList 179 = .ok (.invokevirtual 121, 3) := by decide +kernel
theorem dX5_measureList_182 : decode cX5_measureList 182 = .ok (.return_, 1) := by decide +kernel
theorem dX5_put_0 : decode cX5_put 0 = .ok (.bipush 8, 2) := by decide +kernel
theorem dX5_put_2 : decode cX5_put 2 = .ok (.aload_n 0, 1) := by decide +kernel
theorem dX5_put_3 : decode cX5_put 3 = .ok (.getfield 166, 3) := by decide +kernel
theorem dX5_put_6 : decode cX5_put 6 = .ok (.imul, 1) := by decide +kernel
theorem dX5_put_7 : decode cX5_put 7 = .ok (.istore 9, 2) := by decide +kernel
theorem dX5_put_9 : decode cX5_put 9 = .ok (.aload_n 0, 1) := by decide +kernel
theorem dX5_put_10 : decode cX5_put 10 = .ok (.getfield 44, 3) := by decide +kernel
theorem dX5_put_13 : decode cX5_put 13 = .ok (.iload 9, 2) := by decide +kernel
theorem dX5_put_15 : decode cX5_put 15 = .ok (.iload_n 1, 1) := by decide +kernel
theorem dX5_put_16 : decode cX5_put 16 = .ok (.iastore, 1) := by decide +kernel
theorem dX5_put_17 : decode cX5_put 17 = .ok (.aload_n 0, 1) := by decide +kernel
theorem dX5_put_18 : decode cX5_put 18 = .ok (.getfield 44, 3) := by decide +kernel
theorem dX5_put_21 : decode cX5_put 21 = .ok (.iload 9, 2) := by decide +kernel
theorem dX5_put_23 : decode cX5_put 23 = .ok (.iconst 1, 1) := by decide +kernel
theorem dX5_put_24 : decode cX5_put 24 = .ok (.iadd, 1) := by decide +kernel
theorem dX5_put_25 : decode cX5_put 25 = .ok (.iload_n 2, 1) := by decide +kernel
theorem dX5_put_26 : decode cX5_put 26 = .ok (.iastore, 1) := by decide +kernel
theorem dX5_put_27 : decode cX5_put 27 = .ok (.aload_n 0, 1) := by decide +kernel
theorem dX5_put_28 : decode cX5_put 28 = .ok (.getfield 44, 3) := by decide +kernel
theorem dX5_put_31 : decode cX5_put 31 = .ok (.iload 9, 2) := by decide +kernel
theorem dX5_put_33 : decode cX5_put 33 = .ok (.iconst 2, 1) := by decide +kernel
theorem dX5_put_34 : decode cX5_put 34 = .ok (.iadd, 1) := by decide +kernel
theorem dX5_put_35 : decode cX5_put 35 = .ok (.iload_n 3, 1) := by decide +kernel
theorem dX5_put_36 : decode cX5_put 36 = .ok (.iastore, 1) := by decide +kernel
theorem dX5_put_37 : decode cX5_put 37 = .ok (.aload_n 0, 1) := by decide +kernel
theorem dX5_put_38 : decode cX5_put 38 = .ok (.getfield 44, 3) := by decide +kernel
theorem dX5_put_41 : decode cX5_put 41 = .ok (.iload 9, 2) := by decide +kernel
theorem dX5_put_43 : decode cX5_put 43 = .ok (.iconst 3, 1) := by decide +kernel
theorem dX5_put_44 : decode cX5_put 44 = .ok (.iadd, 1) := by decide +kernel
theorem dX5_put_45 : decode cX5_put 45 = .ok (.iload 4, 2) := by decide +kernel
theorem dX5_put_47 : decode cX5_put 47 = .ok (.iastore, 1) := by decide +kernel
theorem dX5_put_48 : decode cX5_put 48 = .ok (.aload_n 0, 1) := by decide +kernel
theorem dX5_put_49 : decode cX5_put 49 = .ok (.getfield 44, 3) := by decide +kernel
theorem dX5_put_52 : decode cX5_put 52 = .ok (.iload 9, 2) := by decide +kernel
theorem dX5_put_54 : decode cX5_put 54 = .ok (.iconst 4, 1) := by decide +kernel
theorem dX5_put_55 : decode cX5_put 55 = .ok (.iadd, 1) := by decide +kernel
theorem dX5_put_56 : decode cX5_put 56 = .ok (.iload 5, 2) := by decide +kernel
theorem dX5_put_58 : decode cX5_put 58 = .ok (.iastore, 1) := by decide +kernel
theorem dX5_put_59 : decode cX5_put 59 = .ok (.aload_n 0, 1) := by decide +kernel
theorem dX5_put_60 : decode cX5_put 60 = .ok (.getfield 44, 3) := by decide +kernel
theorem dX5_put_63 : decode cX5_put 63 = .ok (.iload 9, 2) := by decide +kernel
theorem dX5_put_65 : decode cX5_put 65 = .ok (.iconst 5, 1) := by decide +kernel
theorem dX5_put_66 : decode cX5_put 66 = .ok (.iadd, 1) := by decide +kernel
theorem dX5_put_67 : decode cX5_put 67 = .ok (.iload 6, 2) := by decide +kernel
theorem dX5_put_69 : decode cX5_put 69 = .ok (.iastore, 1) := by decide +kernel
theorem dX5_put_70 : decode cX5_put 70 = .ok (.aload_n 0, 1) := by decide +kernel
theorem dX5_put_71 : decode cX5_put 71 = .ok (.getfield 44, 3) := by decide +kernel
theorem dX5_put_74 : decode cX5_put 74 = .ok (.iload 9, 2) := by decide +kernel
theorem dX5_put_76 : decode cX5_put 76 = .ok (.bipush 6, 2) := by decide +kernel
theorem dX5_put_78 : decode cX5_put 78 = .ok (.iadd, 1) := by decide +kernel
theorem dX5_put_79 : decode cX5_put 79 = .ok (.iload 7, 2) := by decide +kernel
theorem dX5_put_81 : decode cX5_put 81 = .ok (.iastore, 1) := by decide +kernel
theorem dX5_put_82 : decode cX5_put 82 = .ok (.aload_n 0, 1) := by decide +kernel
theorem dX5_put_83 : decode cX5_put 83 = .ok (.getfield 44, 3) := by decide +kernel
theorem dX5_put_86 : decode cX5_put 86 = .ok (.iload 9, 2) := by decide +kernel
theorem dX5_put_88 : decode cX5_put 88 = .ok (.bipush 7, 2) := by decide +kernel
theorem dX5_put_90 : decode cX5_put 90 = .ok (.iadd, 1) := by decide +kernel
