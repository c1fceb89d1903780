theorem dX6_init_0 : decode cX6_init 0 = .ok (.aload_n 0, 1) := by decide +kernel
theorem dX6_init_1 : decode cX6_init 1 = .ok (.invokespecial 1, 3) := by decide +kernel
theorem dX6_init_4 : decode cX6_init 4 = .ok (.aload_n 0, 1) := by decide +kernel
theorem dX6_init_5 : decode cX6_init 5 = .ok (.bipush 8, 2) := by decide +kernel
theorem dX6_init_7 : decode cX6_init 7 = .ok (.newarray .int, 2) := by decide +kernel
theorem dX6_init_9 : decode cX6_init 9 = .ok (.putfield 9, 3) := by decide +kernel
theorem dX6_init_12 : decode cX6_init 12 = .ok (.aload_n 0, 1) := by decide +kernel
theorem dX6_init_13 : decode cX6_init 13 = .ok (.bipush 6, 2) := by decide +kernel
theorem dX6_init_15 : decode cX6_init 15 = .ok (.newarray .int, 2) := by decide +kernel
theorem dX6_init_17 : decode cX6_init 17 = .ok (.putfield 13, 3) := by decide +kernel
theorem dX6_init_20 : decode cX6_init 20 = .ok (.aload_n 0, 1) := by decide +kernel
theorem dX6_init_21 : decode cX6_init 21 = .ok (.bipush 16, 2) := by decide +kernel
theorem dX6_init_23 : decode cX6_init 23 = .ok (.newarray .int, 2) := by decide +kernel
theorem dX6_init_25 : decode cX6_init 25 = .ok (.putfield 16, 3) := by decide +kernel
theorem dX6_init_28 : decode cX6_init 28 = .ok (.aload_n 0, 1) := by decide +kernel
theorem dX6_init_29 : decode cX6_init 29 = .ok (.bipush 16, 2) := by decide +kernel
theorem dX6_init_31 : decode cX6_init 31 = .ok (.newarray .int, 2) := by decide +kernel
theorem dX6_init_33 : decode cX6_init 33 = .ok (.putfield 19, 3) := by decide +kernel
theorem dX6_init_36 : decode cX6_init 36 = .ok (.aload_n 0, 1) := by decide +kernel
theorem dX6_init_37 : decode cX6_init 37 = .ok (.bipush 16, 2) := by decide +kernel
theorem dX6_init_39 : decode cX6_init 39 = .ok (.newarray .int, 2) := by decide +kernel
theorem dX6_init_41 : decode cX6_init 41 = .ok (.putfield 22, 3) := by decide +kernel
theorem dX6_init_44 : decode cX6_init 44 = .ok (.aload_n 0, 1) := by decide +kernel
theorem dX6_init_45 : decode cX6_init 45 = .ok (.bipush 16, 2) := by decide +kernel
theorem dX6_init_47 : decode cX6_init 47 = .ok (.newarray .int, 2) := by decide +kernel
theorem dX6_init_49 : decode cX6_init 49 = .ok (.putfield 25, 3) := by decide +kernel
theorem dX6_init_52 : decode cX6_init 52 = .ok (.aload_n 0, 1) := by decide +kernel
theorem dX6_init_53 : decode cX6_init 53 = .ok (.bipush 16, 2) := by decide +kernel
theorem dX6_init_55 : decode cX6_init 55 = .ok (.newarray .int, 2) := by decide +kernel
theorem dX6_init_57 : decode cX6_init 57 = .ok (.putfield 28, 3) := by decide +kernel
theorem dX6_init_60 : decode cX6_init 60 = .ok (.aload_n 0, 1) := by decide +kernel
theorem dX6_init_61 : decode cX6_init 61 = .ok (.bipush 16, 2) := by decide +kernel
theorem dX6_init_63 : decode cX6_init 63 = .ok (.newarray .int, 2) := by decide +kernel
theorem dX6_init_65 : decode cX6_init 65 = .ok (.putfield 31, 3) := by decide +kernel
theorem dX6_init_68 : decode cX6_init 68 = .ok (.aload_n 0, 1) := by decide +kernel
theorem dX6_init_69 : decode cX6_init 69 = .ok (.bipush 32, 2) := by decide +kernel
theorem dX6_init_71 : decode cX6_init 71 = .ok (.newarray .int, 2) := by decide +kernel
theorem dX6_init_73 : decode cX6_init 73 = .ok (.putfield 34, 3) := by decide +kernel
theorem dX6_init_76 : decode cX6_init 76 = .ok (.aload_n 0, 1) := by decide +kernel
theorem dX6_init_77 : decode cX6_init 77 = .ok (.bipush 32, 2) := by decide +kernel
theorem dX6_init_79 : decode cX6_init 79 = .ok (.newarray .int, 2) := by decide +kernel
theorem dX6_init_81 : decode cX6_init 81 = .ok (.putfield 37, 3) := by decide +kernel
theorem dX6_init_84 : decode cX6_init 84 = .ok (.aload_n 0, 1) := by decide +kernel
theorem dX6_init_85 : decode cX6_init 85 = .ok (.bipush 96, 2) := by decide +kernel
theorem dX6_init_87 : decode cX6_init 87 = .ok (.newarray .int, 2) := by decide +kernel
theorem dX6_init_89 : decode cX6_init 89 = .ok (.putfield 40, 3) := by decide +kernel
theorem dX6_init_92 : decode cX6_init 92 = .ok (.aload_n 0, 1) := by decide +kernel
theorem dX6_init_93 : decode cX6_init 93 = .ok (.bipush 16, 2) := by decide +kernel
theorem dX6_init_95 : decode cX6_init 95 = .ok (.newarray .char, 2) := by decide +kernel
theorem dX6_init_97 : decode cX6_init 97 = .ok (.putfield 43, 3) := by decide +kernel
theorem dX6_init_100 : decode cX6_init 100 = .ok (.aload_n 0, 1) := by decide +kernel
theorem dX6_init_101 : decode cX6_init 101 = .ok (.bipush 32, 2) := by decide +kernel
theorem dX6_init_103 : decode cX6_init 103 = .ok (.newarray .char, 2) := by decide +kernel
theorem dX6_init_105 : decode cX6_init 105 = .ok (.putfield 47, 3) := by decide +kernel
theorem dX6_init_108 : decode cX6_init 108 = .ok (.aload_n 0, 1) := by decide +kernel
theorem dX6_init_109 : decode cX6_init 109 = .ok (.bipush 8, 2) := by decide +kernel
theorem dX6_init_111 : decode cX6_init 111 = .ok (.newarray .boolean, 2) := by decide +kernel
theorem dX6_init_113 : decode cX6_init 113 = .ok (.putfield 50, 3) := by decide +kernel
theorem dX6_init_116 : decode cX6_init 116 = .ok (.aload_n 0, 1) := by decide +kernel
theorem dX6_init_117 : decode cX6_init 117 = .ok (.bipush 16, 2) := by decide +kernel
theorem dX6_init_119 : decode cX6_init 119 = .ok (.newarray .boolean, 2) := by decide +kernel
theorem dX6_init_121 : decode cX6_init 121 = .ok (.putfield 54, 3) := by decide +kernel
theorem dX6_init_124 : decode cX6_init 124 = .ok (.aload_n 0, 1) := by decide +kernel
theorem dX6_init_125 : decode cX6_init 125 = .ok (.bipush 16, 2) := by decide +kernel
theorem dX6_init_127 : decode cX6_init 127 = .ok (.newarray .boolean, 2) := by decide +kernel
theorem dX6_init_129 : decode cX6_init 129 = .ok (.putfield 57, 3) := by decide +kernel
theorem dX6_init_132 : decode cX6_init 132 = .ok (.aload_n 0, 1) := by decide +kernel
theorem dX6_init_133 : decode cX6_init 133 = .ok (.bipush 16, 2) := by decide +kernel
theorem dX6_init_135 : decode cX6_init 135 = .ok (.newarray .char, 2) := by decide +kernel
theorem dX6_init_137 : decode cX6_init 137 = .ok (.putfield 60, 3) := by decide +kernel
theorem dX6_init_140 : decode cX6_init 140 = .ok (.aload_n 0, 1) := by decide +kernel
theorem dX6_init_141 : decode cX6_init 141 = .ok (.bipush 16, 2) := by decide +kernel
theorem dX6_init_143 : decode cX6_init 143 = .ok (.newarray .int, 2) := by decide +kernel
theorem dX6_init_145 : decode cX6_init 145 = .ok (.putfield 63, 3) := by decide +kernel
theorem dX6_init_148 : decode cX6_init 148 = .ok (.aload_n 0, 1) := by decide +kernel
theorem dX6_init_149 : decode cX6_init 149 = .ok (.bipush 16, 2) := by decide +kernel
theorem dX6_init_151 : decode cX6_init 151 = .ok (.newarray .int, 2) := by decide +kernel
theorem dX6_init_153 : decode cX6_init 153 = .ok (.putfield 66, 3) := by decide +kernel
theorem dX6_init_156 : decode cX6_init 156 = .ok (.aload_n 0, 1) := by decide +kernel
theorem dX6_init_157 : decode cX6_init 157 = .ok (.bipush 16, 2) := by decide +kernel
theorem dX6_init_159 : decode cX6_init 159 = .ok (.newarray .int, 2) := by decide +kernel
theorem dX6_init_161 : decode cX6_init 161 = .ok (.putfield 69, 3) := by decide +kernel
theorem dX6_init_164 : decode cX6_init 164 = .ok (.aload_n 0, 1) := by decide +kernel
theorem dX6_init_165 : decode cX6_init 165 = .ok (.bipush 16, 2) := by decide +kernel
theorem dX6_init_167 : decode cX6_init 167 = .ok (.newarray .int, 2) := by decide +kernel
theorem dX6_init_169 : decode cX6_init 169 = .ok (.putfield 72, 3) := by decide +kernel
theorem dX6_init_172 : decode cX6_init 172 = .ok (.aload_n 0, 1) := by decide +kernel
theorem dX6_init_173 : decode cX6_init 173 = .ok (.iconst (-1), 1) := by decide +kernel
theorem dX6_init_174 : decode cX6_init 174 = .ok (.putfield 75, 3) := by decide +kernel
theorem dX6_init_177 : decode cX6_init 177 = .ok (.aload_n 0, 1) := by decide +kernel
theorem dX6_init_178 : decode cX6_init 178 = .ok (.iconst (-1), 1) := by decide +kernel
theorem dX6_init_179 : decode cX6_init 179 = .ok (.putfield 79, 3) := by decide +kernel
theorem dX6_init_182 : decode cX6_init 182 = .ok (.aload_n 0, 1) := by decide +kernel
theorem dX6_init_183 : decode cX6_init 183 = .ok (.sipush 2048, 3) := by decide +kernel
theorem dX6_init_186 : decode cX6_init 186 = .ok (.newarray .char, 2) := by decide +kernel
theorem dX6_init_188 : decode cX6_init 188 = .ok (.putfield 82, 3) := by decide +kernel
theorem dX6_init_191 : decode cX6_init 191 = .ok (.aload_n 0, 1) := by decide +kernel
theorem dX6_init_192 : decode cX6_init 192 = .ok (.sipush 2048, 3) := by decide +kernel
theorem dX6_init_195 : decode cX6_init 195 = .ok (.newarray .int, 2) := by decide +kernel
theorem dX6_init_197 : decode cX6_init 197 = .ok (.putfield 85, 3) := by decide +kernel
theorem dX6_init_200 : decode cX6_init 200 = .ok (.aload_n 0, 1) := by decide +kernel
theorem dX6_init_201 : decode cX6_init 201 = .ok (.sipush 2048, 3) := by decide +kernel
theorem dX6_init_204 : decode cX6_init 204 = .ok (.newarray .int, 2) := by decide +kernel
theorem dX6_init_206 : decode cX6_init 206 = .ok (.putfield 88, 3) := by decide +kernel
theorem dX6_init_209 : decode cX6_init 209 = .ok (.aload_n 0, 1) := by decide +kernel
theorem dX6_init_210 : decode cX6_init 210 = .ok (.sipush 2048, 3) := by decide +kernel
theorem dX6_init_213 : decode cX6_init 213 = .ok (.newarray .int, 2) := by decide +kernel
theorem dX6_init_215 : decode cX6_init 215 = .ok (.putfield 91, 3) := by decide +kernel
theorem dX6_init_218 : decode cX6_init 218 = .ok (.aload_n 0, 1) := by decide +kernel
theorem dX6_init_219 : decode cX6_init 219 = .ok (.bipush 16, 2) := by decide +kernel
theorem dX6_init_221 : decode cX6_init 221 = .ok (.newarray .int, 2) := by decide +kernel
theorem dX6_init_223 : decode cX6_init 223 = .ok (.putfield 94, 3) := by decide +kernel
theorem dX6_init_226 : decode cX6_init 226 = .ok (.return_, 1) := by decide +kernel
theorem dX6_thrown_0 : decode cX6_thrown 0 = .ok (.aload_n 0, 1) := by decide +kernel
theorem dX6_thrown_1 : decode cX6_thrown 1 = .ok (.getfield 97, 3) := by decide +kernel
theorem dX6_thrown_4 : decode cX6_thrown 4 = .ok (.ireturn, 1) := by decide +kernel
theorem dX6_fails_0 : decode cX6_fails 0 = .ok (.aload_n 0, 1) := by decide +kernel
theorem dX6_fails_1 : decode cX6_fails 1 = .ok (.iload_n 1, 1) := by decide +kernel
theorem dX6_fails_2 : decode cX6_fails 2 = .ok (.putfield 97, 3) := by decide +kernel
theorem dX6_fails_5 : decode cX6_fails 5 = .ok (.iconst 0, 1) := by decide +kernel
theorem dX6_fails_6 : decode cX6_fails 6 = .ok (.ireturn, 1) := by decide +kernel
theorem dX6_isWrong_0 : decode cX6_isWrong 0 = .ok (.aload_n 0, 1) := by decide +kernel
theorem dX6_isWrong_1 : decode cX6_isWrong 1 = .ok (.iload_n 1, 1) := by decide +kernel
theorem dX6_isWrong_2 : decode cX6_isWrong 2 = .ok (.putfield 97, 3) := by decide +kernel
theorem dX6_isWrong_5 : decode cX6_isWrong 5 = .ok (.iconst 0, 1) := by decide +kernel
theorem dX6_isWrong_6 : decode cX6_isWrong 6 = .ok (.ireturn, 1) := by decide +kernel
theorem dX6_isBetween_0 : decode cX6_isBetween 0 = .ok (.iload_n 1, 1) := by decide +kernel
theorem dX6_isBetween_1 : decode cX6_isBetween 1 = .ok (.iload_n 0, 1) := by decide +kernel
theorem dX6_isBetween_2 : decode cX6_isBetween 2 = .ok (.if_icmp .gt 12, 3) := by decide +kernel
theorem dX6_isBetween_5 : decode cX6_isBetween 5 = .ok (.iload_n 0, 1) := by decide +kernel
theorem dX6_isBetween_6 : decode cX6_isBetween 6 = .ok (.iload_n 2, 1) := by decide +kernel
theorem dX6_isBetween_7 : decode cX6_isBetween 7 = .ok (.if_icmp .gt 7, 3) := by decide +kernel
theorem dX6_isBetween_10 : decode cX6_isBetween 10 = .ok (.iconst 1, 1) := by decide +kernel
theorem dX6_isBetween_11 : decode cX6_isBetween 11 = .ok (.goto 4, 3) := by decide +kernel
theorem dX6_isBetween_14 : decode cX6_isBetween 14 = .ok (.iconst 0, 1) := by decide +kernel
theorem dX6_isBetween_15 : decode cX6_isBetween 15 = .ok (.ireturn, 1) := by decide +kernel
theorem dX6_has_0 : decode cX6_has 0 = .ok (.iload_n 0, 1) := by decide +kernel
theorem dX6_has_1 : decode cX6_has 1 = .ok (.iload_n 1, 1) := by decide +kernel
theorem dX6_has_2 : decode cX6_has 2 = .ok (.ishr, 1) := by decide +kernel
theorem dX6_has_3 : decode cX6_has 3 = .ok (.iconst 1, 1) := by decide +kernel
theorem dX6_has_4 : decode cX6_has 4 = .ok (.iand, 1) := by decide +kernel
theorem dX6_has_5 : decode cX6_has 5 = .ok (.iconst 1, 1) := by decide +kernel
theorem dX6_has_6 : decode cX6_has 6 = .ok (.if_icmp .ne 7, 3) := by decide +kernel
theorem dX6_has_9 : decode cX6_has 9 = .ok (.iconst 1, 1) := by decide +kernel
theorem dX6_has_10 : decode cX6_has 10 = .ok (.goto 4, 3) := by decide +kernel
theorem dX6_has_13 : decode cX6_has 13 = .ok (.iconst 0, 1) := by decide +kernel
theorem dX6_has_14 : decode cX6_has 14 = .ok (.ireturn, 1) := by decide +kernel
theorem dX6_isPerson_0 : decode cX6_isPerson 0 = .ok (.iload_n 1, 1) := by decide +kernel
theorem dX6_isPerson_1 : decode cX6_isPerson 1 = .ok (.iconst 0, 1) := by decide +kernel
theorem dX6_isPerson_2 : decode cX6_isPerson 2 = .ok (.aload_n 0, 1) := by decide +kernel
theorem dX6_isPerson_3 : decode cX6_isPerson 3 = .ok (.getfield 100, 3) := by decide +kernel
theorem dX6_isPerson_6 : decode cX6_isPerson 6 = .ok (.iconst 1, 1) := by decide +kernel
theorem dX6_isPerson_7 : decode cX6_isPerson 7 = .ok (.isub, 1) := by decide +kernel
theorem dX6_isPerson_8 : decode cX6_isPerson 8 = .ok (.invokestatic 103, 3) := by decide +kernel
theorem dX6_isPerson_11 : decode cX6_isPerson 11 = .ok (.ireturn, 1) := by decide +kernel
theorem dX6_isStep_0 : decode cX6_isStep 0 = .ok (.iload_n 1, 1) := by decide +kernel
theorem dX6_isStep_1 : decode cX6_isStep 1 = .ok (.iconst 0, 1) := by decide +kernel
theorem dX6_isStep_2 : decode cX6_isStep 2 = .ok (.aload_n 0, 1) := by decide +kernel
theorem dX6_isStep_3 : decode cX6_isStep 3 = .ok (.getfield 107, 3) := by decide +kernel
theorem dX6_isStep_6 : decode cX6_isStep 6 = .ok (.iconst 1, 1) := by decide +kernel
theorem dX6_isStep_7 : decode cX6_isStep 7 = .ok (.isub, 1) := by decide +kernel
theorem dX6_isStep_8 : decode cX6_isStep 8 = .ok (.invokestatic 103, 3) := by decide +kernel
theorem dX6_isStep_11 : decode cX6_isStep 11 = .ok (.ireturn, 1) := by decide +kernel
theorem dX6_addPerson_0 : decode cX6_addPerson 0 = .ok (.aload_n 0, 1) := by decide +kernel
theorem dX6_addPerson_1 : decode cX6_addPerson 1 = .ok (.iconst 0, 1) := by decide +kernel
theorem dX6_addPerson_2 : decode cX6_addPerson 2 = .ok (.putfield 97, 3) := by decide +kernel
theorem dX6_addPerson_5 : decode cX6_addPerson 5 = .ok (.iload_n 1, 1) := by decide +kernel
theorem dX6_addPerson_6 : decode cX6_addPerson 6 = .ok (.iconst 1, 1) := by decide +kernel
theorem dX6_addPerson_7 : decode cX6_addPerson 7 = .ok (.bipush 15, 2) := by decide +kernel
theorem dX6_addPerson_9 : decode cX6_addPerson 9 = .ok (.invokestatic 103, 3) := by decide +kernel
theorem dX6_addPerson_12 : decode cX6_addPerson 12 = .ok (.ifCond .ne 9, 3) := by decide +kernel
theorem dX6_addPerson_15 : decode cX6_addPerson 15 = .ok (.aload_n 0, 1) := by decide +kernel
theorem dX6_addPerson_16 : decode cX6_addPerson 16 = .ok (.iconst 1, 1) := by decide +kernel
theorem dX6_addPerson_17 : decode cX6_addPerson 17 = .ok (.invokevirtual 110, 3) := by decide +kernel
theorem dX6_addPerson_20 : decode cX6_addPerson 20 = .ok (.ireturn, 1) := by decide +kernel
theorem dX6_addPerson_21 : decode cX6_addPerson 21 = .ok (.aload_n 0, 1) := by decide +kernel
theorem dX6_addPerson_22 : decode cX6_addPerson 22 = .ok (.getfield 100, 3) := by decide +kernel
theorem dX6_addPerson_25 : decode cX6_addPerson 25 = .ok (.bipush 8, 2) := by decide +kernel
theorem dX6_addPerson_27 : decode cX6_addPerson 27 = .ok (.if_icmp .ne 9, 3) := by decide +kernel
theorem dX6_addPerson_30 : decode cX6_addPerson 30 = .ok (.aload_n 0, 1) := by decide +kernel
theorem dX6_addPerson_31 : decode cX6_addPerson 31 = .ok (.iconst 2, 1) := by decide +kernel
theorem dX6_addPerson_32 : decode cX6_addPerson 32 = .ok (.invokevirtual 110, 3) := by decide +kernel
theorem dX6_addPerson_35 : decode cX6_addPerson 35 = .ok (.ireturn, 1) := by decide +kernel
theorem dX6_addPerson_36 : decode cX6_addPerson 36 = .ok (.aload_n 0, 1) := by decide +kernel
theorem dX6_addPerson_37 : decode cX6_addPerson 37 = .ok (.getfield 9, 3) := by decide +kernel
theorem dX6_addPerson_40 : decode cX6_addPerson 40 = .ok (.aload_n 0, 1) := by decide +kernel
theorem dX6_addPerson_41 : decode cX6_addPerson 41 = .ok (.getfield 100, 3) := by decide +kernel
theorem dX6_addPerson_44 : decode cX6_addPerson 44 = .ok (.iload_n 1, 1) := by decide +kernel
theorem dX6_addPerson_45 : decode cX6_addPerson 45 = .ok (.iastore, 1) := by decide +kernel
theorem dX6_addPerson_46 : decode cX6_addPerson 46 = .ok (.aload_n 0, 1) := by decide +kernel
theorem dX6_addPerson_47 : decode cX6_addPerson 47 = .ok (.dup, 1) := by decide +kernel
theorem dX6_addPerson_48 : decode cX6_addPerson 48 = .ok (.getfield 100, 3) := by decide +kernel
theorem dX6_addPerson_51 : decode cX6_addPerson 51 = .ok (.iconst 1, 1) := by decide +kernel
theorem dX6_addPerson_52 : decode cX6_addPerson 52 = .ok (.iadd, 1) := by decide +kernel
theorem dX6_addPerson_53 : decode cX6_addPerson 53 = .ok (.putfield 100, 3) := by decide +kernel
theorem dX6_addPerson_56 : decode cX6_addPerson 56 = .ok (.aload_n 0, 1) := by decide +kernel
theorem dX6_addPerson_57 : decode cX6_addPerson 57 = .ok (.getfield 100, 3) := by decide +kernel
theorem dX6_addPerson_60 : decode cX6_addPerson 60 = .ok (.iconst 1, 1) := by decide +kernel
theorem dX6_addPerson_61 : decode cX6_addPerson 61 = .ok (.isub, 1) := by decide +kernel
theorem dX6_addPerson_62 : decode cX6_addPerson 62 = .ok (.ireturn, 1) := by decide +kernel
theorem dX6_work_0 : decode cX6_work 0 = .ok (.iconst 0, 1) := by decide +kernel
theorem dX6_work_1 : decode cX6_work 1 = .ok (.istore_n 2, 1) := by decide +kernel
theorem dX6_work_2 : decode cX6_work 2 = .ok (.iload_n 2, 1) := by decide +kernel
theorem dX6_work_3 : decode cX6_work 3 = .ok (.aload_n 0, 1) := by decide +kernel
theorem dX6_work_4 : decode cX6_work 4 = .ok (.getfield 107, 3) := by decide +kernel
theorem dX6_work_7 : decode cX6_work 7 = .ok (.if_icmp .ge 32, 3) := by decide +kernel
theorem dX6_work_10 : decode cX6_work 10 = .ok (.aload_n 0, 1) := by decide +kernel
theorem dX6_work_11 : decode cX6_work 11 = .ok (.getfield 60, 3) := by decide +kernel
theorem dX6_work_14 : decode cX6_work 14 = .ok (.iload_n 2, 1) := by decide +kernel
theorem dX6_work_15 : decode cX6_work 15 = .ok (.caload, 1) := by decide +kernel
theorem dX6_work_16 : decode cX6_work 16 = .ok (.bipush 97, 2) := by decide +kernel
theorem dX6_work_18 : decode cX6_work 18 = .ok (.if_icmp .ne 15, 3) := by decide +kernel
theorem dX6_work_21 : decode cX6_work 21 = .ok (.aload_n 0, 1) := by decide +kernel
theorem dX6_work_22 : decode cX6_work 22 = .ok (.getfield 66, 3) := by decide +kernel
theorem dX6_work_25 : decode cX6_work 25 = .ok (.iload_n 2, 1) := by decide +kernel
theorem dX6_work_26 : decode cX6_work 26 = .ok (.iaload, 1) := by decide +kernel
theorem dX6_work_27 : decode cX6_work 27 = .ok (.iload_n 1, 1) := by decide +kernel
theorem dX6_work_28 : decode cX6_work 28 = .ok (.if_icmp .ne 5, 3) := by decide +kernel
theorem dX6_work_31 : decode cX6_work 31 = .ok (.iload_n 2, 1) := by decide +kernel
theorem dX6_work_32 : decode cX6_work 32 = .ok (.ireturn, 1) := by decide +kernel
theorem dX6_work_33 : decode cX6_work 33 = .ok (.iinc 2 1, 3) := by decide +kernel
theorem dX6_work_36 : decode cX6_work 36 = .ok (.goto (-34), 3) := by decide +kernel
theorem dX6_work_39 : decode cX6_work 39 = .ok (.iconst (-1), 1) := by decide +kernel
theorem dX6_work_40 : decode cX6_work 40 = .ok (.ireturn, 1) := by decide +kernel
theorem dX6_setDuty_0 : decode cX6_setDuty 0 = .ok (.aload_n 0, 1) := by decide +kernel
theorem dX6_setDuty_1 : decode cX6_setDuty 1 = .ok (.iconst 0, 1) := by decide +kernel
theorem dX6_setDuty_2 : decode cX6_setDuty 2 = .ok (.putfield 97, 3) := by decide +kernel
theorem dX6_setDuty_5 : decode cX6_setDuty 5 = .ok (.aload_n 0, 1) := by decide +kernel
theorem dX6_setDuty_6 : decode cX6_setDuty 6 = .ok (.iload_n 1, 1) := by decide +kernel
theorem dX6_setDuty_7 : decode cX6_setDuty 7 = .ok (.invokevirtual 114, 3) := by decide +kernel
theorem dX6_setDuty_10 : decode cX6_setDuty 10 = .ok (.ifCond .ne 9, 3) := by decide +kernel
theorem dX6_setDuty_13 : decode cX6_setDuty 13 = .ok (.aload_n 0, 1) := by decide +kernel
theorem dX6_setDuty_14 : decode cX6_setDuty 14 = .ok (.iconst 1, 1) := by decide +kernel
theorem dX6_setDuty_15 : decode cX6_setDuty 15 = .ok (.invokevirtual 118, 3) := by decide +kernel
theorem dX6_setDuty_18 : decode cX6_setDuty 18 = .ok (.ireturn, 1) := by decide +kernel
theorem dX6_setDuty_19 : decode cX6_setDuty 19 = .ok (.aload_n 0, 1) := by decide +kernel
theorem dX6_setDuty_20 : decode cX6_setDuty 20 = .ok (.iload_n 1, 1) := by decide +kernel
theorem dX6_setDuty_21 : decode cX6_setDuty 21 = .ok (.invokevirtual 121, 3) := by decide +kernel
theorem dX6_setDuty_24 : decode cX6_setDuty 24 = .ok (.iconst (-1), 1) := by decide +kernel
theorem dX6_setDuty_25 : decode cX6_setDuty 25 = .ok (.if_icmp .ne 19, 3) := by decide +kernel
theorem dX6_setDuty_28 : decode cX6_setDuty 28 = .ok (.iload_n 1, 1) := by decide +kernel
theorem dX6_setDuty_29 : decode cX6_setDuty 29 = .ok (.aload_n 0, 1) := by decide +kernel
theorem dX6_setDuty_30 : decode cX6_setDuty 30 = .ok (.getfield 75, 3) := by decide +kernel
theorem dX6_setDuty_33 : decode cX6_setDuty 33 = .ok (.if_icmp .eq 11, 3) := by decide +kernel
theorem dX6_setDuty_36 : decode cX6_setDuty 36 = .ok (.iload_n 1, 1) := by decide +kernel
theorem dX6_setDuty_37 : decode cX6_setDuty 37 = .ok (.aload_n 0, 1) := by decide +kernel
theorem dX6_setDuty_38 : decode cX6_setDuty 38 = .ok (.getfield 79, 3) := by decide +kernel
theorem dX6_setDuty_41 : decode cX6_setDuty 41 = .ok (.if_icmp .ne 9, 3) := by decide +kernel
theorem dX6_setDuty_44 : decode cX6_setDuty 44 = .ok (.aload_n 0, 1) := by decide +kernel
theorem dX6_setDuty_45 : decode cX6_setDuty 45 = .ok (.iconst 2, 1) := by decide +kernel
theorem dX6_setDuty_46 : decode cX6_setDuty 46 = .ok (.invokevirtual 118, 3) := by decide +kernel
theorem dX6_setDuty_49 : decode cX6_setDuty 49 = .ok (.ireturn, 1) := by decide +kernel
theorem dX6_setDuty_50 : decode cX6_setDuty 50 = .ok (.aload_n 0, 1) := by decide +kernel
theorem dX6_setDuty_51 : decode cX6_setDuty 51 = .ok (.getfield 50, 3) := by decide +kernel
theorem dX6_setDuty_54 : decode cX6_setDuty 54 = .ok (.iload_n 1, 1) := by decide +kernel
theorem dX6_setDuty_55 : decode cX6_setDuty 55 = .ok (.baload, 1) := by decide +kernel
theorem dX6_setDuty_56 : decode cX6_setDuty 56 = .ok (.istore_n 3, 1) := by decide +kernel
theorem dX6_setDuty_57 : decode cX6_setDuty 57 = .ok (.aload_n 0, 1) := by decide +kernel
theorem dX6_setDuty_58 : decode cX6_setDuty 58 = .ok (.getfield 50, 3) := by decide +kernel
theorem dX6_setDuty_61 : decode cX6_setDuty 61 = .ok (.iload_n 1, 1) := by decide +kernel
theorem dX6_setDuty_62 : decode cX6_setDuty 62 = .ok (.iload_n 2, 1) := by decide +kernel
theorem dX6_setDuty_63 : decode cX6_setDuty 63 = .ok (.bastore, 1) := by decide +kernel
theorem dX6_setDuty_64 : decode cX6_setDuty 64 = .ok (.iload_n 3, 1) := by decide +kernel
theorem dX6_setDuty_65 : decode cX6_setDuty 65 = .ok (.ireturn, 1) := by decide +kernel
theorem dX6_addStep_0 : decode cX6_addStep 0 = .ok (.aload_n 0, 1) := by decide +kernel
theorem dX6_addStep_1 : decode cX6_addStep 1 = .ok (.iconst 0, 1) := by decide +kernel
theorem dX6_addStep_2 : decode cX6_addStep 2 = .ok (.putfield 97, 3) := by decide +kernel
theorem dX6_addStep_5 : decode cX6_addStep 5 = .ok (.iload_n 1, 1) := by decide +kernel
theorem dX6_addStep_6 : decode cX6_addStep 6 = .ok (.iconst 0, 1) := by decide +kernel
theorem dX6_addStep_7 : decode cX6_addStep 7 = .ok (.iconst 3, 1) := by decide +kernel
theorem dX6_addStep_8 : decode cX6_addStep 8 = .ok (.invokestatic 103, 3) := by decide +kernel
theorem dX6_addStep_11 : decode cX6_addStep 11 = .ok (.ifCond .eq 36, 3) := by decide +kernel
theorem dX6_addStep_14 : decode cX6_addStep 14 = .ok (.iload_n 2, 1) := by decide +kernel
theorem dX6_addStep_15 : decode cX6_addStep 15 = .ok (.iconst 1, 1) := by decide +kernel
theorem dX6_addStep_16 : decode cX6_addStep 16 = .ok (.bipush 60, 2) := by decide +kernel
theorem dX6_addStep_18 : decode cX6_addStep 18 = .ok (.invokestatic 103, 3) := by decide +kernel
theorem dX6_addStep_21 : decode cX6_addStep 21 = .ok (.ifCond .eq 26, 3) := by decide +kernel
theorem dX6_addStep_24 : decode cX6_addStep 24 = .ok (.iload_n 3, 1) := by decide +kernel
theorem dX6_addStep_25 : decode cX6_addStep 25 = .ok (.iconst 1, 1) := by decide +kernel
theorem dX6_addStep_26 : decode cX6_addStep 26 = .ok (.iconst 3, 1) := by decide +kernel
theorem dX6_addStep_27 : decode cX6_addStep 27 = .ok (.invokestatic 103, 3) := by decide +kernel
theorem dX6_addStep_30 : decode cX6_addStep 30 = .ok (.ifCond .eq 17, 3) := by decide +kernel
theorem dX6_addStep_33 : decode cX6_addStep 33 = .ok (.iload 4, 2) := by decide +kernel
theorem dX6_addStep_35 : decode cX6_addStep 35 = .ok (.bipush 97, 2) := by decide +kernel
theorem dX6_addStep_37 : decode cX6_addStep 37 = .ok (.if_icmp .eq 16, 3) := by decide +kernel
theorem dX6_addStep_40 : decode cX6_addStep 40 = .ok (.iload 4, 2) := by decide +kernel
theorem dX6_addStep_42 : decode cX6_addStep 42 = .ok (.bipush 111, 2) := by decide +kernel
theorem dX6_addStep_44 : decode cX6_addStep 44 = .ok (.if_icmp .eq 9, 3) := by decide +kernel
theorem dX6_addStep_47 : decode cX6_addStep 47 = .ok (.aload_n 0, 1) := by decide +kernel
theorem dX6_addStep_48 : decode cX6_addStep 48 = .ok (.iconst 1, 1) := by decide +kernel
theorem dX6_addStep_49 : decode cX6_addStep 49 = .ok (.invokevirtual 110, 3) := by decide +kernel
theorem dX6_addStep_52 : decode cX6_addStep 52 = .ok (.ireturn, 1) := by decide +kernel
theorem dX6_addStep_53 : decode cX6_addStep 53 = .ok (.aload_n 0, 1) := by decide +kernel
theorem dX6_addStep_54 : decode cX6_addStep 54 = .ok (.getfield 124, 3) := by decide +kernel
theorem dX6_addStep_57 : decode cX6_addStep 57 = .ok (.ifCond .ne 12, 3) := by decide +kernel
theorem dX6_addStep_60 : decode cX6_addStep 60 = .ok (.aload_n 0, 1) := by decide +kernel
theorem dX6_addStep_61 : decode cX6_addStep 61 = .ok (.getfield 107, 3) := by decide +kernel
theorem dX6_addStep_64 : decode cX6_addStep 64 = .ok (.bipush 16, 2) := by decide +kernel
theorem dX6_addStep_66 : decode cX6_addStep 66 = .ok (.if_icmp .ne 9, 3) := by decide +kernel
theorem dX6_addStep_69 : decode cX6_addStep 69 = .ok (.aload_n 0, 1) := by decide +kernel
theorem dX6_addStep_70 : decode cX6_addStep 70 = .ok (.iconst 2, 1) := by decide +kernel
theorem dX6_addStep_71 : decode cX6_addStep 71 = .ok (.invokevirtual 110, 3) := by decide +kernel
theorem dX6_addStep_74 : decode cX6_addStep 74 = .ok (.ireturn, 1) := by decide +kernel
theorem dX6_addStep_75 : decode cX6_addStep 75 = .ok (.aload_n 0, 1) := by decide +kernel
theorem dX6_addStep_76 : decode cX6_addStep 76 = .ok (.getfield 16, 3) := by decide +kernel
theorem dX6_addStep_79 : decode cX6_addStep 79 = .ok (.aload_n 0, 1) := by decide +kernel
theorem dX6_addStep_80 : decode cX6_addStep 80 = .ok (.getfield 107, 3) := by decide +kernel
theorem dX6_addStep_83 : decode cX6_addStep 83 = .ok (.iload_n 1, 1) := by decide +kernel
theorem dX6_addStep_84 : decode cX6_addStep 84 = .ok (.iastore, 1) := by decide +kernel
theorem dX6_addStep_85 : decode cX6_addStep 85 = .ok (.aload_n 0, 1) := by decide +kernel
theorem dX6_addStep_86 : decode cX6_addStep 86 = .ok (.getfield 19, 3) := by decide +kernel
theorem dX6_addStep_89 : decode cX6_addStep 89 = .ok (.aload_n 0, 1) := by decide +kernel
theorem dX6_addStep_90 : decode cX6_addStep 90 = .ok (.getfield 107, 3) := by decide +kernel
theorem dX6_addStep_93 : decode cX6_addStep 93 = .ok (.iload_n 2, 1) := by decide +kernel
theorem dX6_addStep_94 : decode cX6_addStep 94 = .ok (.iastore, 1) := by decide +kernel
theorem dX6_addStep_95 : decode cX6_addStep 95 = .ok (.aload_n 0, 1) := by decide +kernel
theorem dX6_addStep_96 : decode cX6_addStep 96 = .ok (.getfield 22, 3) := by decide +kernel
theorem dX6_addStep_99 : decode cX6_addStep 99 = .ok (.aload_n 0, 1) := by decide +kernel
theorem dX6_addStep_100 : decode cX6_addStep 100 = .ok (.getfield 107, 3) := by decide +kernel
theorem dX6_addStep_103 : decode cX6_addStep 103 = .ok (.iload_n 3, 1) := by decide +kernel
theorem dX6_addStep_104 : decode cX6_addStep 104 = .ok (.iastore, 1) := by decide +kernel
theorem dX6_addStep_105 : decode cX6_addStep 105 = .ok (.aload_n 0, 1) := by decide +kernel
theorem dX6_addStep_106 : decode cX6_addStep 106 = .ok (.getfield 43, 3) := by decide +kernel
theorem dX6_addStep_109 : decode cX6_addStep 109 = .ok (.aload_n 0, 1) := by decide +kernel
theorem dX6_addStep_110 : decode cX6_addStep 110 = .ok (.getfield 107, 3) := by decide +kernel
theorem dX6_addStep_113 : decode cX6_addStep 113 = .ok (.iload 4, 2) := by decide +kernel
theorem dX6_addStep_115 : decode cX6_addStep 115 = .ok (.castore, 1) := by decide +kernel
theorem dX6_addStep_116 : decode cX6_addStep 116 = .ok (.aload_n 0, 1) := by decide +kernel
theorem dX6_addStep_117 : decode cX6_addStep 117 = .ok (.getfield 54, 3) := by decide +kernel
theorem dX6_addStep_120 : decode cX6_addStep 120 = .ok (.aload_n 0, 1) := by decide +kernel
theorem dX6_addStep_121 : decode cX6_addStep 121 = .ok (.getfield 107, 3) := by decide +kernel
theorem dX6_addStep_124 : decode cX6_addStep 124 = .ok (.iload 5, 2) := by decide +kernel
theorem dX6_addStep_126 : decode cX6_addStep 126 = .ok (.bastore, 1) := by decide +kernel
theorem dX6_addStep_127 : decode cX6_addStep 127 = .ok (.aload_n 0, 1) := by decide +kernel
theorem dX6_addStep_128 : decode cX6_addStep 128 = .ok (.getfield 28, 3) := by decide +kernel
theorem dX6_addStep_131 : decode cX6_addStep 131 = .ok (.aload_n 0, 1) := by decide +kernel
theorem dX6_addStep_132 : decode cX6_addStep 132 = .ok (.getfield 107, 3) := by decide +kernel
theorem dX6_addStep_135 : decode cX6_addStep 135 = .ok (.iconst (-1), 1) := by decide +kernel
theorem dX6_addStep_136 : decode cX6_addStep 136 = .ok (.iastore, 1) := by decide +kernel
theorem dX6_addStep_137 : decode cX6_addStep 137 = .ok (.aload_n 0, 1) := by decide +kernel
theorem dX6_addStep_138 : decode cX6_addStep 138 = .ok (.getfield 60, 3) := by decide +kernel
theorem dX6_addStep_141 : decode cX6_addStep 141 = .ok (.aload_n 0, 1) := by decide +kernel
theorem dX6_addStep_142 : decode cX6_addStep 142 = .ok (.getfield 107, 3) := by decide +kernel
theorem dX6_addStep_145 : decode cX6_addStep 145 = .ok (.bipush 111, 2) := by decide +kernel
theorem dX6_addStep_147 : decode cX6_addStep 147 = .ok (.castore, 1) := by decide +kernel
theorem dX6_addStep_148 : decode cX6_addStep 148 = .ok (.aload_n 0, 1) := by decide +kernel
theorem dX6_addStep_149 : decode cX6_addStep 149 = .ok (.dup, 1) := by decide +kernel
theorem dX6_addStep_150 : decode cX6_addStep 150 = .ok (.getfield 107, 3) := by decide +kernel
theorem dX6_addStep_153 : decode cX6_addStep 153 = .ok (.iconst 1, 1) := by decide +kernel
theorem dX6_addStep_154 : decode cX6_addStep 154 = .ok (.iadd, 1) := by decide +kernel
theorem dX6_addStep_155 : decode cX6_addStep 155 = .ok (.putfield 107, 3) := by decide +kernel
theorem dX6_addStep_158 : decode cX6_addStep 158 = .ok (.aload_n 0, 1) := by decide +kernel
theorem dX6_addStep_159 : decode cX6_addStep 159 = .ok (.getfield 107, 3) := by decide +kernel
theorem dX6_addStep_162 : decode cX6_addStep 162 = .ok (.iconst 1, 1) := by decide +kernel
theorem dX6_addStep_163 : decode cX6_addStep 163 = .ok (.isub, 1) := by decide +kernel
theorem dX6_addStep_164 : decode cX6_addStep 164 = .ok (.ireturn, 1) := by decide +kernel
theorem dX6_size_0 : decode cX6_size 0 = .ok (.iconst 0, 1) := by decide +kernel
theorem dX6_size_1 : decode cX6_size 1 = .ok (.istore_n 1, 1) := by decide +kernel
theorem dX6_size_2 : decode cX6_size 2 = .ok (.iconst 0, 1) := by decide +kernel
theorem dX6_size_3 : decode cX6_size 3 = .ok (.istore_n 2, 1) := by decide +kernel
theorem dX6_size_4 : decode cX6_size 4 = .ok (.iload_n 2, 1) := by decide +kernel
theorem dX6_size_5 : decode cX6_size 5 = .ok (.bipush 16, 2) := by decide +kernel
theorem dX6_size_7 : decode cX6_size 7 = .ok (.if_icmp .ge 25, 3) := by decide +kernel
theorem dX6_size_10 : decode cX6_size 10 = .ok (.iload_n 1, 1) := by decide +kernel
theorem dX6_size_11 : decode cX6_size 11 = .ok (.iload_n 0, 1) := by decide +kernel
theorem dX6_size_12 : decode cX6_size 12 = .ok (.iload_n 2, 1) := by decide +kernel
theorem dX6_size_13 : decode cX6_size 13 = .ok (.invokestatic 128, 3) := by decide +kernel
theorem dX6_size_16 : decode cX6_size 16 = .ok (.ifCond .eq 7, 3) := by decide +kernel
theorem dX6_size_19 : decode cX6_size 19 = .ok (.iconst 1, 1) := by decide +kernel
theorem dX6_size_20 : decode cX6_size 20 = .ok (.goto 4, 3) := by decide +kernel
theorem dX6_size_23 : decode cX6_size 23 = .ok (.iconst 0, 1) := by decide +kernel
theorem dX6_size_24 : decode cX6_size 24 = .ok (.iadd, 1) := by decide +kernel
theorem dX6_size_25 : decode cX6_size 25 = .ok (.istore_n 1, 1) := by decide +kernel
theorem dX6_size_26 : decode cX6_size 26 = .ok (.iinc 2 1, 3) := by decide +kernel
theorem dX6_size_29 : decode cX6_size 29 = .ok (.goto (-25), 3) := by decide +kernel
theorem dX6_size_32 : decode cX6_size 32 = .ok (.iload_n 1, 1) := by decide +kernel
theorem dX6_size_33 : decode cX6_size 33 = .ok (.ireturn, 1) := by decide +kernel
theorem dX6_need_0 : decode cX6_need 0 = .ok (.aload_n 0, 1) := by decide +kernel
theorem dX6_need_1 : decode cX6_need 1 = .ok (.iconst 0, 1) := by decide +kernel
theorem dX6_need_2 : decode cX6_need 2 = .ok (.putfield 97, 3) := by decide +kernel
theorem dX6_need_5 : decode cX6_need 5 = .ok (.aload_n 0, 1) := by decide +kernel
theorem dX6_need_6 : decode cX6_need 6 = .ok (.iload_n 1, 1) := by decide +kernel
theorem dX6_need_7 : decode cX6_need 7 = .ok (.invokevirtual 132, 3) := by decide +kernel
theorem dX6_need_10 : decode cX6_need 10 = .ok (.ifCond .eq 11, 3) := by decide +kernel
theorem dX6_need_13 : decode cX6_need 13 = .ok (.aload_n 0, 1) := by decide +kernel
theorem dX6_need_14 : decode cX6_need 14 = .ok (.iload_n 2, 1) := by decide +kernel
theorem dX6_need_15 : decode cX6_need 15 = .ok (.invokevirtual 132, 3) := by decide +kernel
theorem dX6_need_18 : decode cX6_need 18 = .ok (.ifCond .ne 9, 3) := by decide +kernel
theorem dX6_need_21 : decode cX6_need 21 = .ok (.aload_n 0, 1) := by decide +kernel
theorem dX6_need_22 : decode cX6_need 22 = .ok (.iconst 1, 1) := by decide +kernel
theorem dX6_need_23 : decode cX6_need 23 = .ok (.invokevirtual 110, 3) := by decide +kernel
theorem dX6_need_26 : decode cX6_need 26 = .ok (.ireturn, 1) := by decide +kernel
theorem dX6_need_27 : decode cX6_need 27 = .ok (.iload_n 2, 1) := by decide +kernel
theorem dX6_need_28 : decode cX6_need 28 = .ok (.iload_n 1, 1) := by decide +kernel
theorem dX6_need_29 : decode cX6_need 29 = .ok (.if_icmp .lt 9, 3) := by decide +kernel
theorem dX6_need_32 : decode cX6_need 32 = .ok (.aload_n 0, 1) := by decide +kernel
theorem dX6_need_33 : decode cX6_need 33 = .ok (.iconst 2, 1) := by decide +kernel
theorem dX6_need_34 : decode cX6_need 34 = .ok (.invokevirtual 110, 3) := by decide +kernel
theorem dX6_need_37 : decode cX6_need 37 = .ok (.ireturn, 1) := by decide +kernel
theorem dX6_need_38 : decode cX6_need 38 = .ok (.aload_n 0, 1) := by decide +kernel
theorem dX6_need_39 : decode cX6_need 39 = .ok (.getfield 124, 3) := by decide +kernel
theorem dX6_need_42 : decode cX6_need 42 = .ok (.ifCond .ne 16, 3) := by decide +kernel
theorem dX6_need_45 : decode cX6_need 45 = .ok (.aload_n 0, 1) := by decide +kernel
theorem dX6_need_46 : decode cX6_need 46 = .ok (.getfield 25, 3) := by decide +kernel
theorem dX6_need_49 : decode cX6_need 49 = .ok (.iload_n 1, 1) := by decide +kernel
theorem dX6_need_50 : decode cX6_need 50 = .ok (.iaload, 1) := by decide +kernel
theorem dX6_need_51 : decode cX6_need 51 = .ok (.iload_n 2, 1) := by decide +kernel
theorem dX6_need_52 : decode cX6_need 52 = .ok (.invokestatic 128, 3) := by decide +kernel
theorem dX6_need_55 : decode cX6_need 55 = .ok (.ifCond .eq 9, 3) := by decide +kernel
theorem dX6_need_58 : decode cX6_need 58 = .ok (.aload_n 0, 1) := by decide +kernel
theorem dX6_need_59 : decode cX6_need 59 = .ok (.iconst 3, 1) := by decide +kernel
theorem dX6_need_60 : decode cX6_need 60 = .ok (.invokevirtual 110, 3) := by decide +kernel
theorem dX6_need_63 : decode cX6_need 63 = .ok (.ireturn, 1) := by decide +kernel
theorem dX6_need_64 : decode cX6_need 64 = .ok (.aload_n 0, 1) := by decide +kernel
theorem dX6_need_65 : decode cX6_need 65 = .ok (.getfield 25, 3) := by decide +kernel
theorem dX6_need_68 : decode cX6_need 68 = .ok (.iload_n 1, 1) := by decide +kernel
theorem dX6_need_69 : decode cX6_need 69 = .ok (.dup2, 1) := by decide +kernel
theorem dX6_need_70 : decode cX6_need 70 = .ok (.iaload, 1) := by decide +kernel
theorem dX6_need_71 : decode cX6_need 71 = .ok (.iconst 1, 1) := by decide +kernel
theorem dX6_need_72 : decode cX6_need 72 = .ok (.iload_n 2, 1) := by decide +kernel
theorem dX6_need_73 : decode cX6_need 73 = .ok (.ishl, 1) := by decide +kernel
theorem dX6_need_74 : decode cX6_need 74 = .ok (.ior, 1) := by decide +kernel
theorem dX6_need_75 : decode cX6_need 75 = .ok (.iastore, 1) := by decide +kernel
theorem dX6_need_76 : decode cX6_need 76 = .ok (.aload_n 0, 1) := by decide +kernel
theorem dX6_need_77 : decode cX6_need 77 = .ok (.getfield 25, 3) := by decide +kernel
theorem dX6_need_80 : decode cX6_need 80 = .ok (.iload_n 1, 1) := by decide +kernel
theorem dX6_need_81 : decode cX6_need 81 = .ok (.iaload, 1) := by decide +kernel
theorem dX6_need_82 : decode cX6_need 82 = .ok (.invokestatic 135, 3) := by decide +kernel
theorem dX6_need_85 : decode cX6_need 85 = .ok (.ireturn, 1) := by decide +kernel
theorem dX6_condition_0 : decode cX6_condition 0 = .ok (.aload_n 0, 1) := by decide +kernel
theorem dX6_condition_1 : decode cX6_condition 1 = .ok (.iconst 0, 1) := by decide +kernel
theorem dX6_condition_2 : decode cX6_condition 2 = .ok (.putfield 97, 3) := by decide +kernel
theorem dX6_condition_5 : decode cX6_condition 5 = .ok (.aload_n 0, 1) := by decide +kernel
theorem dX6_condition_6 : decode cX6_condition 6 = .ok (.iload_n 1, 1) := by decide +kernel
theorem dX6_condition_7 : decode cX6_condition 7 = .ok (.invokevirtual 132, 3) := by decide +kernel
theorem dX6_condition_10 : decode cX6_condition 10 = .ok (.ifCond .ne 9, 3) := by decide +kernel
theorem dX6_condition_13 : decode cX6_condition 13 = .ok (.aload_n 0, 1) := by decide +kernel
theorem dX6_condition_14 : decode cX6_condition 14 = .ok (.iconst 1, 1) := by decide +kernel
theorem dX6_condition_15 : decode cX6_condition 15 = .ok (.invokevirtual 110, 3) := by decide +kernel
theorem dX6_condition_18 : decode cX6_condition 18 = .ok (.ireturn, 1) := by decide +kernel
theorem dX6_condition_19 : decode cX6_condition 19 = .ok (.iload_n 2, 1) := by decide +kernel
theorem dX6_condition_20 : decode cX6_condition 20 = .ok (.iconst 0, 1) := by decide +kernel
theorem dX6_condition_21 : decode cX6_condition 21 = .ok (.iconst 5, 1) := by decide +kernel
theorem dX6_condition_22 : decode cX6_condition 22 = .ok (.invokestatic 103, 3) := by decide +kernel
theorem dX6_condition_25 : decode cX6_condition 25 = .ok (.ifCond .eq 35, 3) := by decide +kernel
theorem dX6_condition_28 : decode cX6_condition 28 = .ok (.iload_n 3, 1) := by decide +kernel
theorem dX6_condition_29 : decode cX6_condition 29 = .ok (.bipush 60, 2) := by decide +kernel
theorem dX6_condition_31 : decode cX6_condition 31 = .ok (.if_icmp .eq 15, 3) := by decide +kernel
theorem dX6_condition_34 : decode cX6_condition 34 = .ok (.iload_n 3, 1) := by decide +kernel
theorem dX6_condition_35 : decode cX6_condition 35 = .ok (.bipush 62, 2) := by decide +kernel
theorem dX6_condition_37 : decode cX6_condition 37 = .ok (.if_icmp .eq 9, 3) := by decide +kernel
theorem dX6_condition_40 : decode cX6_condition 40 = .ok (.iload_n 3, 1) := by decide +kernel
theorem dX6_condition_41 : decode cX6_condition 41 = .ok (.bipush 61, 2) := by decide +kernel
theorem dX6_condition_43 : decode cX6_condition 43 = .ok (.if_icmp .ne 17, 3) := by decide +kernel
theorem dX6_condition_46 : decode cX6_condition 46 = .ok (.iload 4, 2) := by decide +kernel
theorem dX6_condition_48 : decode cX6_condition 48 = .ok (.sipush (-999), 3) := by decide +kernel
theorem dX6_condition_51 : decode cX6_condition 51 = .ok (.sipush 999, 3) := by decide +kernel
theorem dX6_condition_54 : decode cX6_condition 54 = .ok (.invokestatic 103, 3) := by decide +kernel
theorem dX6_condition_57 : decode cX6_condition 57 = .ok (.ifCond .ne 9, 3) := by decide +kernel
theorem dX6_condition_60 : decode cX6_condition 60 = .ok (.aload_n 0, 1) := by decide +kernel
theorem dX6_condition_61 : decode cX6_condition 61 = .ok (.iconst 2, 1) := by decide +kernel
theorem dX6_condition_62 : decode cX6_condition 62 = .ok (.invokevirtual 110, 3) := by decide +kernel
theorem dX6_condition_65 : decode cX6_condition 65 = .ok (.ireturn, 1) := by decide +kernel
theorem dX6_condition_66 : decode cX6_condition 66 = .ok (.aload_n 0, 1) := by decide +kernel
theorem dX6_condition_67 : decode cX6_condition 67 = .ok (.getfield 124, 3) := by decide +kernel
theorem dX6_condition_70 : decode cX6_condition 70 = .ok (.ifCond .ne 13, 3) := by decide +kernel
theorem dX6_condition_73 : decode cX6_condition 73 = .ok (.aload_n 0, 1) := by decide +kernel
theorem dX6_condition_74 : decode cX6_condition 74 = .ok (.getfield 31, 3) := by decide +kernel
theorem dX6_condition_77 : decode cX6_condition 77 = .ok (.iload_n 1, 1) := by decide +kernel
theorem dX6_condition_78 : decode cX6_condition 78 = .ok (.iaload, 1) := by decide +kernel
theorem dX6_condition_79 : decode cX6_condition 79 = .ok (.iconst 2, 1) := by decide +kernel
theorem dX6_condition_80 : decode cX6_condition 80 = .ok (.if_icmp .ne 9, 3) := by decide +kernel
theorem dX6_condition_83 : decode cX6_condition 83 = .ok (.aload_n 0, 1) := by decide +kernel
theorem dX6_condition_84 : decode cX6_condition 84 = .ok (.iconst 3, 1) := by decide +kernel
theorem dX6_condition_85 : decode cX6_condition 85 = .ok (.invokevirtual 110, 3) := by decide +kernel
theorem dX6_condition_88 : decode cX6_condition 88 = .ok (.ireturn, 1) := by decide +kernel
theorem dX6_condition_89 : decode cX6_condition 89 = .ok (.iconst 2, 1) := by decide +kernel
theorem dX6_condition_90 : decode cX6_condition 90 = .ok (.iload_n 1, 1) := by decide +kernel
theorem dX6_condition_91 : decode cX6_condition 91 = .ok (.imul, 1) := by decide +kernel
theorem dX6_condition_92 : decode cX6_condition 92 = .ok (.aload_n 0, 1) := by decide +kernel
theorem dX6_condition_93 : decode cX6_condition 93 = .ok (.getfield 31, 3) := by decide +kernel
theorem dX6_condition_96 : decode cX6_condition 96 = .ok (.iload_n 1, 1) := by decide +kernel
theorem dX6_condition_97 : decode cX6_condition 97 = .ok (.iaload, 1) := by decide +kernel
theorem dX6_condition_98 : decode cX6_condition 98 = .ok (.iadd, 1) := by decide +kernel
theorem dX6_condition_99 : decode cX6_condition 99 = .ok (.istore 5, 2) := by decide +kernel
theorem dX6_condition_101 : decode cX6_condition 101 = .ok (.aload_n 0, 1) := by decide +kernel
theorem dX6_condition_102 : decode cX6_condition 102 = .ok (.getfield 34, 3) := by decide +kernel
theorem dX6_condition_105 : decode cX6_condition 105 = .ok (.iload 5, 2) := by decide +kernel
theorem dX6_condition_107 : decode cX6_condition 107 = .ok (.iload_n 2, 1) := by decide +kernel
theorem dX6_condition_108 : decode cX6_condition 108 = .ok (.iastore, 1) := by decide +kernel
theorem dX6_condition_109 : decode cX6_condition 109 = .ok (.aload_n 0, 1) := by decide +kernel
theorem dX6_condition_110 : decode cX6_condition 110 = .ok (.getfield 47, 3) := by decide +kernel
theorem dX6_condition_113 : decode cX6_condition 113 = .ok (.iload 5, 2) := by decide +kernel
theorem dX6_condition_115 : decode cX6_condition 115 = .ok (.iload_n 3, 1) := by decide +kernel
theorem dX6_condition_116 : decode cX6_condition 116 = .ok (.castore, 1) := by decide +kernel
theorem dX6_condition_117 : decode cX6_condition 117 = .ok (.aload_n 0, 1) := by decide +kernel
theorem dX6_condition_118 : decode cX6_condition 118 = .ok (.getfield 37, 3) := by decide +kernel
theorem dX6_condition_121 : decode cX6_condition 121 = .ok (.iload 5, 2) := by decide +kernel
theorem dX6_condition_123 : decode cX6_condition 123 = .ok (.iload 4, 2) := by decide +kernel
theorem dX6_condition_125 : decode cX6_condition 125 = .ok (.iastore, 1) := by decide +kernel
theorem dX6_condition_126 : decode cX6_condition 126 = .ok (.aload_n 0, 1) := by decide +kernel
theorem dX6_condition_127 : decode cX6_condition 127 = .ok (.getfield 31, 3) := by decide +kernel
theorem dX6_condition_130 : decode cX6_condition 130 = .ok (.iload_n 1, 1) := by decide +kernel
theorem dX6_condition_131 : decode cX6_condition 131 = .ok (.dup2, 1) := by decide +kernel
theorem dX6_condition_132 : decode cX6_condition 132 = .ok (.iaload, 1) := by decide +kernel
theorem dX6_condition_133 : decode cX6_condition 133 = .ok (.iconst 1, 1) := by decide +kernel
theorem dX6_condition_134 : decode cX6_condition 134 = .ok (.iadd, 1) := by decide +kernel
theorem dX6_condition_135 : decode cX6_condition 135 = .ok (.iastore, 1) := by decide +kernel
theorem dX6_condition_136 : decode cX6_condition 136 = .ok (.aload_n 0, 1) := by decide +kernel
theorem dX6_condition_137 : decode cX6_condition 137 = .ok (.getfield 31, 3) := by decide +kernel
theorem dX6_condition_140 : decode cX6_condition 140 = .ok (.iload_n 1, 1) := by decide +kernel
theorem dX6_condition_141 : decode cX6_condition 141 = .ok (.iaload, 1) := by decide +kernel
theorem dX6_condition_142 : decode cX6_condition 142 = .ok (.ireturn, 1) := by decide +kernel
theorem dX6_isFallback_0 : decode cX6_isFallback 0 = .ok (.iconst 0, 1) := by decide +kernel
theorem dX6_isFallback_1 : decode cX6_isFallback 1 = .ok (.istore_n 2, 1) := by decide +kernel
theorem dX6_isFallback_2 : decode cX6_isFallback 2 = .ok (.iload_n 2, 1) := by decide +kernel
theorem dX6_isFallback_3 : decode cX6_isFallback 3 = .ok (.aload_n 0, 1) := by decide +kernel
theorem dX6_isFallback_4 : decode cX6_isFallback 4 = .ok (.getfield 107, 3) := by decide +kernel
theorem dX6_isFallback_7 : decode cX6_isFallback 7 = .ok (.if_icmp .ge 21, 3) := by decide +kernel
theorem dX6_isFallback_10 : decode cX6_isFallback 10 = .ok (.aload_n 0, 1) := by decide +kernel
theorem dX6_isFallback_11 : decode cX6_isFallback 11 = .ok (.getfield 28, 3) := by decide +kernel
theorem dX6_isFallback_14 : decode cX6_isFallback 14 = .ok (.iload_n 2, 1) := by decide +kernel
theorem dX6_isFallback_15 : decode cX6_isFallback 15 = .ok (.iaload, 1) := by decide +kernel
theorem dX6_isFallback_16 : decode cX6_isFallback 16 = .ok (.iload_n 1, 1) := by decide +kernel
theorem dX6_isFallback_17 : decode cX6_isFallback 17 = .ok (.if_icmp .ne 5, 3) := by decide +kernel
theorem dX6_isFallback_20 : decode cX6_isFallback 20 = .ok (.iconst 1, 1) := by decide +kernel
theorem dX6_isFallback_21 : decode cX6_isFallback 21 = .ok (.ireturn, 1) := by decide +kernel
theorem dX6_isFallback_22 : decode cX6_isFallback 22 = .ok (.iinc 2 1, 3) := by decide +kernel
theorem dX6_isFallback_25 : decode cX6_isFallback 25 = .ok (.goto (-23), 3) := by decide +kernel
theorem dX6_isFallback_28 : decode cX6_isFallback 28 = .ok (.iconst 0, 1) := by decide +kernel
theorem dX6_isFallback_29 : decode cX6_isFallback 29 = .ok (.ireturn, 1) := by decide +kernel
theorem dX6_setFallback_0 : decode cX6_setFallback 0 = .ok (.aload_n 0, 1) := by decide +kernel
theorem dX6_setFallback_1 : decode cX6_setFallback 1 = .ok (.iconst 0, 1) := by decide +kernel
theorem dX6_setFallback_2 : decode cX6_setFallback 2 = .ok (.putfield 97, 3) := by decide +kernel
theorem dX6_setFallback_5 : decode cX6_setFallback 5 = .ok (.aload_n 0, 1) := by decide +kernel
theorem dX6_setFallback_6 : decode cX6_setFallback 6 = .ok (.iload_n 1, 1) := by decide +kernel
theorem dX6_setFallback_7 : decode cX6_setFallback 7 = .ok (.invokevirtual 132, 3) := by decide +kernel
theorem dX6_setFallback_10 : decode cX6_setFallback 10 = .ok (.ifCond .eq 11, 3) := by decide +kernel
theorem dX6_setFallback_13 : decode cX6_setFallback 13 = .ok (.aload_n 0, 1) := by decide +kernel
theorem dX6_setFallback_14 : decode cX6_setFallback 14 = .ok (.iload_n 2, 1) := by decide +kernel
theorem dX6_setFallback_15 : decode cX6_setFallback 15 = .ok (.invokevirtual 132, 3) := by decide +kernel
theorem dX6_setFallback_18 : decode cX6_setFallback 18 = .ok (.ifCond .ne 9, 3) := by decide +kernel
theorem dX6_setFallback_21 : decode cX6_setFallback 21 = .ok (.aload_n 0, 1) := by decide +kernel
theorem dX6_setFallback_22 : decode cX6_setFallback 22 = .ok (.iconst 1, 1) := by decide +kernel
theorem dX6_setFallback_23 : decode cX6_setFallback 23 = .ok (.invokevirtual 110, 3) := by decide +kernel
theorem dX6_setFallback_26 : decode cX6_setFallback 26 = .ok (.ireturn, 1) := by decide +kernel
theorem dX6_setFallback_27 : decode cX6_setFallback 27 = .ok (.iload_n 2, 1) := by decide +kernel
theorem dX6_setFallback_28 : decode cX6_setFallback 28 = .ok (.iload_n 1, 1) := by decide +kernel
theorem dX6_setFallback_29 : decode cX6_setFallback 29 = .ok (.if_icmp .le 21, 3) := by decide +kernel
theorem dX6_setFallback_32 : decode cX6_setFallback 32 = .ok (.aload_n 0, 1) := by decide +kernel
theorem dX6_setFallback_33 : decode cX6_setFallback 33 = .ok (.getfield 28, 3) := by decide +kernel
theorem dX6_setFallback_36 : decode cX6_setFallback 36 = .ok (.iload_n 1, 1) := by decide +kernel
theorem dX6_setFallback_37 : decode cX6_setFallback 37 = .ok (.iaload, 1) := by decide +kernel
theorem dX6_setFallback_38 : decode cX6_setFallback 38 = .ok (.iload_n 2, 1) := by decide +kernel
theorem dX6_setFallback_39 : decode cX6_setFallback 39 = .ok (.if_icmp .eq 17, 3) := by decide +kernel
theorem dX6_setFallback_42 : decode cX6_setFallback 42 = .ok (.aload_n 0, 1) := by decide +kernel
theorem dX6_setFallback_43 : decode cX6_setFallback 43 = .ok (.iload_n 2, 1) := by decide +kernel
theorem dX6_setFallback_44 : decode cX6_setFallback 44 = .ok (.invokevirtual 138, 3) := by decide +kernel
theorem dX6_setFallback_47 : decode cX6_setFallback 47 = .ok (.ifCond .eq 9, 3) := by decide +kernel
theorem dX6_setFallback_50 : decode cX6_setFallback 50 = .ok (.aload_n 0, 1) := by decide +kernel
theorem dX6_setFallback_51 : decode cX6_setFallback 51 = .ok (.iconst 2, 1) := by decide +kernel
theorem dX6_setFallback_52 : decode cX6_setFallback 52 = .ok (.invokevirtual 110, 3) := by decide +kernel
theorem dX6_setFallback_55 : decode cX6_setFallback 55 = .ok (.ireturn, 1) := by decide +kernel
theorem dX6_setFallback_56 : decode cX6_setFallback 56 = .ok (.aload_n 0, 1) := by decide +kernel
theorem dX6_setFallback_57 : decode cX6_setFallback 57 = .ok (.getfield 124, 3) := by decide +kernel
theorem dX6_setFallback_60 : decode cX6_setFallback 60 = .ok (.ifCond .eq 9, 3) := by decide +kernel
theorem dX6_setFallback_63 : decode cX6_setFallback 63 = .ok (.aload_n 0, 1) := by decide +kernel
theorem dX6_setFallback_64 : decode cX6_setFallback 64 = .ok (.iconst 3, 1) := by decide +kernel
theorem dX6_setFallback_65 : decode cX6_setFallback 65 = .ok (.invokevirtual 110, 3) := by decide +kernel
theorem dX6_setFallback_68 : decode cX6_setFallback 68 = .ok (.ireturn, 1) := by decide +kernel
theorem dX6_setFallback_69 : decode cX6_setFallback 69 = .ok (.aload_n 0, 1) := by decide +kernel
theorem dX6_setFallback_70 : decode cX6_setFallback 70 = .ok (.getfield 28, 3) := by decide +kernel
theorem dX6_setFallback_73 : decode cX6_setFallback 73 = .ok (.iload_n 1, 1) := by decide +kernel
theorem dX6_setFallback_74 : decode cX6_setFallback 74 = .ok (.iaload, 1) := by decide +kernel
theorem dX6_setFallback_75 : decode cX6_setFallback 75 = .ok (.istore_n 3, 1) := by decide +kernel
theorem dX6_setFallback_76 : decode cX6_setFallback 76 = .ok (.aload_n 0, 1) := by decide +kernel
theorem dX6_setFallback_77 : decode cX6_setFallback 77 = .ok (.getfield 28, 3) := by decide +kernel
theorem dX6_setFallback_80 : decode cX6_setFallback 80 = .ok (.iload_n 1, 1) := by decide +kernel
theorem dX6_setFallback_81 : decode cX6_setFallback 81 = .ok (.iload_n 2, 1) := by decide +kernel
theorem dX6_setFallback_82 : decode cX6_setFallback 82 = .ok (.iastore, 1) := by decide +kernel
theorem dX6_setFallback_83 : decode cX6_setFallback 83 = .ok (.iload_n 3, 1) := by decide +kernel
theorem dX6_setFallback_84 : decode cX6_setFallback 84 = .ok (.ireturn, 1) := by decide +kernel
theorem dX6_isSensor_0 : decode cX6_isSensor 0 = .ok (.iload_n 0, 1) := by decide +kernel
theorem dX6_isSensor_1 : decode cX6_isSensor 1 = .ok (.iconst 0, 1) := by decide +kernel
theorem dX6_isSensor_2 : decode cX6_isSensor 2 = .ok (.iconst 5, 1) := by decide +kernel
theorem dX6_isSensor_3 : decode cX6_isSensor 3 = .ok (.invokestatic 103, 3) := by decide +kernel
theorem dX6_isSensor_6 : decode cX6_isSensor 6 = .ok (.ireturn, 1) := by decide +kernel
theorem dX6_setReading_0 : decode cX6_setReading 0 = .ok (.aload_n 0, 1) := by decide +kernel
theorem dX6_setReading_1 : decode cX6_setReading 1 = .ok (.iconst 0, 1) := by decide +kernel
theorem dX6_setReading_2 : decode cX6_setReading 2 = .ok (.putfield 97, 3) := by decide +kernel
theorem dX6_setReading_5 : decode cX6_setReading 5 = .ok (.iload_n 1, 1) := by decide +kernel
theorem dX6_setReading_6 : decode cX6_setReading 6 = .ok (.invokestatic 141, 3) := by decide +kernel
theorem dX6_setReading_9 : decode cX6_setReading 9 = .ok (.ifCond .eq 16, 3) := by decide +kernel
theorem dX6_setReading_12 : decode cX6_setReading 12 = .ok (.iload_n 2, 1) := by decide +kernel
theorem dX6_setReading_13 : decode cX6_setReading 13 = .ok (.sipush (-999), 3) := by decide +kernel
theorem dX6_setReading_16 : decode cX6_setReading 16 = .ok (.sipush 999, 3) := by decide +kernel
theorem dX6_setReading_19 : decode cX6_setReading 19 = .ok (.invokestatic 103, 3) := by decide +kernel
theorem dX6_setReading_22 : decode cX6_setReading 22 = .ok (.ifCond .ne 9, 3) := by decide +kernel
theorem dX6_setReading_25 : decode cX6_setReading 25 = .ok (.aload_n 0, 1) := by decide +kernel
theorem dX6_setReading_26 : decode cX6_setReading 26 = .ok (.iconst 1, 1) := by decide +kernel
theorem dX6_setReading_27 : decode cX6_setReading 27 = .ok (.invokevirtual 110, 3) := by decide +kernel
theorem dX6_setReading_30 : decode cX6_setReading 30 = .ok (.ireturn, 1) := by decide +kernel
theorem dX6_setReading_31 : decode cX6_setReading 31 = .ok (.aload_n 0, 1) := by decide +kernel
theorem dX6_setReading_32 : decode cX6_setReading 32 = .ok (.getfield 13, 3) := by decide +kernel
theorem dX6_setReading_35 : decode cX6_setReading 35 = .ok (.iload_n 1, 1) := by decide +kernel
theorem dX6_setReading_36 : decode cX6_setReading 36 = .ok (.iaload, 1) := by decide +kernel
theorem dX6_setReading_37 : decode cX6_setReading 37 = .ok (.istore_n 3, 1) := by decide +kernel
theorem dX6_setReading_38 : decode cX6_setReading 38 = .ok (.aload_n 0, 1) := by decide +kernel
theorem dX6_setReading_39 : decode cX6_setReading 39 = .ok (.getfield 13, 3) := by decide +kernel
theorem dX6_setReading_42 : decode cX6_setReading 42 = .ok (.iload_n 1, 1) := by decide +kernel
theorem dX6_setReading_43 : decode cX6_setReading 43 = .ok (.iload_n 2, 1) := by decide +kernel
theorem dX6_setReading_44 : decode cX6_setReading 44 = .ok (.iastore, 1) := by decide +kernel
theorem dX6_setReading_45 : decode cX6_setReading 45 = .ok (.iload_n 3, 1) := by decide +kernel
theorem dX6_setReading_46 : decode cX6_setReading 46 = .ok (.ireturn, 1) := by decide +kernel
theorem dX6_logs_0 : decode cX6_logs 0 = .ok (.aload_n 0, 1) := by decide +kernel
theorem dX6_logs_1 : decode cX6_logs 1 = .ok (.getfield 82, 3) := by decide +kernel
theorem dX6_logs_4 : decode cX6_logs 4 = .ok (.aload_n 0, 1) := by decide +kernel
theorem dX6_logs_5 : decode cX6_logs 5 = .ok (.getfield 144, 3) := by decide +kernel
theorem dX6_logs_8 : decode cX6_logs 8 = .ok (.iload_n 1, 1) := by decide +kernel
theorem dX6_logs_9 : decode cX6_logs 9 = .ok (.castore, 1) := by decide +kernel
theorem dX6_logs_10 : decode cX6_logs 10 = .ok (.aload_n 0, 1) := by decide +kernel
theorem dX6_logs_11 : decode cX6_logs 11 = .ok (.getfield 85, 3) := by decide +kernel
theorem dX6_logs_14 : decode cX6_logs 14 = .ok (.aload_n 0, 1) := by decide +kernel
theorem dX6_logs_15 : decode cX6_logs 15 = .ok (.getfield 144, 3) := by decide +kernel
theorem dX6_logs_18 : decode cX6_logs 18 = .ok (.iload_n 2, 1) := by decide +kernel
theorem dX6_logs_19 : decode cX6_logs 19 = .ok (.iastore, 1) := by decide +kernel
theorem dX6_logs_20 : decode cX6_logs 20 = .ok (.aload_n 0, 1) := by decide +kernel
theorem dX6_logs_21 : decode cX6_logs 21 = .ok (.getfield 88, 3) := by decide +kernel
theorem dX6_logs_24 : decode cX6_logs 24 = .ok (.aload_n 0, 1) := by decide +kernel
theorem dX6_logs_25 : decode cX6_logs 25 = .ok (.getfield 144, 3) := by decide +kernel
theorem dX6_logs_28 : decode cX6_logs 28 = .ok (.iload_n 3, 1) := by decide +kernel
theorem dX6_logs_29 : decode cX6_logs 29 = .ok (.iastore, 1) := by decide +kernel
theorem dX6_logs_30 : decode cX6_logs 30 = .ok (.aload_n 0, 1) := by decide +kernel
theorem dX6_logs_31 : decode cX6_logs 31 = .ok (.getfield 91, 3) := by decide +kernel
theorem dX6_logs_34 : decode cX6_logs 34 = .ok (.aload_n 0, 1) := by decide +kernel
theorem dX6_logs_35 : decode cX6_logs 35 = .ok (.getfield 144, 3) := by decide +kernel
theorem dX6_logs_38 : decode cX6_logs 38 = .ok (.aload_n 0, 1) := by decide +kernel
theorem dX6_logs_39 : decode cX6_logs 39 = .ok (.getfield 147, 3) := by decide +kernel
theorem dX6_logs_42 : decode cX6_logs 42 = .ok (.iastore, 1) := by decide +kernel
theorem dX6_logs_43 : decode cX6_logs 43 = .ok (.aload_n 0, 1) := by decide +kernel
theorem dX6_logs_44 : decode cX6_logs 44 = .ok (.dup, 1) := by decide +kernel
theorem dX6_logs_45 : decode cX6_logs 45 = .ok (.getfield 144, 3) := by decide +kernel
theorem dX6_logs_48 : decode cX6_logs 48 = .ok (.iconst 1, 1) := by decide +kernel
theorem dX6_logs_49 : decode cX6_logs 49 = .ok (.iadd, 1) := by decide +kernel
theorem dX6_logs_50 : decode cX6_logs 50 = .ok (.putfield 144, 3) := by decide +kernel
theorem dX6_logs_53 : decode cX6_logs 53 = .ok (.return_, 1) := by decide +kernel
theorem dX6_isMet_0 : decode cX6_isMet 0 = .ok (.aload_n 0, 1) := by decide +kernel
theorem dX6_isMet_1 : decode cX6_isMet 1 = .ok (.getfield 13, 3) := by decide +kernel
theorem dX6_isMet_4 : decode cX6_isMet 4 = .ok (.aload_n 0, 1) := by decide +kernel
theorem dX6_isMet_5 : decode cX6_isMet 5 = .ok (.getfield 34, 3) := by decide +kernel
theorem dX6_isMet_8 : decode cX6_isMet 8 = .ok (.iload_n 1, 1) := by decide +kernel
theorem dX6_isMet_9 : decode cX6_isMet 9 = .ok (.iaload, 1) := by decide +kernel
theorem dX6_isMet_10 : decode cX6_isMet 10 = .ok (.iaload, 1) := by decide +kernel
theorem dX6_isMet_11 : decode cX6_isMet 11 = .ok (.istore_n 2, 1) := by decide +kernel
theorem dX6_isMet_12 : decode cX6_isMet 12 = .ok (.aload_n 0, 1) := by decide +kernel
theorem dX6_isMet_13 : decode cX6_isMet 13 = .ok (.getfield 47, 3) := by decide +kernel
theorem dX6_isMet_16 : decode cX6_isMet 16 = .ok (.iload_n 1, 1) := by decide +kernel
theorem dX6_isMet_17 : decode cX6_isMet 17 = .ok (.caload, 1) := by decide +kernel
theorem dX6_isMet_18 : decode cX6_isMet 18 = .ok (.bipush 60, 2) := by decide +kernel
theorem dX6_isMet_20 : decode cX6_isMet 20 = .ok (.if_icmp .ne 21, 3) := by decide +kernel
theorem dX6_isMet_23 : decode cX6_isMet 23 = .ok (.iload_n 2, 1) := by decide +kernel
theorem dX6_isMet_24 : decode cX6_isMet 24 = .ok (.aload_n 0, 1) := by decide +kernel
theorem dX6_isMet_25 : decode cX6_isMet 25 = .ok (.getfield 37, 3) := by decide +kernel
theorem dX6_isMet_28 : decode cX6_isMet 28 = .ok (.iload_n 1, 1) := by decide +kernel
theorem dX6_isMet_29 : decode cX6_isMet 29 = .ok (.iaload, 1) := by decide +kernel
theorem dX6_isMet_30 : decode cX6_isMet 30 = .ok (.if_icmp .ge 7, 3) := by decide +kernel
theorem dX6_isMet_33 : decode cX6_isMet 33 = .ok (.iconst 1, 1) := by decide +kernel
theorem dX6_isMet_34 : decode cX6_isMet 34 = .ok (.goto 51, 3) := by decide +kernel
theorem dX6_isMet_37 : decode cX6_isMet 37 = .ok (.iconst 0, 1) := by decide +kernel
theorem dX6_isMet_38 : decode cX6_isMet 38 = .ok (.goto 47, 3) := by decide +kernel
theorem dX6_isMet_41 : decode cX6_isMet 41 = .ok (.aload_n 0, 1) := by decide +kernel
theorem dX6_isMet_42 : decode cX6_isMet 42 = .ok (.getfield 47, 3) := by decide +kernel
theorem dX6_isMet_45 : decode cX6_isMet 45 = .ok (.iload_n 1, 1) := by decide +kernel
theorem dX6_isMet_46 : decode cX6_isMet 46 = .ok (.caload, 1) := by decide +kernel
theorem dX6_isMet_47 : decode cX6_isMet 47 = .ok (.bipush 62, 2) := by decide +kernel
theorem dX6_isMet_49 : decode cX6_isMet 49 = .ok (.if_icmp .ne 21, 3) := by decide +kernel
theorem dX6_isMet_52 : decode cX6_isMet 52 = .ok (.iload_n 2, 1) := by decide +kernel
theorem dX6_isMet_53 : decode cX6_isMet 53 = .ok (.aload_n 0, 1) := by decide +kernel
theorem dX6_isMet_54 : decode cX6_isMet 54 = .ok (.getfield 37, 3) := by decide +kernel
theorem dX6_isMet_57 : decode cX6_isMet 57 = .ok (.iload_n 1, 1) := by decide +kernel
theorem dX6_isMet_58 : decode cX6_isMet 58 = .ok (.iaload, 1) := by decide +kernel
theorem dX6_isMet_59 : decode cX6_isMet 59 = .ok (.if_icmp .le 7, 3) := by decide +kernel
theorem dX6_isMet_62 : decode cX6_isMet 62 = .ok (.iconst 1, 1) := by decide +kernel
theorem dX6_isMet_63 : decode cX6_isMet 63 = .ok (.goto 22, 3) := by decide +kernel
theorem dX6_isMet_66 : decode cX6_isMet 66 = .ok (.iconst 0, 1) := by decide +kernel
theorem dX6_isMet_67 : decode cX6_isMet 67 = .ok (.goto 18, 3) := by decide +kernel
theorem dX6_isMet_70 : decode cX6_isMet 70 = .ok (.iload_n 2, 1) := by decide +kernel
theorem dX6_isMet_71 : decode cX6_isMet 71 = .ok (.aload_n 0, 1) := by decide +kernel
theorem dX6_isMet_72 : decode cX6_isMet 72 = .ok (.getfield 37, 3) := by decide +kernel
theorem dX6_isMet_75 : decode cX6_isMet 75 = .ok (.iload_n 1, 1) := by decide +kernel
theorem dX6_isMet_76 : decode cX6_isMet 76 = .ok (.iaload, 1) := by decide +kernel
theorem dX6_isMet_77 : decode cX6_isMet 77 = .ok (.if_icmp .ne 7, 3) := by decide +kernel
theorem dX6_isMet_80 : decode cX6_isMet 80 = .ok (.iconst 1, 1) := by decide +kernel
theorem dX6_isMet_81 : decode cX6_isMet 81 = .ok (.goto 4, 3) := by decide +kernel
theorem dX6_isMet_84 : decode cX6_isMet 84 = .ok (.iconst 0, 1) := by decide +kernel
theorem dX6_isMet_85 : decode cX6_isMet 85 = .ok (.ireturn, 1) := by decide +kernel
theorem dX6_isGuarded_0 : decode cX6_isGuarded 0 = .ok (.iconst 0, 1) := by decide +kernel
theorem dX6_isGuarded_1 : decode cX6_isGuarded 1 = .ok (.istore_n 2, 1) := by decide +kernel
theorem dX6_isGuarded_2 : decode cX6_isGuarded 2 = .ok (.iload_n 2, 1) := by decide +kernel
theorem dX6_isGuarded_3 : decode cX6_isGuarded 3 = .ok (.aload_n 0, 1) := by decide +kernel
theorem dX6_isGuarded_4 : decode cX6_isGuarded 4 = .ok (.getfield 31, 3) := by decide +kernel
theorem dX6_isGuarded_7 : decode cX6_isGuarded 7 = .ok (.iload_n 1, 1) := by decide +kernel
theorem dX6_isGuarded_8 : decode cX6_isGuarded 8 = .ok (.iaload, 1) := by decide +kernel
theorem dX6_isGuarded_9 : decode cX6_isGuarded 9 = .ok (.if_icmp .ge 23, 3) := by decide +kernel
theorem dX6_isGuarded_12 : decode cX6_isGuarded 12 = .ok (.aload_n 0, 1) := by decide +kernel
theorem dX6_isGuarded_13 : decode cX6_isGuarded 13 = .ok (.iconst 2, 1) := by decide +kernel
theorem dX6_isGuarded_14 : decode cX6_isGuarded 14 = .ok (.iload_n 1, 1) := by decide +kernel
theorem dX6_isGuarded_15 : decode cX6_isGuarded 15 = .ok (.imul, 1) := by decide +kernel
theorem dX6_isGuarded_16 : decode cX6_isGuarded 16 = .ok (.iload_n 2, 1) := by decide +kernel
theorem dX6_isGuarded_17 : decode cX6_isGuarded 17 = .ok (.iadd, 1) := by decide +kernel
theorem dX6_isGuarded_18 : decode cX6_isGuarded 18 = .ok (.invokevirtual 150, 3) := by decide +kernel
theorem dX6_isGuarded_21 : decode cX6_isGuarded 21 = .ok (.ifCond .ne 5, 3) := by decide +kernel
theorem dX6_isGuarded_24 : decode cX6_isGuarded 24 = .ok (.iconst 0, 1) := by decide +kernel
theorem dX6_isGuarded_25 : decode cX6_isGuarded 25 = .ok (.ireturn, 1) := by decide +kernel
theorem dX6_isGuarded_26 : decode cX6_isGuarded 26 = .ok (.iinc 2 1, 3) := by decide +kernel
theorem dX6_isGuarded_29 : decode cX6_isGuarded 29 = .ok (.goto (-27), 3) := by decide +kernel
theorem dX6_isGuarded_32 : decode cX6_isGuarded 32 = .ok (.iconst 1, 1) := by decide +kernel
theorem dX6_isGuarded_33 : decode cX6_isGuarded 33 = .ok (.ireturn, 1) := by decide +kernel
theorem dX6_isSettledNow_0 : decode cX6_isSettledNow 0 = .ok (.iload_n 1, 1) := by decide +kernel
theorem dX6_isSettledNow_1 : decode cX6_isSettledNow 1 = .ok (.istore_n 2, 1) := by decide +kernel
theorem dX6_isSettledNow_2 : decode cX6_isSettledNow 2 = .ok (.iload_n 2, 1) := by decide +kernel
theorem dX6_isSettledNow_3 : decode cX6_isSettledNow 3 = .ok (.iconst (-1), 1) := by decide +kernel
theorem dX6_isSettledNow_4 : decode cX6_isSettledNow 4 = .ok (.if_icmp .eq 24, 3) := by decide +kernel
theorem dX6_isSettledNow_7 : decode cX6_isSettledNow 7 = .ok (.aload_n 0, 1) := by decide +kernel
theorem dX6_isSettledNow_8 : decode cX6_isSettledNow 8 = .ok (.getfield 60, 3) := by decide +kernel
theorem dX6_isSettledNow_11 : decode cX6_isSettledNow 11 = .ok (.iload_n 2, 1) := by decide +kernel
theorem dX6_isSettledNow_12 : decode cX6_isSettledNow 12 = .ok (.caload, 1) := by decide +kernel
theorem dX6_isSettledNow_13 : decode cX6_isSettledNow 13 = .ok (.bipush 102, 2) := by decide +kernel
theorem dX6_isSettledNow_15 : decode cX6_isSettledNow 15 = .ok (.if_icmp .ne 13, 3) := by decide +kernel
theorem dX6_isSettledNow_18 : decode cX6_isSettledNow 18 = .ok (.aload_n 0, 1) := by decide +kernel
theorem dX6_isSettledNow_19 : decode cX6_isSettledNow 19 = .ok (.getfield 28, 3) := by decide +kernel
theorem dX6_isSettledNow_22 : decode cX6_isSettledNow 22 = .ok (.iload_n 2, 1) := by decide +kernel
theorem dX6_isSettledNow_23 : decode cX6_isSettledNow 23 = .ok (.iaload, 1) := by decide +kernel
theorem dX6_isSettledNow_24 : decode cX6_isSettledNow 24 = .ok (.istore_n 2, 1) := by decide +kernel
theorem dX6_isSettledNow_25 : decode cX6_isSettledNow 25 = .ok (.goto (-23), 3) := by decide +kernel
theorem dX6_isSettledNow_28 : decode cX6_isSettledNow 28 = .ok (.iload_n 2, 1) := by decide +kernel
theorem dX6_isSettledNow_29 : decode cX6_isSettledNow 29 = .ok (.iconst (-1), 1) := by decide +kernel
theorem dX6_isSettledNow_30 : decode cX6_isSettledNow 30 = .ok (.if_icmp .eq 18, 3) := by decide +kernel
theorem dX6_isSettledNow_33 : decode cX6_isSettledNow 33 = .ok (.aload_n 0, 1) := by decide +kernel
theorem dX6_isSettledNow_34 : decode cX6_isSettledNow 34 = .ok (.getfield 60, 3) := by decide +kernel
theorem dX6_isSettledNow_37 : decode cX6_isSettledNow 37 = .ok (.iload_n 2, 1) := by decide +kernel
theorem dX6_isSettledNow_38 : decode cX6_isSettledNow 38 = .ok (.caload, 1) := by decide +kernel
theorem dX6_isSettledNow_39 : decode cX6_isSettledNow 39 = .ok (.bipush 100, 2) := by decide +kernel
theorem dX6_isSettledNow_41 : decode cX6_isSettledNow 41 = .ok (.if_icmp .ne 7, 3) := by decide +kernel
theorem dX6_isSettledNow_44 : decode cX6_isSettledNow 44 = .ok (.iconst 1, 1) := by decide +kernel
theorem dX6_isSettledNow_45 : decode cX6_isSettledNow 45 = .ok (.goto 4, 3) := by decide +kernel
theorem dX6_isSettledNow_48 : decode cX6_isSettledNow 48 = .ok (.iconst 0, 1) := by decide +kernel
theorem dX6_isSettledNow_49 : decode cX6_isSettledNow 49 = .ok (.ireturn, 1) := by decide +kernel
theorem dX6_areNeedsMet_0 : decode cX6_areNeedsMet 0 = .ok (.iconst 0, 1) := by decide +kernel
theorem dX6_areNeedsMet_1 : decode cX6_areNeedsMet 1 = .ok (.istore_n 2, 1) := by decide +kernel
theorem dX6_areNeedsMet_2 : decode cX6_areNeedsMet 2 = .ok (.iconst 0, 1) := by decide +kernel
theorem dX6_areNeedsMet_3 : decode cX6_areNeedsMet 3 = .ok (.istore_n 3, 1) := by decide +kernel
theorem dX6_areNeedsMet_4 : decode cX6_areNeedsMet 4 = .ok (.iconst 0, 1) := by decide +kernel
theorem dX6_areNeedsMet_5 : decode cX6_areNeedsMet 5 = .ok (.istore 4, 2) := by decide +kernel
theorem dX6_areNeedsMet_7 : decode cX6_areNeedsMet 7 = .ok (.iload 4, 2) := by decide +kernel
theorem dX6_areNeedsMet_9 : decode cX6_areNeedsMet 9 = .ok (.iload_n 1, 1) := by decide +kernel
theorem dX6_areNeedsMet_10 : decode cX6_areNeedsMet 10 = .ok (.if_icmp .ge 46, 3) := by decide +kernel
theorem dX6_areNeedsMet_13 : decode cX6_areNeedsMet 13 = .ok (.aload_n 0, 1) := by decide +kernel
theorem dX6_areNeedsMet_14 : decode cX6_areNeedsMet 14 = .ok (.getfield 25, 3) := by decide +kernel
theorem dX6_areNeedsMet_17 : decode cX6_areNeedsMet 17 = .ok (.iload_n 1, 1) := by decide +kernel
theorem dX6_areNeedsMet_18 : decode cX6_areNeedsMet 18 = .ok (.iaload, 1) := by decide +kernel
theorem dX6_areNeedsMet_19 : decode cX6_areNeedsMet 19 = .ok (.iload 4, 2) := by decide +kernel
theorem dX6_areNeedsMet_21 : decode cX6_areNeedsMet 21 = .ok (.invokestatic 128, 3) := by decide +kernel
theorem dX6_areNeedsMet_24 : decode cX6_areNeedsMet 24 = .ok (.ifCond .ne 6, 3) := by decide +kernel
theorem dX6_areNeedsMet_27 : decode cX6_areNeedsMet 27 = .ok (.goto 23, 3) := by decide +kernel
theorem dX6_areNeedsMet_30 : decode cX6_areNeedsMet 30 = .ok (.iinc 2 1, 3) := by decide +kernel
theorem dX6_areNeedsMet_33 : decode cX6_areNeedsMet 33 = .ok (.iload_n 3, 1) := by decide +kernel
theorem dX6_areNeedsMet_34 : decode cX6_areNeedsMet 34 = .ok (.aload_n 0, 1) := by decide +kernel
theorem dX6_areNeedsMet_35 : decode cX6_areNeedsMet 35 = .ok (.iload 4, 2) := by decide +kernel
theorem dX6_areNeedsMet_37 : decode cX6_areNeedsMet 37 = .ok (.invokevirtual 153, 3) := by decide +kernel
theorem dX6_areNeedsMet_40 : decode cX6_areNeedsMet 40 = .ok (.ifCond .eq 7, 3) := by decide +kernel
theorem dX6_areNeedsMet_43 : decode cX6_areNeedsMet 43 = .ok (.iconst 1, 1) := by decide +kernel
theorem dX6_areNeedsMet_44 : decode cX6_areNeedsMet 44 = .ok (.goto 4, 3) := by decide +kernel
theorem dX6_areNeedsMet_47 : decode cX6_areNeedsMet 47 = .ok (.iconst 0, 1) := by decide +kernel
theorem dX6_areNeedsMet_48 : decode cX6_areNeedsMet 48 = .ok (.iadd, 1) := by decide +kernel
theorem dX6_areNeedsMet_49 : decode cX6_areNeedsMet 49 = .ok (.istore_n 3, 1) := by decide +kernel
theorem dX6_areNeedsMet_50 : decode cX6_areNeedsMet 50 = .ok (.iinc 4 1, 3) := by decide +kernel
theorem dX6_areNeedsMet_53 : decode cX6_areNeedsMet 53 = .ok (.goto (-46), 3) := by decide +kernel
theorem dX6_areNeedsMet_56 : decode cX6_areNeedsMet 56 = .ok (.iload_n 2, 1) := by decide +kernel
theorem dX6_areNeedsMet_57 : decode cX6_areNeedsMet 57 = .ok (.ifCond .eq 26, 3) := by decide +kernel
theorem dX6_areNeedsMet_60 : decode cX6_areNeedsMet 60 = .ok (.aload_n 0, 1) := by decide +kernel
theorem dX6_areNeedsMet_61 : decode cX6_areNeedsMet 61 = .ok (.getfield 43, 3) := by decide +kernel
theorem dX6_areNeedsMet_64 : decode cX6_areNeedsMet 64 = .ok (.iload_n 1, 1) := by decide +kernel
theorem dX6_areNeedsMet_65 : decode cX6_areNeedsMet 65 = .ok (.caload, 1) := by decide +kernel
theorem dX6_areNeedsMet_66 : decode cX6_areNeedsMet 66 = .ok (.bipush 97, 2) := by decide +kernel
theorem dX6_areNeedsMet_68 : decode cX6_areNeedsMet 68 = .ok (.if_icmp .ne 11, 3) := by decide +kernel
theorem dX6_areNeedsMet_71 : decode cX6_areNeedsMet 71 = .ok (.iload_n 3, 1) := by decide +kernel
theorem dX6_areNeedsMet_72 : decode cX6_areNeedsMet 72 = .ok (.iload_n 2, 1) := by decide +kernel
theorem dX6_areNeedsMet_73 : decode cX6_areNeedsMet 73 = .ok (.if_icmp .ne 14, 3) := by decide +kernel
theorem dX6_areNeedsMet_76 : decode cX6_areNeedsMet 76 = .ok (.goto 7, 3) := by decide +kernel
theorem dX6_areNeedsMet_79 : decode cX6_areNeedsMet 79 = .ok (.iload_n 3, 1) := by decide +kernel
theorem dX6_areNeedsMet_80 : decode cX6_areNeedsMet 80 = .ok (.ifCond .le 7, 3) := by decide +kernel
theorem dX6_areNeedsMet_83 : decode cX6_areNeedsMet 83 = .ok (.iconst 1, 1) := by decide +kernel
theorem dX6_areNeedsMet_84 : decode cX6_areNeedsMet 84 = .ok (.goto 4, 3) := by decide +kernel
theorem dX6_areNeedsMet_87 : decode cX6_areNeedsMet 87 = .ok (.iconst 0, 1) := by decide +kernel
theorem dX6_areNeedsMet_88 : decode cX6_areNeedsMet 88 = .ok (.ireturn, 1) := by decide +kernel
theorem dX6_isReadyNow_0 : decode cX6_isReadyNow 0 = .ok (.aload_n 0, 1) := by decide +kernel
theorem dX6_isReadyNow_1 : decode cX6_isReadyNow 1 = .ok (.getfield 124, 3) := by decide +kernel
theorem dX6_isReadyNow_4 : decode cX6_isReadyNow 4 = .ok (.ifCond .eq 34, 3) := by decide +kernel
theorem dX6_isReadyNow_7 : decode cX6_isReadyNow 7 = .ok (.aload_n 0, 1) := by decide +kernel
theorem dX6_isReadyNow_8 : decode cX6_isReadyNow 8 = .ok (.getfield 60, 3) := by decide +kernel
theorem dX6_isReadyNow_11 : decode cX6_isReadyNow 11 = .ok (.iload_n 1, 1) := by decide +kernel
theorem dX6_isReadyNow_12 : decode cX6_isReadyNow 12 = .ok (.caload, 1) := by decide +kernel
theorem dX6_isReadyNow_13 : decode cX6_isReadyNow 13 = .ok (.bipush 119, 2) := by decide +kernel
theorem dX6_isReadyNow_15 : decode cX6_isReadyNow 15 = .ok (.if_icmp .ne 23, 3) := by decide +kernel
theorem dX6_isReadyNow_18 : decode cX6_isReadyNow 18 = .ok (.aload_n 0, 1) := by decide +kernel
theorem dX6_isReadyNow_19 : decode cX6_isReadyNow 19 = .ok (.iload_n 1, 1) := by decide +kernel
theorem dX6_isReadyNow_20 : decode cX6_isReadyNow 20 = .ok (.invokevirtual 156, 3) := by decide +kernel
theorem dX6_isReadyNow_23 : decode cX6_isReadyNow 23 = .ok (.ifCond .eq 15, 3) := by decide +kernel
theorem dX6_isReadyNow_26 : decode cX6_isReadyNow 26 = .ok (.aload_n 0, 1) := by decide +kernel
theorem dX6_isReadyNow_27 : decode cX6_isReadyNow 27 = .ok (.iload_n 1, 1) := by decide +kernel
theorem dX6_isReadyNow_28 : decode cX6_isReadyNow 28 = .ok (.invokevirtual 159, 3) := by decide +kernel
theorem dX6_isReadyNow_31 : decode cX6_isReadyNow 31 = .ok (.ifCond .eq 7, 3) := by decide +kernel
theorem dX6_isReadyNow_34 : decode cX6_isReadyNow 34 = .ok (.iconst 1, 1) := by decide +kernel
theorem dX6_isReadyNow_35 : decode cX6_isReadyNow 35 = .ok (.goto 4, 3) := by decide +kernel
theorem dX6_isReadyNow_38 : decode cX6_isReadyNow 38 = .ok (.iconst 0, 1) := by decide +kernel
theorem dX6_isReadyNow_39 : decode cX6_isReadyNow 39 = .ok (.ireturn, 1) := by decide +kernel
theorem dX6_readyMany_0 : decode cX6_readyMany 0 = .ok (.iconst 0, 1) := by decide +kernel
theorem dX6_readyMany_1 : decode cX6_readyMany 1 = .ok (.istore_n 1, 1) := by decide +kernel
theorem dX6_readyMany_2 : decode cX6_readyMany 2 = .ok (.iconst 0, 1) := by decide +kernel
theorem dX6_readyMany_3 : decode cX6_readyMany 3 = .ok (.istore_n 2, 1) := by decide +kernel
theorem dX6_readyMany_4 : decode cX6_readyMany 4 = .ok (.iload_n 2, 1) := by decide +kernel
theorem dX6_readyMany_5 : decode cX6_readyMany 5 = .ok (.aload_n 0, 1) := by decide +kernel
theorem dX6_readyMany_6 : decode cX6_readyMany 6 = .ok (.getfield 107, 3) := by decide +kernel
theorem dX6_readyMany_9 : decode cX6_readyMany 9 = .ok (.if_icmp .ge 25, 3) := by decide +kernel
theorem dX6_readyMany_12 : decode cX6_readyMany 12 = .ok (.iload_n 1, 1) := by decide +kernel
theorem dX6_readyMany_13 : decode cX6_readyMany 13 = .ok (.aload_n 0, 1) := by decide +kernel
theorem dX6_readyMany_14 : decode cX6_readyMany 14 = .ok (.iload_n 2, 1) := by decide +kernel
theorem dX6_readyMany_15 : decode cX6_readyMany 15 = .ok (.invokevirtual 162, 3) := by decide +kernel
theorem dX6_readyMany_18 : decode cX6_readyMany 18 = .ok (.ifCond .eq 7, 3) := by decide +kernel
theorem dX6_readyMany_21 : decode cX6_readyMany 21 = .ok (.iconst 1, 1) := by decide +kernel
theorem dX6_readyMany_22 : decode cX6_readyMany 22 = .ok (.goto 4, 3) := by decide +kernel
theorem dX6_readyMany_25 : decode cX6_readyMany 25 = .ok (.iconst 0, 1) := by decide +kernel
theorem dX6_readyMany_26 : decode cX6_readyMany 26 = .ok (.iadd, 1) := by decide +kernel
theorem dX6_readyMany_27 : decode cX6_readyMany 27 = .ok (.istore_n 1, 1) := by decide +kernel
theorem dX6_readyMany_28 : decode cX6_readyMany 28 = .ok (.iinc 2 1, 3) := by decide +kernel
theorem dX6_readyMany_31 : decode cX6_readyMany 31 = .ok (.goto (-27), 3) := by decide +kernel
theorem dX6_readyMany_34 : decode cX6_readyMany 34 = .ok (.iload_n 1, 1) := by decide +kernel
theorem dX6_readyMany_35 : decode cX6_readyMany 35 = .ok (.ireturn, 1) := by decide +kernel
theorem dX6_many_0 : decode cX6_many 0 = .ok (.iconst 0, 1) := by decide +kernel
theorem dX6_many_1 : decode cX6_many 1 = .ok (.istore_n 2, 1) := by decide +kernel
theorem dX6_many_2 : decode cX6_many 2 = .ok (.iconst 0, 1) := by decide +kernel
theorem dX6_many_3 : decode cX6_many 3 = .ok (.istore_n 3, 1) := by decide +kernel
theorem dX6_many_4 : decode cX6_many 4 = .ok (.iload_n 3, 1) := by decide +kernel
theorem dX6_many_5 : decode cX6_many 5 = .ok (.aload_n 0, 1) := by decide +kernel
theorem dX6_many_6 : decode cX6_many 6 = .ok (.getfield 107, 3) := by decide +kernel
theorem dX6_many_9 : decode cX6_many 9 = .ok (.if_icmp .ge 27, 3) := by decide +kernel
theorem dX6_many_12 : decode cX6_many 12 = .ok (.iload_n 2, 1) := by decide +kernel
theorem dX6_many_13 : decode cX6_many 13 = .ok (.aload_n 0, 1) := by decide +kernel
theorem dX6_many_14 : decode cX6_many 14 = .ok (.getfield 60, 3) := by decide +kernel
theorem dX6_many_17 : decode cX6_many 17 = .ok (.iload_n 3, 1) := by decide +kernel
theorem dX6_many_18 : decode cX6_many 18 = .ok (.caload, 1) := by decide +kernel
theorem dX6_many_19 : decode cX6_many 19 = .ok (.iload_n 1, 1) := by decide +kernel
theorem dX6_many_20 : decode cX6_many 20 = .ok (.if_icmp .ne 7, 3) := by decide +kernel
theorem dX6_many_23 : decode cX6_many 23 = .ok (.iconst 1, 1) := by decide +kernel
theorem dX6_many_24 : decode cX6_many 24 = .ok (.goto 4, 3) := by decide +kernel
theorem dX6_many_27 : decode cX6_many 27 = .ok (.iconst 0, 1) := by decide +kernel
theorem dX6_many_28 : decode cX6_many 28 = .ok (.iadd, 1) := by decide +kernel
theorem dX6_many_29 : decode cX6_many 29 = .ok (.istore_n 2, 1) := by decide +kernel
theorem dX6_many_30 : decode cX6_many 30 = .ok (.iinc 3 1, 3) := by decide +kernel
theorem dX6_many_33 : decode cX6_many 33 = .ok (.goto (-29), 3) := by decide +kernel
theorem dX6_many_36 : decode cX6_many 36 = .ok (.iload_n 2, 1) := by decide +kernel
theorem dX6_many_37 : decode cX6_many 37 = .ok (.ireturn, 1) := by decide +kernel
theorem dX6_start_0 : decode cX6_start 0 = .ok (.aload_n 0, 1) := by decide +kernel
theorem dX6_start_1 : decode cX6_start 1 = .ok (.iconst 0, 1) := by decide +kernel
theorem dX6_start_2 : decode cX6_start 2 = .ok (.putfield 97, 3) := by decide +kernel
theorem dX6_start_5 : decode cX6_start 5 = .ok (.aload_n 0, 1) := by decide +kernel
theorem dX6_start_6 : decode cX6_start 6 = .ok (.getfield 124, 3) := by decide +kernel
theorem dX6_start_9 : decode cX6_start 9 = .ok (.ifCond .ne 10, 3) := by decide +kernel
theorem dX6_start_12 : decode cX6_start 12 = .ok (.aload_n 0, 1) := by decide +kernel
theorem dX6_start_13 : decode cX6_start 13 = .ok (.getfield 107, 3) := by decide +kernel
theorem dX6_start_16 : decode cX6_start 16 = .ok (.ifCond .ne 9, 3) := by decide +kernel
theorem dX6_start_19 : decode cX6_start 19 = .ok (.aload_n 0, 1) := by decide +kernel
theorem dX6_start_20 : decode cX6_start 20 = .ok (.iconst 1, 1) := by decide +kernel
theorem dX6_start_21 : decode cX6_start 21 = .ok (.invokevirtual 110, 3) := by decide +kernel
theorem dX6_start_24 : decode cX6_start 24 = .ok (.ireturn, 1) := by decide +kernel
theorem dX6_start_25 : decode cX6_start 25 = .ok (.iconst 0, 1) := by decide +kernel
theorem dX6_start_26 : decode cX6_start 26 = .ok (.istore_n 1, 1) := by decide +kernel
theorem dX6_start_27 : decode cX6_start 27 = .ok (.iload_n 1, 1) := by decide +kernel
theorem dX6_start_28 : decode cX6_start 28 = .ok (.aload_n 0, 1) := by decide +kernel
theorem dX6_start_29 : decode cX6_start 29 = .ok (.getfield 107, 3) := by decide +kernel
theorem dX6_start_32 : decode cX6_start 32 = .ok (.if_icmp .ge 44, 3) := by decide +kernel
theorem dX6_start_35 : decode cX6_start 35 = .ok (.aload_n 0, 1) := by decide +kernel
theorem dX6_start_36 : decode cX6_start 36 = .ok (.getfield 60, 3) := by decide +kernel
theorem dX6_start_39 : decode cX6_start 39 = .ok (.iload_n 1, 1) := by decide +kernel
theorem dX6_start_40 : decode cX6_start 40 = .ok (.aload_n 0, 1) := by decide +kernel
theorem dX6_start_41 : decode cX6_start 41 = .ok (.iload_n 1, 1) := by decide +kernel
theorem dX6_start_42 : decode cX6_start 42 = .ok (.invokevirtual 138, 3) := by decide +kernel
theorem dX6_start_45 : decode cX6_start 45 = .ok (.ifCond .eq 8, 3) := by decide +kernel
theorem dX6_start_48 : decode cX6_start 48 = .ok (.bipush 111, 2) := by decide +kernel
theorem dX6_start_50 : decode cX6_start 50 = .ok (.goto 5, 3) := by decide +kernel
theorem dX6_start_53 : decode cX6_start 53 = .ok (.bipush 119, 2) := by decide +kernel
theorem dX6_start_55 : decode cX6_start 55 = .ok (.castore, 1) := by decide +kernel
theorem dX6_start_56 : decode cX6_start 56 = .ok (.aload_n 0, 1) := by decide +kernel
theorem dX6_start_57 : decode cX6_start 57 = .ok (.getfield 63, 3) := by decide +kernel
theorem dX6_start_60 : decode cX6_start 60 = .ok (.iload_n 1, 1) := by decide +kernel
theorem dX6_start_61 : decode cX6_start 61 = .ok (.iconst 0, 1) := by decide +kernel
theorem dX6_start_62 : decode cX6_start 62 = .ok (.iastore, 1) := by decide +kernel
theorem dX6_start_63 : decode cX6_start 63 = .ok (.aload_n 0, 1) := by decide +kernel
theorem dX6_start_64 : decode cX6_start 64 = .ok (.getfield 57, 3) := by decide +kernel
theorem dX6_start_67 : decode cX6_start 67 = .ok (.iload_n 1, 1) := by decide +kernel
theorem dX6_start_68 : decode cX6_start 68 = .ok (.iconst 0, 1) := by decide +kernel
theorem dX6_start_69 : decode cX6_start 69 = .ok (.bastore, 1) := by decide +kernel
theorem dX6_start_70 : decode cX6_start 70 = .ok (.iinc 1 1, 3) := by decide +kernel
theorem dX6_start_73 : decode cX6_start 73 = .ok (.goto (-46), 3) := by decide +kernel
theorem dX6_start_76 : decode cX6_start 76 = .ok (.aload_n 0, 1) := by decide +kernel
theorem dX6_start_77 : decode cX6_start 77 = .ok (.iconst 1, 1) := by decide +kernel
theorem dX6_start_78 : decode cX6_start 78 = .ok (.putfield 124, 3) := by decide +kernel
theorem dX6_start_81 : decode cX6_start 81 = .ok (.aload_n 0, 1) := by decide +kernel
theorem dX6_start_82 : decode cX6_start 82 = .ok (.iconst 1, 1) := by decide +kernel
theorem dX6_start_83 : decode cX6_start 83 = .ok (.putfield 165, 3) := by decide +kernel
theorem dX6_start_86 : decode cX6_start 86 = .ok (.aload_n 0, 1) := by decide +kernel
theorem dX6_start_87 : decode cX6_start 87 = .ok (.aload_n 0, 1) := by decide +kernel
theorem dX6_start_88 : decode cX6_start 88 = .ok (.getfield 107, 3) := by decide +kernel
theorem dX6_start_91 : decode cX6_start 91 = .ok (.putfield 168, 3) := by decide +kernel
theorem dX6_start_94 : decode cX6_start 94 = .ok (.aload_n 0, 1) := by decide +kernel
theorem dX6_start_95 : decode cX6_start 95 = .ok (.iconst 0, 1) := by decide +kernel
theorem dX6_start_96 : decode cX6_start 96 = .ok (.putfield 171, 3) := by decide +kernel
theorem dX6_start_99 : decode cX6_start 99 = .ok (.aload_n 0, 1) := by decide +kernel
theorem dX6_start_100 : decode cX6_start 100 = .ok (.iconst 0, 1) := by decide +kernel
theorem dX6_start_101 : decode cX6_start 101 = .ok (.putfield 144, 3) := by decide +kernel
theorem dX6_start_104 : decode cX6_start 104 = .ok (.aload_n 0, 1) := by decide +kernel
theorem dX6_start_105 : decode cX6_start 105 = .ok (.invokevirtual 174, 3) := by decide +kernel
theorem dX6_start_108 : decode cX6_start 108 = .ok (.ireturn, 1) := by decide +kernel
theorem dX6_close_0 : decode cX6_close 0 = .ok (.aload_n 0, 1) := by decide +kernel
theorem dX6_close_1 : decode cX6_close 1 = .ok (.iconst 0, 1) := by decide +kernel
theorem dX6_close_2 : decode cX6_close 2 = .ok (.putfield 97, 3) := by decide +kernel
theorem dX6_close_5 : decode cX6_close 5 = .ok (.aload_n 0, 1) := by decide +kernel
theorem dX6_close_6 : decode cX6_close 6 = .ok (.getfield 124, 3) := by decide +kernel
theorem dX6_close_9 : decode cX6_close 9 = .ok (.ifCond .eq 20, 3) := by decide +kernel
theorem dX6_close_12 : decode cX6_close 12 = .ok (.aload_n 0, 1) := by decide +kernel
theorem dX6_close_13 : decode cX6_close 13 = .ok (.bipush 97, 2) := by decide +kernel
theorem dX6_close_15 : decode cX6_close 15 = .ok (.invokevirtual 178, 3) := by decide +kernel
theorem dX6_close_18 : decode cX6_close 18 = .ok (.ifCond .gt 11, 3) := by decide +kernel
theorem dX6_close_21 : decode cX6_close 21 = .ok (.aload_n 0, 1) := by decide +kernel
theorem dX6_close_22 : decode cX6_close 22 = .ok (.getfield 75, 3) := by decide +kernel
theorem dX6_close_25 : decode cX6_close 25 = .ok (.iconst (-1), 1) := by decide +kernel
theorem dX6_close_26 : decode cX6_close 26 = .ok (.if_icmp .eq 9, 3) := by decide +kernel
theorem dX6_close_29 : decode cX6_close 29 = .ok (.aload_n 0, 1) := by decide +kernel
theorem dX6_close_30 : decode cX6_close 30 = .ok (.iconst 1, 1) := by decide +kernel
theorem dX6_close_31 : decode cX6_close 31 = .ok (.invokevirtual 110, 3) := by decide +kernel
theorem dX6_close_34 : decode cX6_close 34 = .ok (.ireturn, 1) := by decide +kernel
theorem dX6_close_35 : decode cX6_close 35 = .ok (.aload_n 0, 1) := by decide +kernel
theorem dX6_close_36 : decode cX6_close 36 = .ok (.iconst 0, 1) := by decide +kernel
theorem dX6_close_37 : decode cX6_close 37 = .ok (.putfield 124, 3) := by decide +kernel
theorem dX6_close_40 : decode cX6_close 40 = .ok (.aload_n 0, 1) := by decide +kernel
theorem dX6_close_41 : decode cX6_close 41 = .ok (.getfield 171, 3) := by decide +kernel
theorem dX6_close_44 : decode cX6_close 44 = .ok (.ireturn, 1) := by decide +kernel
theorem dX6_isPausedNow_0 : decode cX6_isPausedNow 0 = .ok (.aload_n 0, 1) := by decide +kernel
theorem dX6_isPausedNow_1 : decode cX6_isPausedNow 1 = .ok (.getfield 75, 3) := by decide +kernel
theorem dX6_isPausedNow_4 : decode cX6_isPausedNow 4 = .ok (.iconst (-1), 1) := by decide +kernel
theorem dX6_isPausedNow_5 : decode cX6_isPausedNow 5 = .ok (.if_icmp .eq 23, 3) := by decide +kernel
theorem dX6_isPausedNow_8 : decode cX6_isPausedNow 8 = .ok (.aload_n 0, 1) := by decide +kernel
theorem dX6_isPausedNow_9 : decode cX6_isPausedNow 9 = .ok (.getfield 9, 3) := by decide +kernel
theorem dX6_isPausedNow_12 : decode cX6_isPausedNow 12 = .ok (.aload_n 0, 1) := by decide +kernel
theorem dX6_isPausedNow_13 : decode cX6_isPausedNow 13 = .ok (.getfield 75, 3) := by decide +kernel
theorem dX6_isPausedNow_16 : decode cX6_isPausedNow 16 = .ok (.iaload, 1) := by decide +kernel
theorem dX6_isPausedNow_17 : decode cX6_isPausedNow 17 = .ok (.iload_n 1, 1) := by decide +kernel
theorem dX6_isPausedNow_18 : decode cX6_isPausedNow 18 = .ok (.invokestatic 128, 3) := by decide +kernel
theorem dX6_isPausedNow_21 : decode cX6_isPausedNow 21 = .ok (.ifCond .eq 7, 3) := by decide +kernel
theorem dX6_isPausedNow_24 : decode cX6_isPausedNow 24 = .ok (.iconst 1, 1) := by decide +kernel
theorem dX6_isPausedNow_25 : decode cX6_isPausedNow 25 = .ok (.goto 4, 3) := by decide +kernel
theorem dX6_isPausedNow_28 : decode cX6_isPausedNow 28 = .ok (.iconst 0, 1) := by decide +kernel
theorem dX6_isPausedNow_29 : decode cX6_isPausedNow 29 = .ok (.ireturn, 1) := by decide +kernel
theorem dX6_isFree_0 : decode cX6_isFree 0 = .ok (.aload_n 0, 1) := by decide +kernel
theorem dX6_isFree_1 : decode cX6_isFree 1 = .ok (.getfield 50, 3) := by decide +kernel
theorem dX6_isFree_4 : decode cX6_isFree 4 = .ok (.iload_n 1, 1) := by decide +kernel
theorem dX6_isFree_5 : decode cX6_isFree 5 = .ok (.baload, 1) := by decide +kernel
theorem dX6_isFree_6 : decode cX6_isFree 6 = .ok (.ifCond .eq 24, 3) := by decide +kernel
theorem dX6_isFree_9 : decode cX6_isFree 9 = .ok (.aload_n 0, 1) := by decide +kernel
theorem dX6_isFree_10 : decode cX6_isFree 10 = .ok (.iload_n 1, 1) := by decide +kernel
theorem dX6_isFree_11 : decode cX6_isFree 11 = .ok (.invokevirtual 121, 3) := by decide +kernel
theorem dX6_isFree_14 : decode cX6_isFree 14 = .ok (.iconst (-1), 1) := by decide +kernel
theorem dX6_isFree_15 : decode cX6_isFree 15 = .ok (.if_icmp .ne 15, 3) := by decide +kernel
theorem dX6_isFree_18 : decode cX6_isFree 18 = .ok (.iload_n 1, 1) := by decide +kernel
theorem dX6_isFree_19 : decode cX6_isFree 19 = .ok (.aload_n 0, 1) := by decide +kernel
theorem dX6_isFree_20 : decode cX6_isFree 20 = .ok (.getfield 75, 3) := by decide +kernel
theorem dX6_isFree_23 : decode cX6_isFree 23 = .ok (.if_icmp .eq 7, 3) := by decide +kernel
theorem dX6_isFree_26 : decode cX6_isFree 26 = .ok (.iconst 1, 1) := by decide +kernel
theorem dX6_isFree_27 : decode cX6_isFree 27 = .ok (.goto 4, 3) := by decide +kernel
theorem dX6_isFree_30 : decode cX6_isFree 30 = .ok (.iconst 0, 1) := by decide +kernel
theorem dX6_isFree_31 : decode cX6_isFree 31 = .ok (.ireturn, 1) := by decide +kernel
theorem dX6_begin_0 : decode cX6_begin 0 = .ok (.aload_n 0, 1) := by decide +kernel
theorem dX6_begin_1 : decode cX6_begin 1 = .ok (.iconst 0, 1) := by decide +kernel
theorem dX6_begin_2 : decode cX6_begin 2 = .ok (.putfield 97, 3) := by decide +kernel
theorem dX6_begin_5 : decode cX6_begin 5 = .ok (.aload_n 0, 1) := by decide +kernel
theorem dX6_begin_6 : decode cX6_begin 6 = .ok (.iload_n 1, 1) := by decide +kernel
theorem dX6_begin_7 : decode cX6_begin 7 = .ok (.invokevirtual 114, 3) := by decide +kernel
theorem dX6_begin_10 : decode cX6_begin 10 = .ok (.ifCond .eq 11, 3) := by decide +kernel
theorem dX6_begin_13 : decode cX6_begin 13 = .ok (.aload_n 0, 1) := by decide +kernel
theorem dX6_begin_14 : decode cX6_begin 14 = .ok (.iload_n 2, 1) := by decide +kernel
theorem dX6_begin_15 : decode cX6_begin 15 = .ok (.invokevirtual 132, 3) := by decide +kernel
theorem dX6_begin_18 : decode cX6_begin 18 = .ok (.ifCond .ne 9, 3) := by decide +kernel
theorem dX6_begin_21 : decode cX6_begin 21 = .ok (.aload_n 0, 1) := by decide +kernel
theorem dX6_begin_22 : decode cX6_begin 22 = .ok (.iconst 1, 1) := by decide +kernel
theorem dX6_begin_23 : decode cX6_begin 23 = .ok (.invokevirtual 110, 3) := by decide +kernel
theorem dX6_begin_26 : decode cX6_begin 26 = .ok (.ireturn, 1) := by decide +kernel
theorem dX6_begin_27 : decode cX6_begin 27 = .ok (.aload_n 0, 1) := by decide +kernel
theorem dX6_begin_28 : decode cX6_begin 28 = .ok (.getfield 124, 3) := by decide +kernel
theorem dX6_begin_31 : decode cX6_begin 31 = .ok (.ifCond .ne 9, 3) := by decide +kernel
theorem dX6_begin_34 : decode cX6_begin 34 = .ok (.aload_n 0, 1) := by decide +kernel
theorem dX6_begin_35 : decode cX6_begin 35 = .ok (.iconst 2, 1) := by decide +kernel
theorem dX6_begin_36 : decode cX6_begin 36 = .ok (.invokevirtual 110, 3) := by decide +kernel
theorem dX6_begin_39 : decode cX6_begin 39 = .ok (.ireturn, 1) := by decide +kernel
theorem dX6_begin_40 : decode cX6_begin 40 = .ok (.aload_n 0, 1) := by decide +kernel
theorem dX6_begin_41 : decode cX6_begin 41 = .ok (.iload_n 1, 1) := by decide +kernel
theorem dX6_begin_42 : decode cX6_begin 42 = .ok (.invokevirtual 182, 3) := by decide +kernel
theorem dX6_begin_45 : decode cX6_begin 45 = .ok (.ifCond .eq 42, 3) := by decide +kernel
theorem dX6_begin_48 : decode cX6_begin 48 = .ok (.aload_n 0, 1) := by decide +kernel
theorem dX6_begin_49 : decode cX6_begin 49 = .ok (.getfield 9, 3) := by decide +kernel
theorem dX6_begin_52 : decode cX6_begin 52 = .ok (.iload_n 1, 1) := by decide +kernel
theorem dX6_begin_53 : decode cX6_begin 53 = .ok (.iaload, 1) := by decide +kernel
theorem dX6_begin_54 : decode cX6_begin 54 = .ok (.aload_n 0, 1) := by decide +kernel
theorem dX6_begin_55 : decode cX6_begin 55 = .ok (.getfield 16, 3) := by decide +kernel
theorem dX6_begin_58 : decode cX6_begin 58 = .ok (.iload_n 2, 1) := by decide +kernel
theorem dX6_begin_59 : decode cX6_begin 59 = .ok (.iaload, 1) := by decide +kernel
theorem dX6_begin_60 : decode cX6_begin 60 = .ok (.invokestatic 128, 3) := by decide +kernel
theorem dX6_begin_63 : decode cX6_begin 63 = .ok (.ifCond .eq 24, 3) := by decide +kernel
theorem dX6_begin_66 : decode cX6_begin 66 = .ok (.aload_n 0, 1) := by decide +kernel
theorem dX6_begin_67 : decode cX6_begin 67 = .ok (.iload_n 2, 1) := by decide +kernel
theorem dX6_begin_68 : decode cX6_begin 68 = .ok (.invokevirtual 162, 3) := by decide +kernel
theorem dX6_begin_71 : decode cX6_begin 71 = .ok (.ifCond .eq 16, 3) := by decide +kernel
theorem dX6_begin_74 : decode cX6_begin 74 = .ok (.aload_n 0, 1) := by decide +kernel
theorem dX6_begin_75 : decode cX6_begin 75 = .ok (.aload_n 0, 1) := by decide +kernel
theorem dX6_begin_76 : decode cX6_begin 76 = .ok (.getfield 16, 3) := by decide +kernel
theorem dX6_begin_79 : decode cX6_begin 79 = .ok (.iload_n 2, 1) := by decide +kernel
theorem dX6_begin_80 : decode cX6_begin 80 = .ok (.iaload, 1) := by decide +kernel
theorem dX6_begin_81 : decode cX6_begin 81 = .ok (.invokevirtual 185, 3) := by decide +kernel
theorem dX6_begin_84 : decode cX6_begin 84 = .ok (.ifCond .eq 9, 3) := by decide +kernel
theorem dX6_begin_87 : decode cX6_begin 87 = .ok (.aload_n 0, 1) := by decide +kernel
theorem dX6_begin_88 : decode cX6_begin 88 = .ok (.iconst 3, 1) := by decide +kernel
theorem dX6_begin_89 : decode cX6_begin 89 = .ok (.invokevirtual 110, 3) := by decide +kernel
theorem dX6_begin_92 : decode cX6_begin 92 = .ok (.ireturn, 1) := by decide +kernel
theorem dX6_begin_93 : decode cX6_begin 93 = .ok (.aload_n 0, 1) := by decide +kernel
theorem dX6_begin_94 : decode cX6_begin 94 = .ok (.getfield 60, 3) := by decide +kernel
theorem dX6_begin_97 : decode cX6_begin 97 = .ok (.iload_n 2, 1) := by decide +kernel
theorem dX6_begin_98 : decode cX6_begin 98 = .ok (.bipush 97, 2) := by decide +kernel
theorem dX6_begin_100 : decode cX6_begin 100 = .ok (.castore, 1) := by decide +kernel
theorem dX6_begin_101 : decode cX6_begin 101 = .ok (.aload_n 0, 1) := by decide +kernel
theorem dX6_begin_102 : decode cX6_begin 102 = .ok (.getfield 66, 3) := by decide +kernel
theorem dX6_begin_105 : decode cX6_begin 105 = .ok (.iload_n 2, 1) := by decide +kernel
theorem dX6_begin_106 : decode cX6_begin 106 = .ok (.iload_n 1, 1) := by decide +kernel
theorem dX6_begin_107 : decode cX6_begin 107 = .ok (.iastore, 1) := by decide +kernel
theorem dX6_begin_108 : decode cX6_begin 108 = .ok (.aload_n 0, 1) := by decide +kernel
theorem dX6_begin_109 : decode cX6_begin 109 = .ok (.getfield 69, 3) := by decide +kernel
theorem dX6_begin_112 : decode cX6_begin 112 = .ok (.iload_n 2, 1) := by decide +kernel
theorem dX6_begin_113 : decode cX6_begin 113 = .ok (.iconst 0, 1) := by decide +kernel
theorem dX6_begin_114 : decode cX6_begin 114 = .ok (.iastore, 1) := by decide +kernel
theorem dX6_begin_115 : decode cX6_begin 115 = .ok (.aload_n 0, 1) := by decide +kernel
theorem dX6_begin_116 : decode cX6_begin 116 = .ok (.getfield 57, 3) := by decide +kernel
theorem dX6_begin_119 : decode cX6_begin 119 = .ok (.iload_n 2, 1) := by decide +kernel
theorem dX6_begin_120 : decode cX6_begin 120 = .ok (.iconst 1, 1) := by decide +kernel
theorem dX6_begin_121 : decode cX6_begin 121 = .ok (.bastore, 1) := by decide +kernel
theorem dX6_begin_122 : decode cX6_begin 122 = .ok (.iconst 0, 1) := by decide +kernel
theorem dX6_begin_123 : decode cX6_begin 123 = .ok (.istore_n 3, 1) := by decide +kernel
theorem dX6_begin_124 : decode cX6_begin 124 = .ok (.iload_n 3, 1) := by decide +kernel
theorem dX6_begin_125 : decode cX6_begin 125 = .ok (.bipush 6, 2) := by decide +kernel
theorem dX6_begin_127 : decode cX6_begin 127 = .ok (.if_icmp .ge 26, 3) := by decide +kernel
theorem dX6_begin_130 : decode cX6_begin 130 = .ok (.aload_n 0, 1) := by decide +kernel
theorem dX6_begin_131 : decode cX6_begin 131 = .ok (.getfield 40, 3) := by decide +kernel
theorem dX6_begin_134 : decode cX6_begin 134 = .ok (.bipush 6, 2) := by decide +kernel
theorem dX6_begin_136 : decode cX6_begin 136 = .ok (.iload_n 2, 1) := by decide +kernel
theorem dX6_begin_137 : decode cX6_begin 137 = .ok (.imul, 1) := by decide +kernel
theorem dX6_begin_138 : decode cX6_begin 138 = .ok (.iload_n 3, 1) := by decide +kernel
theorem dX6_begin_139 : decode cX6_begin 139 = .ok (.iadd, 1) := by decide +kernel
theorem dX6_begin_140 : decode cX6_begin 140 = .ok (.aload_n 0, 1) := by decide +kernel
theorem dX6_begin_141 : decode cX6_begin 141 = .ok (.getfield 13, 3) := by decide +kernel
theorem dX6_begin_144 : decode cX6_begin 144 = .ok (.iload_n 3, 1) := by decide +kernel
theorem dX6_begin_145 : decode cX6_begin 145 = .ok (.iaload, 1) := by decide +kernel
theorem dX6_begin_146 : decode cX6_begin 146 = .ok (.iastore, 1) := by decide +kernel
theorem dX6_begin_147 : decode cX6_begin 147 = .ok (.iinc 3 1, 3) := by decide +kernel
theorem dX6_begin_150 : decode cX6_begin 150 = .ok (.goto (-26), 3) := by decide +kernel
theorem dX6_begin_153 : decode cX6_begin 153 = .ok (.aload_n 0, 1) := by decide +kernel
theorem dX6_begin_154 : decode cX6_begin 154 = .ok (.bipush 98, 2) := by decide +kernel
theorem dX6_begin_156 : decode cX6_begin 156 = .ok (.iload_n 2, 1) := by decide +kernel
theorem dX6_begin_157 : decode cX6_begin 157 = .ok (.iload_n 1, 1) := by decide +kernel
theorem dX6_begin_158 : decode cX6_begin 158 = .ok (.invokevirtual 188, 3) := by decide +kernel
theorem dX6_begin_161 : decode cX6_begin 161 = .ok (.aload_n 0, 1) := by decide +kernel
theorem dX6_begin_162 : decode cX6_begin 162 = .ok (.getfield 147, 3) := by decide +kernel
theorem dX6_begin_165 : decode cX6_begin 165 = .ok (.iconst 2, 1) := by decide +kernel
theorem dX6_begin_166 : decode cX6_begin 166 = .ok (.aload_n 0, 1) := by decide +kernel
theorem dX6_begin_167 : decode cX6_begin 167 = .ok (.getfield 19, 3) := by decide +kernel
theorem dX6_begin_170 : decode cX6_begin 170 = .ok (.iload_n 2, 1) := by decide +kernel
theorem dX6_begin_171 : decode cX6_begin 171 = .ok (.iaload, 1) := by decide +kernel
theorem dX6_begin_172 : decode cX6_begin 172 = .ok (.imul, 1) := by decide +kernel
theorem dX6_begin_173 : decode cX6_begin 173 = .ok (.iadd, 1) := by decide +kernel
theorem dX6_begin_174 : decode cX6_begin 174 = .ok (.ireturn, 1) := by decide +kernel
theorem dX6_triesFail_0 : decode cX6_triesFail 0 = .ok (.aload_n 0, 1) := by decide +kernel
theorem dX6_triesFail_1 : decode cX6_triesFail 1 = .ok (.getfield 63, 3) := by decide +kernel
theorem dX6_triesFail_4 : decode cX6_triesFail 4 = .ok (.iload_n 1, 1) := by decide +kernel
theorem dX6_triesFail_5 : decode cX6_triesFail 5 = .ok (.dup2, 1) := by decide +kernel
theorem dX6_triesFail_6 : decode cX6_triesFail 6 = .ok (.iaload, 1) := by decide +kernel
theorem dX6_triesFail_7 : decode cX6_triesFail 7 = .ok (.iconst 1, 1) := by decide +kernel
theorem dX6_triesFail_8 : decode cX6_triesFail 8 = .ok (.iadd, 1) := by decide +kernel
theorem dX6_triesFail_9 : decode cX6_triesFail 9 = .ok (.iastore, 1) := by decide +kernel
theorem dX6_triesFail_10 : decode cX6_triesFail 10 = .ok (.aload_n 0, 1) := by decide +kernel
theorem dX6_triesFail_11 : decode cX6_triesFail 11 = .ok (.getfield 60, 3) := by decide +kernel
theorem dX6_triesFail_14 : decode cX6_triesFail 14 = .ok (.iload_n 1, 1) := by decide +kernel
theorem dX6_triesFail_15 : decode cX6_triesFail 15 = .ok (.aload_n 0, 1) := by decide +kernel
theorem dX6_triesFail_16 : decode cX6_triesFail 16 = .ok (.getfield 63, 3) := by decide +kernel
theorem dX6_triesFail_19 : decode cX6_triesFail 19 = .ok (.iload_n 1, 1) := by decide +kernel
theorem dX6_triesFail_20 : decode cX6_triesFail 20 = .ok (.iaload, 1) := by decide +kernel
theorem dX6_triesFail_21 : decode cX6_triesFail 21 = .ok (.aload_n 0, 1) := by decide +kernel
theorem dX6_triesFail_22 : decode cX6_triesFail 22 = .ok (.getfield 22, 3) := by decide +kernel
theorem dX6_triesFail_25 : decode cX6_triesFail 25 = .ok (.iload_n 1, 1) := by decide +kernel
theorem dX6_triesFail_26 : decode cX6_triesFail 26 = .ok (.iaload, 1) := by decide +kernel
theorem dX6_triesFail_27 : decode cX6_triesFail 27 = .ok (.if_icmp .ge 8, 3) := by decide +kernel
theorem dX6_triesFail_30 : decode cX6_triesFail 30 = .ok (.bipush 119, 2) := by decide +kernel
theorem dX6_triesFail_32 : decode cX6_triesFail 32 = .ok (.goto 5, 3) := by decide +kernel
theorem dX6_triesFail_35 : decode cX6_triesFail 35 = .ok (.bipush 102, 2) := by decide +kernel
theorem dX6_triesFail_37 : decode cX6_triesFail 37 = .ok (.castore, 1) := by decide +kernel
theorem dX6_triesFail_38 : decode cX6_triesFail 38 = .ok (.aload_n 0, 1) := by decide +kernel
theorem dX6_triesFail_39 : decode cX6_triesFail 39 = .ok (.aload_n 0, 1) := by decide +kernel
theorem dX6_triesFail_40 : decode cX6_triesFail 40 = .ok (.getfield 60, 3) := by decide +kernel
theorem dX6_triesFail_43 : decode cX6_triesFail 43 = .ok (.iload_n 1, 1) := by decide +kernel
theorem dX6_triesFail_44 : decode cX6_triesFail 44 = .ok (.caload, 1) := by decide +kernel
theorem dX6_triesFail_45 : decode cX6_triesFail 45 = .ok (.bipush 119, 2) := by decide +kernel
theorem dX6_triesFail_47 : decode cX6_triesFail 47 = .ok (.if_icmp .ne 8, 3) := by decide +kernel
theorem dX6_triesFail_50 : decode cX6_triesFail 50 = .ok (.bipush 109, 2) := by decide +kernel
theorem dX6_triesFail_52 : decode cX6_triesFail 52 = .ok (.goto 5, 3) := by decide +kernel
theorem dX6_triesFail_55 : decode cX6_triesFail 55 = .ok (.bipush 102, 2) := by decide +kernel
theorem dX6_triesFail_57 : decode cX6_triesFail 57 = .ok (.iload_n 1, 1) := by decide +kernel
theorem dX6_triesFail_58 : decode cX6_triesFail 58 = .ok (.iconst (-1), 1) := by decide +kernel
theorem dX6_triesFail_59 : decode cX6_triesFail 59 = .ok (.invokevirtual 188, 3) := by decide +kernel
theorem dX6_triesFail_62 : decode cX6_triesFail 62 = .ok (.aload_n 0, 1) := by decide +kernel
theorem dX6_triesFail_63 : decode cX6_triesFail 63 = .ok (.getfield 28, 3) := by decide +kernel
theorem dX6_triesFail_66 : decode cX6_triesFail 66 = .ok (.iload_n 1, 1) := by decide +kernel
theorem dX6_triesFail_67 : decode cX6_triesFail 67 = .ok (.iaload, 1) := by decide +kernel
theorem dX6_triesFail_68 : decode cX6_triesFail 68 = .ok (.istore_n 2, 1) := by decide +kernel
theorem dX6_triesFail_69 : decode cX6_triesFail 69 = .ok (.aload_n 0, 1) := by decide +kernel
theorem dX6_triesFail_70 : decode cX6_triesFail 70 = .ok (.getfield 60, 3) := by decide +kernel
theorem dX6_triesFail_73 : decode cX6_triesFail 73 = .ok (.iload_n 1, 1) := by decide +kernel
theorem dX6_triesFail_74 : decode cX6_triesFail 74 = .ok (.caload, 1) := by decide +kernel
theorem dX6_triesFail_75 : decode cX6_triesFail 75 = .ok (.bipush 119, 2) := by decide +kernel
theorem dX6_triesFail_77 : decode cX6_triesFail 77 = .ok (.if_icmp .eq 19, 3) := by decide +kernel
theorem dX6_triesFail_80 : decode cX6_triesFail 80 = .ok (.iload_n 2, 1) := by decide +kernel
theorem dX6_triesFail_81 : decode cX6_triesFail 81 = .ok (.iconst (-1), 1) := by decide +kernel
theorem dX6_triesFail_82 : decode cX6_triesFail 82 = .ok (.if_icmp .eq 14, 3) := by decide +kernel
theorem dX6_triesFail_85 : decode cX6_triesFail 85 = .ok (.aload_n 0, 1) := by decide +kernel
theorem dX6_triesFail_86 : decode cX6_triesFail 86 = .ok (.getfield 60, 3) := by decide +kernel
theorem dX6_triesFail_89 : decode cX6_triesFail 89 = .ok (.iload_n 2, 1) := by decide +kernel
theorem dX6_triesFail_90 : decode cX6_triesFail 90 = .ok (.caload, 1) := by decide +kernel
theorem dX6_triesFail_91 : decode cX6_triesFail 91 = .ok (.bipush 111, 2) := by decide +kernel
theorem dX6_triesFail_93 : decode cX6_triesFail 93 = .ok (.if_icmp .eq 4, 3) := by decide +kernel
theorem dX6_triesFail_96 : decode cX6_triesFail 96 = .ok (.return_, 1) := by decide +kernel
theorem dX6_triesFail_97 : decode cX6_triesFail 97 = .ok (.aload_n 0, 1) := by decide +kernel
theorem dX6_triesFail_98 : decode cX6_triesFail 98 = .ok (.getfield 60, 3) := by decide +kernel
theorem dX6_triesFail_101 : decode cX6_triesFail 101 = .ok (.iload_n 2, 1) := by decide +kernel
theorem dX6_triesFail_102 : decode cX6_triesFail 102 = .ok (.bipush 119, 2) := by decide +kernel
theorem dX6_triesFail_104 : decode cX6_triesFail 104 = .ok (.castore, 1) := by decide +kernel
theorem dX6_triesFail_105 : decode cX6_triesFail 105 = .ok (.aload_n 0, 1) := by decide +kernel
theorem dX6_triesFail_106 : decode cX6_triesFail 106 = .ok (.bipush 101, 2) := by decide +kernel
theorem dX6_triesFail_108 : decode cX6_triesFail 108 = .ok (.iload_n 2, 1) := by decide +kernel
theorem dX6_triesFail_109 : decode cX6_triesFail 109 = .ok (.iconst (-1), 1) := by decide +kernel
theorem dX6_triesFail_110 : decode cX6_triesFail 110 = .ok (.invokevirtual 188, 3) := by decide +kernel
theorem dX6_triesFail_113 : decode cX6_triesFail 113 = .ok (.return_, 1) := by decide +kernel
theorem dX6_finish_0 : decode cX6_finish 0 = .ok (.aload_n 0, 1) := by decide +kernel
theorem dX6_finish_1 : decode cX6_finish 1 = .ok (.iconst 0, 1) := by decide +kernel
theorem dX6_finish_2 : decode cX6_finish 2 = .ok (.putfield 97, 3) := by decide +kernel
theorem dX6_finish_5 : decode cX6_finish 5 = .ok (.aload_n 0, 1) := by decide +kernel
theorem dX6_finish_6 : decode cX6_finish 6 = .ok (.iload_n 1, 1) := by decide +kernel
theorem dX6_finish_7 : decode cX6_finish 7 = .ok (.invokevirtual 114, 3) := by decide +kernel
theorem dX6_finish_10 : decode cX6_finish 10 = .ok (.ifCond .ne 10, 3) := by decide +kernel
theorem dX6_finish_13 : decode cX6_finish 13 = .ok (.aload_n 0, 1) := by decide +kernel
theorem dX6_finish_14 : decode cX6_finish 14 = .ok (.iconst 1, 1) := by decide +kernel
theorem dX6_finish_15 : decode cX6_finish 15 = .ok (.invokevirtual 110, 3) := by decide +kernel
theorem dX6_finish_18 : decode cX6_finish 18 = .ok (.i2c, 1) := by decide +kernel
theorem dX6_finish_19 : decode cX6_finish 19 = .ok (.ireturn, 1) := by decide +kernel
theorem dX6_finish_20 : decode cX6_finish 20 = .ok (.aload_n 0, 1) := by decide +kernel
theorem dX6_finish_21 : decode cX6_finish 21 = .ok (.iload_n 1, 1) := by decide +kernel
theorem dX6_finish_22 : decode cX6_finish 22 = .ok (.invokevirtual 121, 3) := by decide +kernel
theorem dX6_finish_25 : decode cX6_finish 25 = .ok (.istore_n 3, 1) := by decide +kernel
theorem dX6_finish_26 : decode cX6_finish 26 = .ok (.iload_n 3, 1) := by decide +kernel
theorem dX6_finish_27 : decode cX6_finish 27 = .ok (.iconst (-1), 1) := by decide +kernel
theorem dX6_finish_28 : decode cX6_finish 28 = .ok (.if_icmp .ne 10, 3) := by decide +kernel
theorem dX6_finish_31 : decode cX6_finish 31 = .ok (.aload_n 0, 1) := by decide +kernel
theorem dX6_finish_32 : decode cX6_finish 32 = .ok (.iconst 2, 1) := by decide +kernel
theorem dX6_finish_33 : decode cX6_finish 33 = .ok (.invokevirtual 110, 3) := by decide +kernel
theorem dX6_finish_36 : decode cX6_finish 36 = .ok (.i2c, 1) := by decide +kernel
theorem dX6_finish_37 : decode cX6_finish 37 = .ok (.ireturn, 1) := by decide +kernel
theorem dX6_finish_38 : decode cX6_finish 38 = .ok (.aload_n 0, 1) := by decide +kernel
theorem dX6_finish_39 : decode cX6_finish 39 = .ok (.getfield 69, 3) := by decide +kernel
theorem dX6_finish_42 : decode cX6_finish 42 = .ok (.iload_n 3, 1) := by decide +kernel
theorem dX6_finish_43 : decode cX6_finish 43 = .ok (.iaload, 1) := by decide +kernel
theorem dX6_finish_44 : decode cX6_finish 44 = .ok (.aload_n 0, 1) := by decide +kernel
theorem dX6_finish_45 : decode cX6_finish 45 = .ok (.getfield 19, 3) := by decide +kernel
theorem dX6_finish_48 : decode cX6_finish 48 = .ok (.iload_n 3, 1) := by decide +kernel
theorem dX6_finish_49 : decode cX6_finish 49 = .ok (.iaload, 1) := by decide +kernel
theorem dX6_finish_50 : decode cX6_finish 50 = .ok (.if_icmp .lt 11, 3) := by decide +kernel
theorem dX6_finish_53 : decode cX6_finish 53 = .ok (.iload_n 1, 1) := by decide +kernel
theorem dX6_finish_54 : decode cX6_finish 54 = .ok (.aload_n 0, 1) := by decide +kernel
theorem dX6_finish_55 : decode cX6_finish 55 = .ok (.getfield 75, 3) := by decide +kernel
theorem dX6_finish_58 : decode cX6_finish 58 = .ok (.if_icmp .ne 10, 3) := by decide +kernel
theorem dX6_finish_61 : decode cX6_finish 61 = .ok (.aload_n 0, 1) := by decide +kernel
theorem dX6_finish_62 : decode cX6_finish 62 = .ok (.iconst 3, 1) := by decide +kernel
theorem dX6_finish_63 : decode cX6_finish 63 = .ok (.invokevirtual 110, 3) := by decide +kernel
theorem dX6_finish_66 : decode cX6_finish 66 = .ok (.i2c, 1) := by decide +kernel
theorem dX6_finish_67 : decode cX6_finish 67 = .ok (.ireturn, 1) := by decide +kernel
theorem dX6_finish_68 : decode cX6_finish 68 = .ok (.iload_n 2, 1) := by decide +kernel
theorem dX6_finish_69 : decode cX6_finish 69 = .ok (.ifCond .eq 42, 3) := by decide +kernel
theorem dX6_finish_72 : decode cX6_finish 72 = .ok (.aload_n 0, 1) := by decide +kernel
theorem dX6_finish_73 : decode cX6_finish 73 = .ok (.getfield 60, 3) := by decide +kernel
theorem dX6_finish_76 : decode cX6_finish 76 = .ok (.iload_n 3, 1) := by decide +kernel
theorem dX6_finish_77 : decode cX6_finish 77 = .ok (.bipush 100, 2) := by decide +kernel
theorem dX6_finish_79 : decode cX6_finish 79 = .ok (.castore, 1) := by decide +kernel
theorem dX6_finish_80 : decode cX6_finish 80 = .ok (.aload_n 0, 1) := by decide +kernel
theorem dX6_finish_81 : decode cX6_finish 81 = .ok (.getfield 72, 3) := by decide +kernel
theorem dX6_finish_84 : decode cX6_finish 84 = .ok (.aload_n 0, 1) := by decide +kernel
theorem dX6_finish_85 : decode cX6_finish 85 = .ok (.getfield 171, 3) := by decide +kernel
theorem dX6_finish_88 : decode cX6_finish 88 = .ok (.iload_n 3, 1) := by decide +kernel
theorem dX6_finish_89 : decode cX6_finish 89 = .ok (.iastore, 1) := by decide +kernel
theorem dX6_finish_90 : decode cX6_finish 90 = .ok (.aload_n 0, 1) := by decide +kernel
theorem dX6_finish_91 : decode cX6_finish 91 = .ok (.dup, 1) := by decide +kernel
theorem dX6_finish_92 : decode cX6_finish 92 = .ok (.getfield 171, 3) := by decide +kernel
theorem dX6_finish_95 : decode cX6_finish 95 = .ok (.iconst 1, 1) := by decide +kernel
theorem dX6_finish_96 : decode cX6_finish 96 = .ok (.iadd, 1) := by decide +kernel
theorem dX6_finish_97 : decode cX6_finish 97 = .ok (.putfield 171, 3) := by decide +kernel
theorem dX6_finish_100 : decode cX6_finish 100 = .ok (.aload_n 0, 1) := by decide +kernel
theorem dX6_finish_101 : decode cX6_finish 101 = .ok (.bipush 100, 2) := by decide +kernel
theorem dX6_finish_103 : decode cX6_finish 103 = .ok (.iload_n 3, 1) := by decide +kernel
theorem dX6_finish_104 : decode cX6_finish 104 = .ok (.iconst (-1), 1) := by decide +kernel
theorem dX6_finish_105 : decode cX6_finish 105 = .ok (.invokevirtual 188, 3) := by decide +kernel
theorem dX6_finish_108 : decode cX6_finish 108 = .ok (.goto 8, 3) := by decide +kernel
theorem dX6_finish_111 : decode cX6_finish 111 = .ok (.aload_n 0, 1) := by decide +kernel
theorem dX6_finish_112 : decode cX6_finish 112 = .ok (.iload_n 3, 1) := by decide +kernel
theorem dX6_finish_113 : decode cX6_finish 113 = .ok (.invokevirtual 192, 3) := by decide +kernel
theorem dX6_finish_116 : decode cX6_finish 116 = .ok (.aload_n 0, 1) := by decide +kernel
theorem dX6_finish_117 : decode cX6_finish 117 = .ok (.getfield 60, 3) := by decide +kernel
theorem dX6_finish_120 : decode cX6_finish 120 = .ok (.iload_n 3, 1) := by decide +kernel
theorem dX6_finish_121 : decode cX6_finish 121 = .ok (.caload, 1) := by decide +kernel
theorem dX6_finish_122 : decode cX6_finish 122 = .ok (.ireturn, 1) := by decide +kernel
theorem dX6_handOver_0 : decode cX6_handOver 0 = .ok (.aload_n 0, 1) := by decide +kernel
theorem dX6_handOver_1 : decode cX6_handOver 1 = .ok (.iconst 0, 1) := by decide +kernel
theorem dX6_handOver_2 : decode cX6_handOver 2 = .ok (.putfield 97, 3) := by decide +kernel
theorem dX6_handOver_5 : decode cX6_handOver 5 = .ok (.aload_n 0, 1) := by decide +kernel
theorem dX6_handOver_6 : decode cX6_handOver 6 = .ok (.iload_n 1, 1) := by decide +kernel
theorem dX6_handOver_7 : decode cX6_handOver 7 = .ok (.invokevirtual 114, 3) := by decide +kernel
theorem dX6_handOver_10 : decode cX6_handOver 10 = .ok (.ifCond .eq 11, 3) := by decide +kernel
theorem dX6_handOver_13 : decode cX6_handOver 13 = .ok (.aload_n 0, 1) := by decide +kernel
theorem dX6_handOver_14 : decode cX6_handOver 14 = .ok (.iload_n 2, 1) := by decide +kernel
theorem dX6_handOver_15 : decode cX6_handOver 15 = .ok (.invokevirtual 114, 3) := by decide +kernel
theorem dX6_handOver_18 : decode cX6_handOver 18 = .ok (.ifCond .ne 9, 3) := by decide +kernel
theorem dX6_handOver_21 : decode cX6_handOver 21 = .ok (.aload_n 0, 1) := by decide +kernel
theorem dX6_handOver_22 : decode cX6_handOver 22 = .ok (.iconst 1, 1) := by decide +kernel
theorem dX6_handOver_23 : decode cX6_handOver 23 = .ok (.invokevirtual 110, 3) := by decide +kernel
theorem dX6_handOver_26 : decode cX6_handOver 26 = .ok (.ireturn, 1) := by decide +kernel
theorem dX6_handOver_27 : decode cX6_handOver 27 = .ok (.iload_n 1, 1) := by decide +kernel
theorem dX6_handOver_28 : decode cX6_handOver 28 = .ok (.iload_n 2, 1) := by decide +kernel
theorem dX6_handOver_29 : decode cX6_handOver 29 = .ok (.if_icmp .ne 9, 3) := by decide +kernel
theorem dX6_handOver_32 : decode cX6_handOver 32 = .ok (.aload_n 0, 1) := by decide +kernel
theorem dX6_handOver_33 : decode cX6_handOver 33 = .ok (.iconst 2, 1) := by decide +kernel
theorem dX6_handOver_34 : decode cX6_handOver 34 = .ok (.invokevirtual 110, 3) := by decide +kernel
theorem dX6_handOver_37 : decode cX6_handOver 37 = .ok (.ireturn, 1) := by decide +kernel
theorem dX6_handOver_38 : decode cX6_handOver 38 = .ok (.aload_n 0, 1) := by decide +kernel
theorem dX6_handOver_39 : decode cX6_handOver 39 = .ok (.getfield 124, 3) := by decide +kernel
theorem dX6_handOver_42 : decode cX6_handOver 42 = .ok (.ifCond .eq 11, 3) := by decide +kernel
theorem dX6_handOver_45 : decode cX6_handOver 45 = .ok (.aload_n 0, 1) := by decide +kernel
theorem dX6_handOver_46 : decode cX6_handOver 46 = .ok (.getfield 75, 3) := by decide +kernel
theorem dX6_handOver_49 : decode cX6_handOver 49 = .ok (.iconst (-1), 1) := by decide +kernel
theorem dX6_handOver_50 : decode cX6_handOver 50 = .ok (.if_icmp .eq 9, 3) := by decide +kernel
theorem dX6_handOver_53 : decode cX6_handOver 53 = .ok (.aload_n 0, 1) := by decide +kernel
theorem dX6_handOver_54 : decode cX6_handOver 54 = .ok (.iconst 3, 1) := by decide +kernel
theorem dX6_handOver_55 : decode cX6_handOver 55 = .ok (.invokevirtual 110, 3) := by decide +kernel
theorem dX6_handOver_58 : decode cX6_handOver 58 = .ok (.ireturn, 1) := by decide +kernel
theorem dX6_handOver_59 : decode cX6_handOver 59 = .ok (.aload_n 0, 1) := by decide +kernel
theorem dX6_handOver_60 : decode cX6_handOver 60 = .ok (.getfield 50, 3) := by decide +kernel
theorem dX6_handOver_63 : decode cX6_handOver 63 = .ok (.iload_n 1, 1) := by decide +kernel
theorem dX6_handOver_64 : decode cX6_handOver 64 = .ok (.baload, 1) := by decide +kernel
theorem dX6_handOver_65 : decode cX6_handOver 65 = .ok (.ifCond .eq 43, 3) := by decide +kernel
theorem dX6_handOver_68 : decode cX6_handOver 68 = .ok (.aload_n 0, 1) := by decide +kernel
theorem dX6_handOver_69 : decode cX6_handOver 69 = .ok (.getfield 50, 3) := by decide +kernel
theorem dX6_handOver_72 : decode cX6_handOver 72 = .ok (.iload_n 2, 1) := by decide +kernel
theorem dX6_handOver_73 : decode cX6_handOver 73 = .ok (.baload, 1) := by decide +kernel
theorem dX6_handOver_74 : decode cX6_handOver 74 = .ok (.ifCond .ne 34, 3) := by decide +kernel
theorem dX6_handOver_77 : decode cX6_handOver 77 = .ok (.aload_n 0, 1) := by decide +kernel
theorem dX6_handOver_78 : decode cX6_handOver 78 = .ok (.iload_n 1, 1) := by decide +kernel
theorem dX6_handOver_79 : decode cX6_handOver 79 = .ok (.invokevirtual 121, 3) := by decide +kernel
theorem dX6_handOver_82 : decode cX6_handOver 82 = .ok (.iconst (-1), 1) := by decide +kernel
theorem dX6_handOver_83 : decode cX6_handOver 83 = .ok (.if_icmp .eq 31, 3) := by decide +kernel
theorem dX6_handOver_86 : decode cX6_handOver 86 = .ok (.aload_n 0, 1) := by decide +kernel
theorem dX6_handOver_87 : decode cX6_handOver 87 = .ok (.getfield 9, 3) := by decide +kernel
theorem dX6_handOver_90 : decode cX6_handOver 90 = .ok (.iload_n 2, 1) := by decide +kernel
theorem dX6_handOver_91 : decode cX6_handOver 91 = .ok (.iaload, 1) := by decide +kernel
theorem dX6_handOver_92 : decode cX6_handOver 92 = .ok (.aload_n 0, 1) := by decide +kernel
theorem dX6_handOver_93 : decode cX6_handOver 93 = .ok (.getfield 16, 3) := by decide +kernel
theorem dX6_handOver_96 : decode cX6_handOver 96 = .ok (.aload_n 0, 1) := by decide +kernel
theorem dX6_handOver_97 : decode cX6_handOver 97 = .ok (.iload_n 1, 1) := by decide +kernel
theorem dX6_handOver_98 : decode cX6_handOver 98 = .ok (.invokevirtual 121, 3) := by decide +kernel
theorem dX6_handOver_101 : decode cX6_handOver 101 = .ok (.iaload, 1) := by decide +kernel
theorem dX6_handOver_102 : decode cX6_handOver 102 = .ok (.invokestatic 128, 3) := by decide +kernel
theorem dX6_handOver_105 : decode cX6_handOver 105 = .ok (.ifCond .ne 9, 3) := by decide +kernel
theorem dX6_handOver_108 : decode cX6_handOver 108 = .ok (.aload_n 0, 1) := by decide +kernel
theorem dX6_handOver_109 : decode cX6_handOver 109 = .ok (.iconst 4, 1) := by decide +kernel
theorem dX6_handOver_110 : decode cX6_handOver 110 = .ok (.invokevirtual 110, 3) := by decide +kernel
theorem dX6_handOver_113 : decode cX6_handOver 113 = .ok (.ireturn, 1) := by decide +kernel
theorem dX6_handOver_114 : decode cX6_handOver 114 = .ok (.aload_n 0, 1) := by decide +kernel
theorem dX6_handOver_115 : decode cX6_handOver 115 = .ok (.iload_n 1, 1) := by decide +kernel
theorem dX6_handOver_116 : decode cX6_handOver 116 = .ok (.putfield 75, 3) := by decide +kernel
theorem dX6_handOver_119 : decode cX6_handOver 119 = .ok (.aload_n 0, 1) := by decide +kernel
theorem dX6_handOver_120 : decode cX6_handOver 120 = .ok (.iload_n 2, 1) := by decide +kernel
theorem dX6_handOver_121 : decode cX6_handOver 121 = .ok (.putfield 79, 3) := by decide +kernel
theorem dX6_handOver_124 : decode cX6_handOver 124 = .ok (.aload_n 0, 1) := by decide +kernel
theorem dX6_handOver_125 : decode cX6_handOver 125 = .ok (.aload_n 0, 1) := by decide +kernel
theorem dX6_handOver_126 : decode cX6_handOver 126 = .ok (.getfield 147, 3) := by decide +kernel
theorem dX6_handOver_129 : decode cX6_handOver 129 = .ok (.bipush 10, 2) := by decide +kernel
theorem dX6_handOver_131 : decode cX6_handOver 131 = .ok (.iadd, 1) := by decide +kernel
theorem dX6_handOver_132 : decode cX6_handOver 132 = .ok (.putfield 196, 3) := by decide +kernel
theorem dX6_handOver_135 : decode cX6_handOver 135 = .ok (.aload_n 0, 1) := by decide +kernel
theorem dX6_handOver_136 : decode cX6_handOver 136 = .ok (.bipush 104, 2) := by decide +kernel
theorem dX6_handOver_138 : decode cX6_handOver 138 = .ok (.iconst (-1), 1) := by decide +kernel
theorem dX6_handOver_139 : decode cX6_handOver 139 = .ok (.iload_n 1, 1) := by decide +kernel
theorem dX6_handOver_140 : decode cX6_handOver 140 = .ok (.invokevirtual 188, 3) := by decide +kernel
theorem dX6_handOver_143 : decode cX6_handOver 143 = .ok (.aload_n 0, 1) := by decide +kernel
theorem dX6_handOver_144 : decode cX6_handOver 144 = .ok (.getfield 196, 3) := by decide +kernel
theorem dX6_handOver_147 : decode cX6_handOver 147 = .ok (.ireturn, 1) := by decide +kernel
theorem dX6_undo_0 : decode cX6_undo 0 = .ok (.aload_n 0, 1) := by decide +kernel
theorem dX6_undo_1 : decode cX6_undo 1 = .ok (.iconst 0, 1) := by decide +kernel
theorem dX6_undo_2 : decode cX6_undo 2 = .ok (.putfield 97, 3) := by decide +kernel
theorem dX6_undo_5 : decode cX6_undo 5 = .ok (.aload_n 0, 1) := by decide +kernel
theorem dX6_undo_6 : decode cX6_undo 6 = .ok (.iload_n 1, 1) := by decide +kernel
theorem dX6_undo_7 : decode cX6_undo 7 = .ok (.invokevirtual 132, 3) := by decide +kernel
theorem dX6_undo_10 : decode cX6_undo 10 = .ok (.ifCond .ne 9, 3) := by decide +kernel
theorem dX6_undo_13 : decode cX6_undo 13 = .ok (.aload_n 0, 1) := by decide +kernel
theorem dX6_undo_14 : decode cX6_undo 14 = .ok (.iconst 1, 1) := by decide +kernel
theorem dX6_undo_15 : decode cX6_undo 15 = .ok (.invokevirtual 110, 3) := by decide +kernel
theorem dX6_undo_18 : decode cX6_undo 18 = .ok (.ireturn, 1) := by decide +kernel
theorem dX6_undo_19 : decode cX6_undo 19 = .ok (.aload_n 0, 1) := by decide +kernel
theorem dX6_undo_20 : decode cX6_undo 20 = .ok (.getfield 124, 3) := by decide +kernel
theorem dX6_undo_23 : decode cX6_undo 23 = .ok (.ifCond .eq 23, 3) := by decide +kernel
theorem dX6_undo_26 : decode cX6_undo 26 = .ok (.aload_n 0, 1) := by decide +kernel
theorem dX6_undo_27 : decode cX6_undo 27 = .ok (.bipush 97, 2) := by decide +kernel
theorem dX6_undo_29 : decode cX6_undo 29 = .ok (.invokevirtual 178, 3) := by decide +kernel
theorem dX6_undo_32 : decode cX6_undo 32 = .ok (.ifCond .gt 14, 3) := by decide +kernel
theorem dX6_undo_35 : decode cX6_undo 35 = .ok (.aload_n 0, 1) := by decide +kernel
theorem dX6_undo_36 : decode cX6_undo 36 = .ok (.getfield 60, 3) := by decide +kernel
theorem dX6_undo_39 : decode cX6_undo 39 = .ok (.iload_n 1, 1) := by decide +kernel
theorem dX6_undo_40 : decode cX6_undo 40 = .ok (.caload, 1) := by decide +kernel
theorem dX6_undo_41 : decode cX6_undo 41 = .ok (.bipush 100, 2) := by decide +kernel
theorem dX6_undo_43 : decode cX6_undo 43 = .ok (.if_icmp .eq 9, 3) := by decide +kernel
theorem dX6_undo_46 : decode cX6_undo 46 = .ok (.aload_n 0, 1) := by decide +kernel
theorem dX6_undo_47 : decode cX6_undo 47 = .ok (.iconst 2, 1) := by decide +kernel
theorem dX6_undo_48 : decode cX6_undo 48 = .ok (.invokevirtual 110, 3) := by decide +kernel
theorem dX6_undo_51 : decode cX6_undo 51 = .ok (.ireturn, 1) := by decide +kernel
theorem dX6_undo_52 : decode cX6_undo 52 = .ok (.aload_n 0, 1) := by decide +kernel
theorem dX6_undo_53 : decode cX6_undo 53 = .ok (.getfield 171, 3) := by decide +kernel
theorem dX6_undo_56 : decode cX6_undo 56 = .ok (.iconst 1, 1) := by decide +kernel
theorem dX6_undo_57 : decode cX6_undo 57 = .ok (.isub, 1) := by decide +kernel
theorem dX6_undo_58 : decode cX6_undo 58 = .ok (.istore_n 2, 1) := by decide +kernel
theorem dX6_undo_59 : decode cX6_undo 59 = .ok (.iconst 1, 1) := by decide +kernel
theorem dX6_undo_60 : decode cX6_undo 60 = .ok (.istore_n 3, 1) := by decide +kernel
theorem dX6_undo_61 : decode cX6_undo 61 = .ok (.aload_n 0, 1) := by decide +kernel
theorem dX6_undo_62 : decode cX6_undo 62 = .ok (.getfield 72, 3) := by decide +kernel
theorem dX6_undo_65 : decode cX6_undo 65 = .ok (.iload_n 2, 1) := by decide +kernel
theorem dX6_undo_66 : decode cX6_undo 66 = .ok (.iaload, 1) := by decide +kernel
theorem dX6_undo_67 : decode cX6_undo 67 = .ok (.iload_n 1, 1) := by decide +kernel
theorem dX6_undo_68 : decode cX6_undo 68 = .ok (.if_icmp .eq 23, 3) := by decide +kernel
theorem dX6_undo_71 : decode cX6_undo 71 = .ok (.iload_n 3, 1) := by decide +kernel
theorem dX6_undo_72 : decode cX6_undo 72 = .ok (.aload_n 0, 1) := by decide +kernel
theorem dX6_undo_73 : decode cX6_undo 73 = .ok (.getfield 54, 3) := by decide +kernel
theorem dX6_undo_76 : decode cX6_undo 76 = .ok (.aload_n 0, 1) := by decide +kernel
theorem dX6_undo_77 : decode cX6_undo 77 = .ok (.getfield 72, 3) := by decide +kernel
theorem dX6_undo_80 : decode cX6_undo 80 = .ok (.iload_n 2, 1) := by decide +kernel
theorem dX6_undo_81 : decode cX6_undo 81 = .ok (.iaload, 1) := by decide +kernel
theorem dX6_undo_82 : decode cX6_undo 82 = .ok (.baload, 1) := by decide +kernel
theorem dX6_undo_83 : decode cX6_undo 83 = .ok (.iand, 1) := by decide +kernel
theorem dX6_undo_84 : decode cX6_undo 84 = .ok (.istore_n 3, 1) := by decide +kernel
theorem dX6_undo_85 : decode cX6_undo 85 = .ok (.iinc 2 (-1), 3) := by decide +kernel
theorem dX6_undo_88 : decode cX6_undo 88 = .ok (.goto (-27), 3) := by decide +kernel
theorem dX6_undo_91 : decode cX6_undo 91 = .ok (.iload_n 3, 1) := by decide +kernel
theorem dX6_undo_92 : decode cX6_undo 92 = .ok (.ifCond .eq 12, 3) := by decide +kernel
theorem dX6_undo_95 : decode cX6_undo 95 = .ok (.aload_n 0, 1) := by decide +kernel
theorem dX6_undo_96 : decode cX6_undo 96 = .ok (.getfield 54, 3) := by decide +kernel
theorem dX6_undo_99 : decode cX6_undo 99 = .ok (.iload_n 1, 1) := by decide +kernel
theorem dX6_undo_100 : decode cX6_undo 100 = .ok (.baload, 1) := by decide +kernel
theorem dX6_undo_101 : decode cX6_undo 101 = .ok (.ifCond .ne 9, 3) := by decide +kernel
theorem dX6_undo_104 : decode cX6_undo 104 = .ok (.aload_n 0, 1) := by decide +kernel
theorem dX6_undo_105 : decode cX6_undo 105 = .ok (.iconst 3, 1) := by decide +kernel
theorem dX6_undo_106 : decode cX6_undo 106 = .ok (.invokevirtual 110, 3) := by decide +kernel
theorem dX6_undo_109 : decode cX6_undo 109 = .ok (.ireturn, 1) := by decide +kernel
theorem dX6_undo_110 : decode cX6_undo 110 = .ok (.aload_n 0, 1) := by decide +kernel
theorem dX6_undo_111 : decode cX6_undo 111 = .ok (.getfield 171, 3) := by decide +kernel
theorem dX6_undo_114 : decode cX6_undo 114 = .ok (.iload_n 2, 1) := by decide +kernel
theorem dX6_undo_115 : decode cX6_undo 115 = .ok (.isub, 1) := by decide +kernel
theorem dX6_undo_116 : decode cX6_undo 116 = .ok (.istore 4, 2) := by decide +kernel
theorem dX6_undo_118 : decode cX6_undo 118 = .ok (.aload_n 0, 1) := by decide +kernel
theorem dX6_undo_119 : decode cX6_undo 119 = .ok (.getfield 171, 3) := by decide +kernel
theorem dX6_undo_122 : decode cX6_undo 122 = .ok (.iload_n 2, 1) := by decide +kernel
theorem dX6_undo_123 : decode cX6_undo 123 = .ok (.if_icmp .le 53, 3) := by decide +kernel
theorem dX6_undo_126 : decode cX6_undo 126 = .ok (.aload_n 0, 1) := by decide +kernel
theorem dX6_undo_127 : decode cX6_undo 127 = .ok (.dup, 1) := by decide +kernel
theorem dX6_undo_128 : decode cX6_undo 128 = .ok (.getfield 171, 3) := by decide +kernel
theorem dX6_undo_131 : decode cX6_undo 131 = .ok (.iconst 1, 1) := by decide +kernel
theorem dX6_undo_132 : decode cX6_undo 132 = .ok (.isub, 1) := by decide +kernel
theorem dX6_undo_133 : decode cX6_undo 133 = .ok (.putfield 171, 3) := by decide +kernel
theorem dX6_undo_136 : decode cX6_undo 136 = .ok (.aload_n 0, 1) := by decide +kernel
theorem dX6_undo_137 : decode cX6_undo 137 = .ok (.getfield 72, 3) := by decide +kernel
theorem dX6_undo_140 : decode cX6_undo 140 = .ok (.aload_n 0, 1) := by decide +kernel
theorem dX6_undo_141 : decode cX6_undo 141 = .ok (.getfield 171, 3) := by decide +kernel
theorem dX6_undo_144 : decode cX6_undo 144 = .ok (.iaload, 1) := by decide +kernel
theorem dX6_undo_145 : decode cX6_undo 145 = .ok (.istore 5, 2) := by decide +kernel
theorem dX6_undo_147 : decode cX6_undo 147 = .ok (.aload_n 0, 1) := by decide +kernel
theorem dX6_undo_148 : decode cX6_undo 148 = .ok (.getfield 60, 3) := by decide +kernel
theorem dX6_undo_151 : decode cX6_undo 151 = .ok (.iload 5, 2) := by decide +kernel
theorem dX6_undo_153 : decode cX6_undo 153 = .ok (.bipush 119, 2) := by decide +kernel
theorem dX6_undo_155 : decode cX6_undo 155 = .ok (.castore, 1) := by decide +kernel
theorem dX6_undo_156 : decode cX6_undo 156 = .ok (.aload_n 0, 1) := by decide +kernel
theorem dX6_undo_157 : decode cX6_undo 157 = .ok (.getfield 63, 3) := by decide +kernel
theorem dX6_undo_160 : decode cX6_undo 160 = .ok (.iload 5, 2) := by decide +kernel
theorem dX6_undo_162 : decode cX6_undo 162 = .ok (.iconst 0, 1) := by decide +kernel
theorem dX6_undo_163 : decode cX6_undo 163 = .ok (.iastore, 1) := by decide +kernel
theorem dX6_undo_164 : decode cX6_undo 164 = .ok (.aload_n 0, 1) := by decide +kernel
theorem dX6_undo_165 : decode cX6_undo 165 = .ok (.bipush 117, 2) := by decide +kernel
theorem dX6_undo_167 : decode cX6_undo 167 = .ok (.iload 5, 2) := by decide +kernel
theorem dX6_undo_169 : decode cX6_undo 169 = .ok (.iconst (-1), 1) := by decide +kernel
theorem dX6_undo_170 : decode cX6_undo 170 = .ok (.invokevirtual 188, 3) := by decide +kernel
theorem dX6_undo_173 : decode cX6_undo 173 = .ok (.goto (-55), 3) := by decide +kernel
theorem dX6_undo_176 : decode cX6_undo 176 = .ok (.iload 4, 2) := by decide +kernel
theorem dX6_undo_178 : decode cX6_undo 178 = .ok (.ireturn, 1) := by decide +kernel
theorem dX6_handsOver_0 : decode cX6_handsOver 0 = .ok (.aload_n 0, 1) := by decide +kernel
theorem dX6_handsOver_1 : decode cX6_handsOver 1 = .ok (.aload_n 0, 1) := by decide +kernel
theorem dX6_handsOver_2 : decode cX6_handsOver 2 = .ok (.getfield 75, 3) := by decide +kernel
theorem dX6_handsOver_5 : decode cX6_handsOver 5 = .ok (.invokevirtual 121, 3) := by decide +kernel
theorem dX6_handsOver_8 : decode cX6_handsOver 8 = .ok (.istore_n 1, 1) := by decide +kernel
theorem dX6_handsOver_9 : decode cX6_handsOver 9 = .ok (.aload_n 0, 1) := by decide +kernel
theorem dX6_handsOver_10 : decode cX6_handsOver 10 = .ok (.getfield 50, 3) := by decide +kernel
theorem dX6_handsOver_13 : decode cX6_handsOver 13 = .ok (.aload_n 0, 1) := by decide +kernel
theorem dX6_handsOver_14 : decode cX6_handsOver 14 = .ok (.getfield 75, 3) := by decide +kernel
theorem dX6_handsOver_17 : decode cX6_handsOver 17 = .ok (.iconst 0, 1) := by decide +kernel
theorem dX6_handsOver_18 : decode cX6_handsOver 18 = .ok (.bastore, 1) := by decide +kernel
theorem dX6_handsOver_19 : decode cX6_handsOver 19 = .ok (.aload_n 0, 1) := by decide +kernel
theorem dX6_handsOver_20 : decode cX6_handsOver 20 = .ok (.getfield 50, 3) := by decide +kernel
theorem dX6_handsOver_23 : decode cX6_handsOver 23 = .ok (.aload_n 0, 1) := by decide +kernel
theorem dX6_handsOver_24 : decode cX6_handsOver 24 = .ok (.getfield 79, 3) := by decide +kernel
theorem dX6_handsOver_27 : decode cX6_handsOver 27 = .ok (.iconst 1, 1) := by decide +kernel
theorem dX6_handsOver_28 : decode cX6_handsOver 28 = .ok (.bastore, 1) := by decide +kernel
theorem dX6_handsOver_29 : decode cX6_handsOver 29 = .ok (.iload_n 1, 1) := by decide +kernel
theorem dX6_handsOver_30 : decode cX6_handsOver 30 = .ok (.iconst (-1), 1) := by decide +kernel
theorem dX6_handsOver_31 : decode cX6_handsOver 31 = .ok (.if_icmp .eq 13, 3) := by decide +kernel
theorem dX6_handsOver_34 : decode cX6_handsOver 34 = .ok (.aload_n 0, 1) := by decide +kernel
theorem dX6_handsOver_35 : decode cX6_handsOver 35 = .ok (.getfield 66, 3) := by decide +kernel
theorem dX6_handsOver_38 : decode cX6_handsOver 38 = .ok (.iload_n 1, 1) := by decide +kernel
theorem dX6_handsOver_39 : decode cX6_handsOver 39 = .ok (.aload_n 0, 1) := by decide +kernel
theorem dX6_handsOver_40 : decode cX6_handsOver 40 = .ok (.getfield 79, 3) := by decide +kernel
theorem dX6_handsOver_43 : decode cX6_handsOver 43 = .ok (.iastore, 1) := by decide +kernel
theorem dX6_handsOver_44 : decode cX6_handsOver 44 = .ok (.aload_n 0, 1) := by decide +kernel
theorem dX6_handsOver_45 : decode cX6_handsOver 45 = .ok (.bipush 103, 2) := by decide +kernel
theorem dX6_handsOver_47 : decode cX6_handsOver 47 = .ok (.iload_n 1, 1) := by decide +kernel
theorem dX6_handsOver_48 : decode cX6_handsOver 48 = .ok (.aload_n 0, 1) := by decide +kernel
theorem dX6_handsOver_49 : decode cX6_handsOver 49 = .ok (.getfield 79, 3) := by decide +kernel
theorem dX6_handsOver_52 : decode cX6_handsOver 52 = .ok (.invokevirtual 188, 3) := by decide +kernel
theorem dX6_handsOver_55 : decode cX6_handsOver 55 = .ok (.aload_n 0, 1) := by decide +kernel
theorem dX6_handsOver_56 : decode cX6_handsOver 56 = .ok (.iconst (-1), 1) := by decide +kernel
theorem dX6_handsOver_57 : decode cX6_handsOver 57 = .ok (.putfield 75, 3) := by decide +kernel
theorem dX6_handsOver_60 : decode cX6_handsOver 60 = .ok (.aload_n 0, 1) := by decide +kernel
theorem dX6_handsOver_61 : decode cX6_handsOver 61 = .ok (.iconst (-1), 1) := by decide +kernel
theorem dX6_handsOver_62 : decode cX6_handsOver 62 = .ok (.putfield 79, 3) := by decide +kernel
theorem dX6_handsOver_65 : decode cX6_handsOver 65 = .ok (.return_, 1) := by decide +kernel
theorem dX6_minute_0 : decode cX6_minute 0 = .ok (.aload_n 0, 1) := by decide +kernel
theorem dX6_minute_1 : decode cX6_minute 1 = .ok (.dup, 1) := by decide +kernel
theorem dX6_minute_2 : decode cX6_minute 2 = .ok (.getfield 147, 3) := by decide +kernel
theorem dX6_minute_5 : decode cX6_minute 5 = .ok (.iconst 1, 1) := by decide +kernel
theorem dX6_minute_6 : decode cX6_minute 6 = .ok (.iadd, 1) := by decide +kernel
theorem dX6_minute_7 : decode cX6_minute 7 = .ok (.putfield 147, 3) := by decide +kernel
theorem dX6_minute_10 : decode cX6_minute 10 = .ok (.iconst 0, 1) := by decide +kernel
theorem dX6_minute_11 : decode cX6_minute 11 = .ok (.istore_n 1, 1) := by decide +kernel
theorem dX6_minute_12 : decode cX6_minute 12 = .ok (.iconst 0, 1) := by decide +kernel
theorem dX6_minute_13 : decode cX6_minute 13 = .ok (.istore_n 2, 1) := by decide +kernel
theorem dX6_minute_14 : decode cX6_minute 14 = .ok (.iload_n 2, 1) := by decide +kernel
theorem dX6_minute_15 : decode cX6_minute 15 = .ok (.aload_n 0, 1) := by decide +kernel
theorem dX6_minute_16 : decode cX6_minute 16 = .ok (.getfield 107, 3) := by decide +kernel
theorem dX6_minute_19 : decode cX6_minute 19 = .ok (.if_icmp .ge 56, 3) := by decide +kernel
theorem dX6_minute_22 : decode cX6_minute 22 = .ok (.aload_n 0, 1) := by decide +kernel
theorem dX6_minute_23 : decode cX6_minute 23 = .ok (.getfield 60, 3) := by decide +kernel
theorem dX6_minute_26 : decode cX6_minute 26 = .ok (.iload_n 2, 1) := by decide +kernel
theorem dX6_minute_27 : decode cX6_minute 27 = .ok (.caload, 1) := by decide +kernel
theorem dX6_minute_28 : decode cX6_minute 28 = .ok (.bipush 97, 2) := by decide +kernel
theorem dX6_minute_30 : decode cX6_minute 30 = .ok (.if_icmp .ne 39, 3) := by decide +kernel
theorem dX6_minute_33 : decode cX6_minute 33 = .ok (.aload_n 0, 1) := by decide +kernel
theorem dX6_minute_34 : decode cX6_minute 34 = .ok (.getfield 66, 3) := by decide +kernel
theorem dX6_minute_37 : decode cX6_minute 37 = .ok (.iload_n 2, 1) := by decide +kernel
theorem dX6_minute_38 : decode cX6_minute 38 = .ok (.iaload, 1) := by decide +kernel
theorem dX6_minute_39 : decode cX6_minute 39 = .ok (.aload_n 0, 1) := by decide +kernel
theorem dX6_minute_40 : decode cX6_minute 40 = .ok (.getfield 75, 3) := by decide +kernel
theorem dX6_minute_43 : decode cX6_minute 43 = .ok (.if_icmp .ne 6, 3) := by decide +kernel
theorem dX6_minute_46 : decode cX6_minute 46 = .ok (.goto 23, 3) := by decide +kernel
theorem dX6_minute_49 : decode cX6_minute 49 = .ok (.aload_n 0, 1) := by decide +kernel
theorem dX6_minute_50 : decode cX6_minute 50 = .ok (.getfield 69, 3) := by decide +kernel
theorem dX6_minute_53 : decode cX6_minute 53 = .ok (.iload_n 2, 1) := by decide +kernel
theorem dX6_minute_54 : decode cX6_minute 54 = .ok (.dup2, 1) := by decide +kernel
theorem dX6_minute_55 : decode cX6_minute 55 = .ok (.iaload, 1) := by decide +kernel
theorem dX6_minute_56 : decode cX6_minute 56 = .ok (.iconst 1, 1) := by decide +kernel
theorem dX6_minute_57 : decode cX6_minute 57 = .ok (.iadd, 1) := by decide +kernel
theorem dX6_minute_58 : decode cX6_minute 58 = .ok (.iastore, 1) := by decide +kernel
theorem dX6_minute_59 : decode cX6_minute 59 = .ok (.aload_n 0, 1) := by decide +kernel
theorem dX6_minute_60 : decode cX6_minute 60 = .ok (.dup, 1) := by decide +kernel
theorem dX6_minute_61 : decode cX6_minute 61 = .ok (.getfield 199, 3) := by decide +kernel
theorem dX6_minute_64 : decode cX6_minute 64 = .ok (.lconst 1, 1) := by decide +kernel
theorem dX6_minute_65 : decode cX6_minute 65 = .ok (.ladd, 1) := by decide +kernel
theorem dX6_minute_66 : decode cX6_minute 66 = .ok (.putfield 199, 3) := by decide +kernel
theorem dX6_minute_69 : decode cX6_minute 69 = .ok (.iinc 2 1, 3) := by decide +kernel
theorem dX6_minute_72 : decode cX6_minute 72 = .ok (.goto (-58), 3) := by decide +kernel
theorem dX6_minute_75 : decode cX6_minute 75 = .ok (.iconst 0, 1) := by decide +kernel
theorem dX6_minute_76 : decode cX6_minute 76 = .ok (.istore_n 2, 1) := by decide +kernel
theorem dX6_minute_77 : decode cX6_minute 77 = .ok (.iload_n 2, 1) := by decide +kernel
theorem dX6_minute_78 : decode cX6_minute 78 = .ok (.aload_n 0, 1) := by decide +kernel
theorem dX6_minute_79 : decode cX6_minute 79 = .ok (.getfield 107, 3) := by decide +kernel
theorem dX6_minute_82 : decode cX6_minute 82 = .ok (.if_icmp .ge 48, 3) := by decide +kernel
theorem dX6_minute_85 : decode cX6_minute 85 = .ok (.aload_n 0, 1) := by decide +kernel
theorem dX6_minute_86 : decode cX6_minute 86 = .ok (.getfield 60, 3) := by decide +kernel
theorem dX6_minute_89 : decode cX6_minute 89 = .ok (.iload_n 2, 1) := by decide +kernel
theorem dX6_minute_90 : decode cX6_minute 90 = .ok (.caload, 1) := by decide +kernel
theorem dX6_minute_91 : decode cX6_minute 91 = .ok (.bipush 97, 2) := by decide +kernel
theorem dX6_minute_93 : decode cX6_minute 93 = .ok (.if_icmp .ne 31, 3) := by decide +kernel
theorem dX6_minute_96 : decode cX6_minute 96 = .ok (.aload_n 0, 1) := by decide +kernel
theorem dX6_minute_97 : decode cX6_minute 97 = .ok (.getfield 69, 3) := by decide +kernel
theorem dX6_minute_100 : decode cX6_minute 100 = .ok (.iload_n 2, 1) := by decide +kernel
theorem dX6_minute_101 : decode cX6_minute 101 = .ok (.iaload, 1) := by decide +kernel
theorem dX6_minute_102 : decode cX6_minute 102 = .ok (.iconst 2, 1) := by decide +kernel
theorem dX6_minute_103 : decode cX6_minute 103 = .ok (.aload_n 0, 1) := by decide +kernel
theorem dX6_minute_104 : decode cX6_minute 104 = .ok (.getfield 19, 3) := by decide +kernel
theorem dX6_minute_107 : decode cX6_minute 107 = .ok (.iload_n 2, 1) := by decide +kernel
theorem dX6_minute_108 : decode cX6_minute 108 = .ok (.iaload, 1) := by decide +kernel
theorem dX6_minute_109 : decode cX6_minute 109 = .ok (.imul, 1) := by decide +kernel
theorem dX6_minute_110 : decode cX6_minute 110 = .ok (.if_icmp .eq 6, 3) := by decide +kernel
theorem dX6_minute_113 : decode cX6_minute 113 = .ok (.goto 11, 3) := by decide +kernel
theorem dX6_minute_116 : decode cX6_minute 116 = .ok (.aload_n 0, 1) := by decide +kernel
theorem dX6_minute_117 : decode cX6_minute 117 = .ok (.iload_n 2, 1) := by decide +kernel
theorem dX6_minute_118 : decode cX6_minute 118 = .ok (.invokevirtual 192, 3) := by decide +kernel
theorem dX6_minute_121 : decode cX6_minute 121 = .ok (.iinc 1 1, 3) := by decide +kernel
theorem dX6_minute_124 : decode cX6_minute 124 = .ok (.iinc 2 1, 3) := by decide +kernel
theorem dX6_minute_127 : decode cX6_minute 127 = .ok (.goto (-50), 3) := by decide +kernel
theorem dX6_minute_130 : decode cX6_minute 130 = .ok (.aload_n 0, 1) := by decide +kernel
theorem dX6_minute_131 : decode cX6_minute 131 = .ok (.getfield 75, 3) := by decide +kernel
theorem dX6_minute_134 : decode cX6_minute 134 = .ok (.iconst (-1), 1) := by decide +kernel
theorem dX6_minute_135 : decode cX6_minute 135 = .ok (.if_icmp .eq 18, 3) := by decide +kernel
theorem dX6_minute_138 : decode cX6_minute 138 = .ok (.aload_n 0, 1) := by decide +kernel
theorem dX6_minute_139 : decode cX6_minute 139 = .ok (.getfield 147, 3) := by decide +kernel
theorem dX6_minute_142 : decode cX6_minute 142 = .ok (.aload_n 0, 1) := by decide +kernel
theorem dX6_minute_143 : decode cX6_minute 143 = .ok (.getfield 196, 3) := by decide +kernel
theorem dX6_minute_146 : decode cX6_minute 146 = .ok (.if_icmp .ne 7, 3) := by decide +kernel
theorem dX6_minute_149 : decode cX6_minute 149 = .ok (.aload_n 0, 1) := by decide +kernel
theorem dX6_minute_150 : decode cX6_minute 150 = .ok (.invokevirtual 203, 3) := by decide +kernel
theorem dX6_minute_153 : decode cX6_minute 153 = .ok (.iload_n 1, 1) := by decide +kernel
theorem dX6_minute_154 : decode cX6_minute 154 = .ok (.ireturn, 1) := by decide +kernel
theorem dX6_pass_0 : decode cX6_pass 0 = .ok (.aload_n 0, 1) := by decide +kernel
theorem dX6_pass_1 : decode cX6_pass 1 = .ok (.iconst 0, 1) := by decide +kernel
theorem dX6_pass_2 : decode cX6_pass 2 = .ok (.putfield 97, 3) := by decide +kernel
theorem dX6_pass_5 : decode cX6_pass 5 = .ok (.iload_n 1, 1) := by decide +kernel
theorem dX6_pass_6 : decode cX6_pass 6 = .ok (.iconst 1, 1) := by decide +kernel
theorem dX6_pass_7 : decode cX6_pass 7 = .ok (.sipush 240, 3) := by decide +kernel
theorem dX6_pass_10 : decode cX6_pass 10 = .ok (.invokestatic 103, 3) := by decide +kernel
theorem dX6_pass_13 : decode cX6_pass 13 = .ok (.ifCond .ne 9, 3) := by decide +kernel
theorem dX6_pass_16 : decode cX6_pass 16 = .ok (.aload_n 0, 1) := by decide +kernel
theorem dX6_pass_17 : decode cX6_pass 17 = .ok (.iconst 1, 1) := by decide +kernel
theorem dX6_pass_18 : decode cX6_pass 18 = .ok (.invokevirtual 110, 3) := by decide +kernel
theorem dX6_pass_21 : decode cX6_pass 21 = .ok (.ireturn, 1) := by decide +kernel
theorem dX6_pass_22 : decode cX6_pass 22 = .ok (.iconst 0, 1) := by decide +kernel
theorem dX6_pass_23 : decode cX6_pass 23 = .ok (.istore_n 2, 1) := by decide +kernel
theorem dX6_pass_24 : decode cX6_pass 24 = .ok (.iconst 0, 1) := by decide +kernel
theorem dX6_pass_25 : decode cX6_pass 25 = .ok (.istore_n 3, 1) := by decide +kernel
theorem dX6_pass_26 : decode cX6_pass 26 = .ok (.iload_n 3, 1) := by decide +kernel
theorem dX6_pass_27 : decode cX6_pass 27 = .ok (.iload_n 1, 1) := by decide +kernel
theorem dX6_pass_28 : decode cX6_pass 28 = .ok (.if_icmp .ge 16, 3) := by decide +kernel
theorem dX6_pass_31 : decode cX6_pass 31 = .ok (.iload_n 2, 1) := by decide +kernel
theorem dX6_pass_32 : decode cX6_pass 32 = .ok (.aload_n 0, 1) := by decide +kernel
theorem dX6_pass_33 : decode cX6_pass 33 = .ok (.invokevirtual 206, 3) := by decide +kernel
theorem dX6_pass_36 : decode cX6_pass 36 = .ok (.iadd, 1) := by decide +kernel
theorem dX6_pass_37 : decode cX6_pass 37 = .ok (.istore_n 2, 1) := by decide +kernel
theorem dX6_pass_38 : decode cX6_pass 38 = .ok (.iinc 3 1, 3) := by decide +kernel
theorem dX6_pass_41 : decode cX6_pass 41 = .ok (.goto (-15), 3) := by decide +kernel
theorem dX6_pass_44 : decode cX6_pass 44 = .ok (.iload_n 2, 1) := by decide +kernel
theorem dX6_pass_45 : decode cX6_pass 45 = .ok (.ireturn, 1) := by decide +kernel
theorem dX6_people_0 : decode cX6_people 0 = .ok (.aload_n 0, 1) := by decide +kernel
theorem dX6_people_1 : decode cX6_people 1 = .ok (.iconst 0, 1) := by decide +kernel
theorem dX6_people_2 : decode cX6_people 2 = .ok (.putfield 97, 3) := by decide +kernel
theorem dX6_people_5 : decode cX6_people 5 = .ok (.aload_n 0, 1) := by decide +kernel
theorem dX6_people_6 : decode cX6_people 6 = .ok (.getfield 100, 3) := by decide +kernel
theorem dX6_people_9 : decode cX6_people 9 = .ok (.ireturn, 1) := by decide +kernel
theorem dX6_steps_0 : decode cX6_steps 0 = .ok (.aload_n 0, 1) := by decide +kernel
theorem dX6_steps_1 : decode cX6_steps 1 = .ok (.iconst 0, 1) := by decide +kernel
theorem dX6_steps_2 : decode cX6_steps 2 = .ok (.putfield 97, 3) := by decide +kernel
theorem dX6_steps_5 : decode cX6_steps 5 = .ok (.aload_n 0, 1) := by decide +kernel
theorem dX6_steps_6 : decode cX6_steps 6 = .ok (.getfield 107, 3) := by decide +kernel
theorem dX6_steps_9 : decode cX6_steps 9 = .ok (.ireturn, 1) := by decide +kernel
theorem dX6_clock_0 : decode cX6_clock 0 = .ok (.aload_n 0, 1) := by decide +kernel
theorem dX6_clock_1 : decode cX6_clock 1 = .ok (.iconst 0, 1) := by decide +kernel
theorem dX6_clock_2 : decode cX6_clock 2 = .ok (.putfield 97, 3) := by decide +kernel
theorem dX6_clock_5 : decode cX6_clock 5 = .ok (.aload_n 0, 1) := by decide +kernel
theorem dX6_clock_6 : decode cX6_clock 6 = .ok (.getfield 147, 3) := by decide +kernel
theorem dX6_clock_9 : decode cX6_clock 9 = .ok (.ireturn, 1) := by decide +kernel
theorem dX6_isOnDuty_0 : decode cX6_isOnDuty 0 = .ok (.aload_n 0, 1) := by decide +kernel
theorem dX6_isOnDuty_1 : decode cX6_isOnDuty 1 = .ok (.iconst 0, 1) := by decide +kernel
theorem dX6_isOnDuty_2 : decode cX6_isOnDuty 2 = .ok (.putfield 97, 3) := by decide +kernel
theorem dX6_isOnDuty_5 : decode cX6_isOnDuty 5 = .ok (.aload_n 0, 1) := by decide +kernel
theorem dX6_isOnDuty_6 : decode cX6_isOnDuty 6 = .ok (.iload_n 1, 1) := by decide +kernel
theorem dX6_isOnDuty_7 : decode cX6_isOnDuty 7 = .ok (.invokevirtual 114, 3) := by decide +kernel
theorem dX6_isOnDuty_10 : decode cX6_isOnDuty 10 = .ok (.ifCond .eq 12, 3) := by decide +kernel
theorem dX6_isOnDuty_13 : decode cX6_isOnDuty 13 = .ok (.aload_n 0, 1) := by decide +kernel
theorem dX6_isOnDuty_14 : decode cX6_isOnDuty 14 = .ok (.getfield 50, 3) := by decide +kernel
theorem dX6_isOnDuty_17 : decode cX6_isOnDuty 17 = .ok (.iload_n 1, 1) := by decide +kernel
theorem dX6_isOnDuty_18 : decode cX6_isOnDuty 18 = .ok (.baload, 1) := by decide +kernel
theorem dX6_isOnDuty_19 : decode cX6_isOnDuty 19 = .ok (.goto 8, 3) := by decide +kernel
theorem dX6_isOnDuty_22 : decode cX6_isOnDuty 22 = .ok (.aload_n 0, 1) := by decide +kernel
theorem dX6_isOnDuty_23 : decode cX6_isOnDuty 23 = .ok (.iconst 1, 1) := by decide +kernel
theorem dX6_isOnDuty_24 : decode cX6_isOnDuty 24 = .ok (.invokevirtual 118, 3) := by decide +kernel
theorem dX6_isOnDuty_27 : decode cX6_isOnDuty 27 = .ok (.ireturn, 1) := by decide +kernel
theorem dX6_hasRole_0 : decode cX6_hasRole 0 = .ok (.aload_n 0, 1) := by decide +kernel
theorem dX6_hasRole_1 : decode cX6_hasRole 1 = .ok (.iconst 0, 1) := by decide +kernel
theorem dX6_hasRole_2 : decode cX6_hasRole 2 = .ok (.putfield 97, 3) := by decide +kernel
theorem dX6_hasRole_5 : decode cX6_hasRole 5 = .ok (.aload_n 0, 1) := by decide +kernel
theorem dX6_hasRole_6 : decode cX6_hasRole 6 = .ok (.iload_n 1, 1) := by decide +kernel
theorem dX6_hasRole_7 : decode cX6_hasRole 7 = .ok (.invokevirtual 114, 3) := by decide +kernel
theorem dX6_hasRole_10 : decode cX6_hasRole 10 = .ok (.ifCond .ne 9, 3) := by decide +kernel
theorem dX6_hasRole_13 : decode cX6_hasRole 13 = .ok (.aload_n 0, 1) := by decide +kernel
theorem dX6_hasRole_14 : decode cX6_hasRole 14 = .ok (.iconst 1, 1) := by decide +kernel
theorem dX6_hasRole_15 : decode cX6_hasRole 15 = .ok (.invokevirtual 118, 3) := by decide +kernel
theorem dX6_hasRole_18 : decode cX6_hasRole 18 = .ok (.ireturn, 1) := by decide +kernel
theorem dX6_hasRole_19 : decode cX6_hasRole 19 = .ok (.iload_n 2, 1) := by decide +kernel
theorem dX6_hasRole_20 : decode cX6_hasRole 20 = .ok (.iconst 0, 1) := by decide +kernel
theorem dX6_hasRole_21 : decode cX6_hasRole 21 = .ok (.iconst 3, 1) := by decide +kernel
theorem dX6_hasRole_22 : decode cX6_hasRole 22 = .ok (.invokestatic 103, 3) := by decide +kernel
theorem dX6_hasRole_25 : decode cX6_hasRole 25 = .ok (.ifCond .eq 16, 3) := by decide +kernel
theorem dX6_hasRole_28 : decode cX6_hasRole 28 = .ok (.aload_n 0, 1) := by decide +kernel
theorem dX6_hasRole_29 : decode cX6_hasRole 29 = .ok (.getfield 9, 3) := by decide +kernel
theorem dX6_hasRole_32 : decode cX6_hasRole 32 = .ok (.iload_n 1, 1) := by decide +kernel
theorem dX6_hasRole_33 : decode cX6_hasRole 33 = .ok (.iaload, 1) := by decide +kernel
theorem dX6_hasRole_34 : decode cX6_hasRole 34 = .ok (.iload_n 2, 1) := by decide +kernel
theorem dX6_hasRole_35 : decode cX6_hasRole 35 = .ok (.invokestatic 128, 3) := by decide +kernel
theorem dX6_hasRole_38 : decode cX6_hasRole 38 = .ok (.goto 8, 3) := by decide +kernel
theorem dX6_hasRole_41 : decode cX6_hasRole 41 = .ok (.aload_n 0, 1) := by decide +kernel
theorem dX6_hasRole_42 : decode cX6_hasRole 42 = .ok (.iconst 2, 1) := by decide +kernel
theorem dX6_hasRole_43 : decode cX6_hasRole 43 = .ok (.invokevirtual 118, 3) := by decide +kernel
theorem dX6_hasRole_46 : decode cX6_hasRole 46 = .ok (.ireturn, 1) := by decide +kernel
theorem dX6_workOf_0 : decode cX6_workOf 0 = .ok (.aload_n 0, 1) := by decide +kernel
theorem dX6_workOf_1 : decode cX6_workOf 1 = .ok (.iconst 0, 1) := by decide +kernel
theorem dX6_workOf_2 : decode cX6_workOf 2 = .ok (.putfield 97, 3) := by decide +kernel
theorem dX6_workOf_5 : decode cX6_workOf 5 = .ok (.aload_n 0, 1) := by decide +kernel
theorem dX6_workOf_6 : decode cX6_workOf 6 = .ok (.iload_n 1, 1) := by decide +kernel
theorem dX6_workOf_7 : decode cX6_workOf 7 = .ok (.invokevirtual 114, 3) := by decide +kernel
theorem dX6_workOf_10 : decode cX6_workOf 10 = .ok (.ifCond .eq 11, 3) := by decide +kernel
theorem dX6_workOf_13 : decode cX6_workOf 13 = .ok (.aload_n 0, 1) := by decide +kernel
theorem dX6_workOf_14 : decode cX6_workOf 14 = .ok (.iload_n 1, 1) := by decide +kernel
theorem dX6_workOf_15 : decode cX6_workOf 15 = .ok (.invokevirtual 121, 3) := by decide +kernel
theorem dX6_workOf_18 : decode cX6_workOf 18 = .ok (.goto 8, 3) := by decide +kernel
theorem dX6_workOf_21 : decode cX6_workOf 21 = .ok (.aload_n 0, 1) := by decide +kernel
theorem dX6_workOf_22 : decode cX6_workOf 22 = .ok (.iconst 1, 1) := by decide +kernel
theorem dX6_workOf_23 : decode cX6_workOf 23 = .ok (.invokevirtual 110, 3) := by decide +kernel
theorem dX6_workOf_26 : decode cX6_workOf 26 = .ok (.ireturn, 1) := by decide +kernel
theorem dX6_readingOf_0 : decode cX6_readingOf 0 = .ok (.aload_n 0, 1) := by decide +kernel
theorem dX6_readingOf_1 : decode cX6_readingOf 1 = .ok (.iconst 0, 1) := by decide +kernel
theorem dX6_readingOf_2 : decode cX6_readingOf 2 = .ok (.putfield 97, 3) := by decide +kernel
theorem dX6_readingOf_5 : decode cX6_readingOf 5 = .ok (.iload_n 1, 1) := by decide +kernel
theorem dX6_readingOf_6 : decode cX6_readingOf 6 = .ok (.invokestatic 141, 3) := by decide +kernel
theorem dX6_readingOf_9 : decode cX6_readingOf 9 = .ok (.ifCond .eq 12, 3) := by decide +kernel
theorem dX6_readingOf_12 : decode cX6_readingOf 12 = .ok (.aload_n 0, 1) := by decide +kernel
theorem dX6_readingOf_13 : decode cX6_readingOf 13 = .ok (.getfield 13, 3) := by decide +kernel
theorem dX6_readingOf_16 : decode cX6_readingOf 16 = .ok (.iload_n 1, 1) := by decide +kernel
theorem dX6_readingOf_17 : decode cX6_readingOf 17 = .ok (.iaload, 1) := by decide +kernel
theorem dX6_readingOf_18 : decode cX6_readingOf 18 = .ok (.goto 8, 3) := by decide +kernel
theorem dX6_readingOf_21 : decode cX6_readingOf 21 = .ok (.aload_n 0, 1) := by decide +kernel
theorem dX6_readingOf_22 : decode cX6_readingOf 22 = .ok (.iconst 1, 1) := by decide +kernel
theorem dX6_readingOf_23 : decode cX6_readingOf 23 = .ok (.invokevirtual 110, 3) := by decide +kernel
theorem dX6_readingOf_26 : decode cX6_readingOf 26 = .ok (.ireturn, 1) := by decide +kernel
theorem dX6_doesGuardHold_0 : decode cX6_doesGuardHold 0 = .ok (.aload_n 0, 1) := by decide +kernel
theorem dX6_doesGuardHold_1 : decode cX6_doesGuardHold 1 = .ok (.iconst 0, 1) := by decide +kernel
theorem dX6_doesGuardHold_2 : decode cX6_doesGuardHold 2 = .ok (.putfield 97, 3) := by decide +kernel
theorem dX6_doesGuardHold_5 : decode cX6_doesGuardHold 5 = .ok (.aload_n 0, 1) := by decide +kernel
theorem dX6_doesGuardHold_6 : decode cX6_doesGuardHold 6 = .ok (.iload_n 1, 1) := by decide +kernel
theorem dX6_doesGuardHold_7 : decode cX6_doesGuardHold 7 = .ok (.invokevirtual 132, 3) := by decide +kernel
theorem dX6_doesGuardHold_10 : decode cX6_doesGuardHold 10 = .ok (.ifCond .eq 11, 3) := by decide +kernel
theorem dX6_doesGuardHold_13 : decode cX6_doesGuardHold 13 = .ok (.aload_n 0, 1) := by decide +kernel
theorem dX6_doesGuardHold_14 : decode cX6_doesGuardHold 14 = .ok (.iload_n 1, 1) := by decide +kernel
theorem dX6_doesGuardHold_15 : decode cX6_doesGuardHold 15 = .ok (.invokevirtual 159, 3) := by decide +kernel
theorem dX6_doesGuardHold_18 : decode cX6_doesGuardHold 18 = .ok (.goto 8, 3) := by decide +kernel
theorem dX6_doesGuardHold_21 : decode cX6_doesGuardHold 21 = .ok (.aload_n 0, 1) := by decide +kernel
theorem dX6_doesGuardHold_22 : decode cX6_doesGuardHold 22 = .ok (.iconst 1, 1) := by decide +kernel
theorem dX6_doesGuardHold_23 : decode cX6_doesGuardHold 23 = .ok (.invokevirtual 118, 3) := by decide +kernel
theorem dX6_doesGuardHold_26 : decode cX6_doesGuardHold 26 = .ok (.ireturn, 1) := by decide +kernel
theorem dX6_guardReading_0 : decode cX6_guardReading 0 = .ok (.aload_n 0, 1) := by decide +kernel
theorem dX6_guardReading_1 : decode cX6_guardReading 1 = .ok (.iconst 0, 1) := by decide +kernel
theorem dX6_guardReading_2 : decode cX6_guardReading 2 = .ok (.putfield 97, 3) := by decide +kernel
theorem dX6_guardReading_5 : decode cX6_guardReading 5 = .ok (.aload_n 0, 1) := by decide +kernel
theorem dX6_guardReading_6 : decode cX6_guardReading 6 = .ok (.iload_n 1, 1) := by decide +kernel
theorem dX6_guardReading_7 : decode cX6_guardReading 7 = .ok (.invokevirtual 132, 3) := by decide +kernel
theorem dX6_guardReading_10 : decode cX6_guardReading 10 = .ok (.ifCond .ne 9, 3) := by decide +kernel
theorem dX6_guardReading_13 : decode cX6_guardReading 13 = .ok (.aload_n 0, 1) := by decide +kernel
theorem dX6_guardReading_14 : decode cX6_guardReading 14 = .ok (.iconst 1, 1) := by decide +kernel
theorem dX6_guardReading_15 : decode cX6_guardReading 15 = .ok (.invokevirtual 110, 3) := by decide +kernel
theorem dX6_guardReading_18 : decode cX6_guardReading 18 = .ok (.ireturn, 1) := by decide +kernel
theorem dX6_guardReading_19 : decode cX6_guardReading 19 = .ok (.iload_n 2, 1) := by decide +kernel
theorem dX6_guardReading_20 : decode cX6_guardReading 20 = .ok (.iconst 0, 1) := by decide +kernel
theorem dX6_guardReading_21 : decode cX6_guardReading 21 = .ok (.aload_n 0, 1) := by decide +kernel
theorem dX6_guardReading_22 : decode cX6_guardReading 22 = .ok (.getfield 31, 3) := by decide +kernel
theorem dX6_guardReading_25 : decode cX6_guardReading 25 = .ok (.iload_n 1, 1) := by decide +kernel
theorem dX6_guardReading_26 : decode cX6_guardReading 26 = .ok (.iaload, 1) := by decide +kernel
theorem dX6_guardReading_27 : decode cX6_guardReading 27 = .ok (.iconst 1, 1) := by decide +kernel
theorem dX6_guardReading_28 : decode cX6_guardReading 28 = .ok (.isub, 1) := by decide +kernel
theorem dX6_guardReading_29 : decode cX6_guardReading 29 = .ok (.invokestatic 103, 3) := by decide +kernel
theorem dX6_guardReading_32 : decode cX6_guardReading 32 = .ok (.ifCond .ne 9, 3) := by decide +kernel
theorem dX6_guardReading_35 : decode cX6_guardReading 35 = .ok (.aload_n 0, 1) := by decide +kernel
theorem dX6_guardReading_36 : decode cX6_guardReading 36 = .ok (.iconst 2, 1) := by decide +kernel
theorem dX6_guardReading_37 : decode cX6_guardReading 37 = .ok (.invokevirtual 110, 3) := by decide +kernel
theorem dX6_guardReading_40 : decode cX6_guardReading 40 = .ok (.ireturn, 1) := by decide +kernel
theorem dX6_guardReading_41 : decode cX6_guardReading 41 = .ok (.aload_n 0, 1) := by decide +kernel
theorem dX6_guardReading_42 : decode cX6_guardReading 42 = .ok (.getfield 57, 3) := by decide +kernel
theorem dX6_guardReading_45 : decode cX6_guardReading 45 = .ok (.iload_n 1, 1) := by decide +kernel
theorem dX6_guardReading_46 : decode cX6_guardReading 46 = .ok (.baload, 1) := by decide +kernel
theorem dX6_guardReading_47 : decode cX6_guardReading 47 = .ok (.ifCond .eq 26, 3) := by decide +kernel
theorem dX6_guardReading_50 : decode cX6_guardReading 50 = .ok (.aload_n 0, 1) := by decide +kernel
theorem dX6_guardReading_51 : decode cX6_guardReading 51 = .ok (.getfield 40, 3) := by decide +kernel
theorem dX6_guardReading_54 : decode cX6_guardReading 54 = .ok (.bipush 6, 2) := by decide +kernel
theorem dX6_guardReading_56 : decode cX6_guardReading 56 = .ok (.iload_n 1, 1) := by decide +kernel
theorem dX6_guardReading_57 : decode cX6_guardReading 57 = .ok (.imul, 1) := by decide +kernel
theorem dX6_guardReading_58 : decode cX6_guardReading 58 = .ok (.aload_n 0, 1) := by decide +kernel
theorem dX6_guardReading_59 : decode cX6_guardReading 59 = .ok (.getfield 34, 3) := by decide +kernel
theorem dX6_guardReading_62 : decode cX6_guardReading 62 = .ok (.iconst 2, 1) := by decide +kernel
theorem dX6_guardReading_63 : decode cX6_guardReading 63 = .ok (.iload_n 1, 1) := by decide +kernel
theorem dX6_guardReading_64 : decode cX6_guardReading 64 = .ok (.imul, 1) := by decide +kernel
theorem dX6_guardReading_65 : decode cX6_guardReading 65 = .ok (.iload_n 2, 1) := by decide +kernel
theorem dX6_guardReading_66 : decode cX6_guardReading 66 = .ok (.iadd, 1) := by decide +kernel
theorem dX6_guardReading_67 : decode cX6_guardReading 67 = .ok (.iaload, 1) := by decide +kernel
theorem dX6_guardReading_68 : decode cX6_guardReading 68 = .ok (.iadd, 1) := by decide +kernel
theorem dX6_guardReading_69 : decode cX6_guardReading 69 = .ok (.iaload, 1) := by decide +kernel
theorem dX6_guardReading_70 : decode cX6_guardReading 70 = .ok (.goto 8, 3) := by decide +kernel
theorem dX6_guardReading_73 : decode cX6_guardReading 73 = .ok (.aload_n 0, 1) := by decide +kernel
theorem dX6_guardReading_74 : decode cX6_guardReading 74 = .ok (.iconst 3, 1) := by decide +kernel
theorem dX6_guardReading_75 : decode cX6_guardReading 75 = .ok (.invokevirtual 110, 3) := by decide +kernel
theorem dX6_guardReading_78 : decode cX6_guardReading 78 = .ok (.ireturn, 1) := by decide +kernel
theorem dX6_isRunning_0 : decode cX6_isRunning 0 = .ok (.aload_n 0, 1) := by decide +kernel
theorem dX6_isRunning_1 : decode cX6_isRunning 1 = .ok (.iconst 0, 1) := by decide +kernel
theorem dX6_isRunning_2 : decode cX6_isRunning 2 = .ok (.putfield 97, 3) := by decide +kernel
theorem dX6_isRunning_5 : decode cX6_isRunning 5 = .ok (.aload_n 0, 1) := by decide +kernel
theorem dX6_isRunning_6 : decode cX6_isRunning 6 = .ok (.getfield 124, 3) := by decide +kernel
theorem dX6_isRunning_9 : decode cX6_isRunning 9 = .ok (.ireturn, 1) := by decide +kernel
theorem dX6_isUnknown_0 : decode cX6_isUnknown 0 = .ok (.aload_n 0, 1) := by decide +kernel
theorem dX6_isUnknown_1 : decode cX6_isUnknown 1 = .ok (.aload_n 0, 1) := by decide +kernel
theorem dX6_isUnknown_2 : decode cX6_isUnknown 2 = .ok (.iload_n 1, 1) := by decide +kernel
theorem dX6_isUnknown_3 : decode cX6_isUnknown 3 = .ok (.invokevirtual 132, 3) := by decide +kernel
theorem dX6_isUnknown_6 : decode cX6_isUnknown 6 = .ok (.ifCond .ne 7, 3) := by decide +kernel
theorem dX6_isUnknown_9 : decode cX6_isUnknown 9 = .ok (.iconst 1, 1) := by decide +kernel
theorem dX6_isUnknown_10 : decode cX6_isUnknown 10 = .ok (.goto 23, 3) := by decide +kernel
theorem dX6_isUnknown_13 : decode cX6_isUnknown 13 = .ok (.aload_n 0, 1) := by decide +kernel
theorem dX6_isUnknown_14 : decode cX6_isUnknown 14 = .ok (.getfield 165, 3) := by decide +kernel
theorem dX6_isUnknown_17 : decode cX6_isUnknown 17 = .ok (.ifCond .eq 11, 3) := by decide +kernel
theorem dX6_isUnknown_20 : decode cX6_isUnknown 20 = .ok (.iload_n 1, 1) := by decide +kernel
theorem dX6_isUnknown_21 : decode cX6_isUnknown 21 = .ok (.aload_n 0, 1) := by decide +kernel
theorem dX6_isUnknown_22 : decode cX6_isUnknown 22 = .ok (.getfield 168, 3) := by decide +kernel
theorem dX6_isUnknown_25 : decode cX6_isUnknown 25 = .ok (.if_icmp .lt 7, 3) := by decide +kernel
theorem dX6_isUnknown_28 : decode cX6_isUnknown 28 = .ok (.iconst 2, 1) := by decide +kernel
theorem dX6_isUnknown_29 : decode cX6_isUnknown 29 = .ok (.goto 4, 3) := by decide +kernel
theorem dX6_isUnknown_32 : decode cX6_isUnknown 32 = .ok (.iconst 0, 1) := by decide +kernel
theorem dX6_isUnknown_33 : decode cX6_isUnknown 33 = .ok (.putfield 97, 3) := by decide +kernel
theorem dX6_isUnknown_36 : decode cX6_isUnknown 36 = .ok (.aload_n 0, 1) := by decide +kernel
theorem dX6_isUnknown_37 : decode cX6_isUnknown 37 = .ok (.getfield 97, 3) := by decide +kernel
theorem dX6_isUnknown_40 : decode cX6_isUnknown 40 = .ok (.ifCond .le 7, 3) := by decide +kernel
theorem dX6_isUnknown_43 : decode cX6_isUnknown 43 = .ok (.iconst 1, 1) := by decide +kernel
theorem dX6_isUnknown_44 : decode cX6_isUnknown 44 = .ok (.goto 4, 3) := by decide +kernel
theorem dX6_isUnknown_47 : decode cX6_isUnknown 47 = .ok (.iconst 0, 1) := by decide +kernel
theorem dX6_isUnknown_48 : decode cX6_isUnknown 48 = .ok (.ireturn, 1) := by decide +kernel
theorem dX6_stateOf_0 : decode cX6_stateOf 0 = .ok (.aload_n 0, 1) := by decide +kernel
theorem dX6_stateOf_1 : decode cX6_stateOf 1 = .ok (.iload_n 1, 1) := by decide +kernel
theorem dX6_stateOf_2 : decode cX6_stateOf 2 = .ok (.invokevirtual 209, 3) := by decide +kernel
theorem dX6_stateOf_5 : decode cX6_stateOf 5 = .ok (.ifCond .eq 7, 3) := by decide +kernel
theorem dX6_stateOf_8 : decode cX6_stateOf 8 = .ok (.iconst 0, 1) := by decide +kernel
theorem dX6_stateOf_9 : decode cX6_stateOf 9 = .ok (.goto 9, 3) := by decide +kernel
theorem dX6_stateOf_12 : decode cX6_stateOf 12 = .ok (.aload_n 0, 1) := by decide +kernel
theorem dX6_stateOf_13 : decode cX6_stateOf 13 = .ok (.getfield 60, 3) := by decide +kernel
theorem dX6_stateOf_16 : decode cX6_stateOf 16 = .ok (.iload_n 1, 1) := by decide +kernel
theorem dX6_stateOf_17 : decode cX6_stateOf 17 = .ok (.caload, 1) := by decide +kernel
theorem dX6_stateOf_18 : decode cX6_stateOf 18 = .ok (.ireturn, 1) := by decide +kernel
theorem dX6_triesOf_0 : decode cX6_triesOf 0 = .ok (.aload_n 0, 1) := by decide +kernel
theorem dX6_triesOf_1 : decode cX6_triesOf 1 = .ok (.iload_n 1, 1) := by decide +kernel
theorem dX6_triesOf_2 : decode cX6_triesOf 2 = .ok (.invokevirtual 209, 3) := by decide +kernel
theorem dX6_triesOf_5 : decode cX6_triesOf 5 = .ok (.ifCond .eq 7, 3) := by decide +kernel
theorem dX6_triesOf_8 : decode cX6_triesOf 8 = .ok (.iconst 0, 1) := by decide +kernel
theorem dX6_triesOf_9 : decode cX6_triesOf 9 = .ok (.goto 9, 3) := by decide +kernel
theorem dX6_triesOf_12 : decode cX6_triesOf 12 = .ok (.aload_n 0, 1) := by decide +kernel
theorem dX6_triesOf_13 : decode cX6_triesOf 13 = .ok (.getfield 63, 3) := by decide +kernel
theorem dX6_triesOf_16 : decode cX6_triesOf 16 = .ok (.iload_n 1, 1) := by decide +kernel
theorem dX6_triesOf_17 : decode cX6_triesOf 17 = .ok (.iaload, 1) := by decide +kernel
theorem dX6_triesOf_18 : decode cX6_triesOf 18 = .ok (.ireturn, 1) := by decide +kernel
theorem dX6_isReady_0 : decode cX6_isReady 0 = .ok (.aload_n 0, 1) := by decide +kernel
theorem dX6_isReady_1 : decode cX6_isReady 1 = .ok (.iconst 0, 1) := by decide +kernel
theorem dX6_isReady_2 : decode cX6_isReady 2 = .ok (.putfield 97, 3) := by decide +kernel
theorem dX6_isReady_5 : decode cX6_isReady 5 = .ok (.aload_n 0, 1) := by decide +kernel
theorem dX6_isReady_6 : decode cX6_isReady 6 = .ok (.iload_n 1, 1) := by decide +kernel
theorem dX6_isReady_7 : decode cX6_isReady 7 = .ok (.invokevirtual 132, 3) := by decide +kernel
theorem dX6_isReady_10 : decode cX6_isReady 10 = .ok (.ifCond .eq 11, 3) := by decide +kernel
theorem dX6_isReady_13 : decode cX6_isReady 13 = .ok (.aload_n 0, 1) := by decide +kernel
theorem dX6_isReady_14 : decode cX6_isReady 14 = .ok (.iload_n 1, 1) := by decide +kernel
theorem dX6_isReady_15 : decode cX6_isReady 15 = .ok (.invokevirtual 162, 3) := by decide +kernel
theorem dX6_isReady_18 : decode cX6_isReady 18 = .ok (.goto 8, 3) := by decide +kernel
theorem dX6_isReady_21 : decode cX6_isReady 21 = .ok (.aload_n 0, 1) := by decide +kernel
theorem dX6_isReady_22 : decode cX6_isReady 22 = .ok (.iconst 1, 1) := by decide +kernel
theorem dX6_isReady_23 : decode cX6_isReady 23 = .ok (.invokevirtual 118, 3) := by decide +kernel
theorem dX6_isReady_26 : decode cX6_isReady 26 = .ok (.ireturn, 1) := by decide +kernel
theorem dX6_isManned_0 : decode cX6_isManned 0 = .ok (.iconst 0, 1) := by decide +kernel
theorem dX6_isManned_1 : decode cX6_isManned 1 = .ok (.istore_n 2, 1) := by decide +kernel
theorem dX6_isManned_2 : decode cX6_isManned 2 = .ok (.iload_n 2, 1) := by decide +kernel
theorem dX6_isManned_3 : decode cX6_isManned 3 = .ok (.aload_n 0, 1) := by decide +kernel
theorem dX6_isManned_4 : decode cX6_isManned 4 = .ok (.getfield 100, 3) := by decide +kernel
theorem dX6_isManned_7 : decode cX6_isManned 7 = .ok (.if_icmp .ge 32, 3) := by decide +kernel
theorem dX6_isManned_10 : decode cX6_isManned 10 = .ok (.aload_n 0, 1) := by decide +kernel
theorem dX6_isManned_11 : decode cX6_isManned 11 = .ok (.iload_n 2, 1) := by decide +kernel
theorem dX6_isManned_12 : decode cX6_isManned 12 = .ok (.invokevirtual 182, 3) := by decide +kernel
theorem dX6_isManned_15 : decode cX6_isManned 15 = .ok (.ifCond .eq 18, 3) := by decide +kernel
theorem dX6_isManned_18 : decode cX6_isManned 18 = .ok (.aload_n 0, 1) := by decide +kernel
theorem dX6_isManned_19 : decode cX6_isManned 19 = .ok (.getfield 9, 3) := by decide +kernel
theorem dX6_isManned_22 : decode cX6_isManned 22 = .ok (.iload_n 2, 1) := by decide +kernel
theorem dX6_isManned_23 : decode cX6_isManned 23 = .ok (.iaload, 1) := by decide +kernel
theorem dX6_isManned_24 : decode cX6_isManned 24 = .ok (.iload_n 1, 1) := by decide +kernel
theorem dX6_isManned_25 : decode cX6_isManned 25 = .ok (.invokestatic 128, 3) := by decide +kernel
theorem dX6_isManned_28 : decode cX6_isManned 28 = .ok (.ifCond .eq 5, 3) := by decide +kernel
theorem dX6_isManned_31 : decode cX6_isManned 31 = .ok (.iconst 1, 1) := by decide +kernel
theorem dX6_isManned_32 : decode cX6_isManned 32 = .ok (.ireturn, 1) := by decide +kernel
theorem dX6_isManned_33 : decode cX6_isManned 33 = .ok (.iinc 2 1, 3) := by decide +kernel
theorem dX6_isManned_36 : decode cX6_isManned 36 = .ok (.goto (-34), 3) := by decide +kernel
theorem dX6_isManned_39 : decode cX6_isManned 39 = .ok (.iconst 0, 1) := by decide +kernel
theorem dX6_isManned_40 : decode cX6_isManned 40 = .ok (.ireturn, 1) := by decide +kernel
theorem dX6_whyNot_0 : decode cX6_whyNot 0 = .ok (.aload_n 0, 1) := by decide +kernel
theorem dX6_whyNot_1 : decode cX6_whyNot 1 = .ok (.iconst 0, 1) := by decide +kernel
theorem dX6_whyNot_2 : decode cX6_whyNot 2 = .ok (.putfield 97, 3) := by decide +kernel
theorem dX6_whyNot_5 : decode cX6_whyNot 5 = .ok (.aload_n 0, 1) := by decide +kernel
theorem dX6_whyNot_6 : decode cX6_whyNot 6 = .ok (.iload_n 1, 1) := by decide +kernel
theorem dX6_whyNot_7 : decode cX6_whyNot 7 = .ok (.invokevirtual 132, 3) := by decide +kernel
theorem dX6_whyNot_10 : decode cX6_whyNot 10 = .ok (.ifCond .ne 10, 3) := by decide +kernel
theorem dX6_whyNot_13 : decode cX6_whyNot 13 = .ok (.aload_n 0, 1) := by decide +kernel
theorem dX6_whyNot_14 : decode cX6_whyNot 14 = .ok (.iconst 1, 1) := by decide +kernel
theorem dX6_whyNot_15 : decode cX6_whyNot 15 = .ok (.invokevirtual 110, 3) := by decide +kernel
theorem dX6_whyNot_18 : decode cX6_whyNot 18 = .ok (.i2c, 1) := by decide +kernel
theorem dX6_whyNot_19 : decode cX6_whyNot 19 = .ok (.ireturn, 1) := by decide +kernel
theorem dX6_whyNot_20 : decode cX6_whyNot 20 = .ok (.aload_n 0, 1) := by decide +kernel
theorem dX6_whyNot_21 : decode cX6_whyNot 21 = .ok (.getfield 124, 3) := by decide +kernel
theorem dX6_whyNot_24 : decode cX6_whyNot 24 = .ok (.ifCond .ne 6, 3) := by decide +kernel
theorem dX6_whyNot_27 : decode cX6_whyNot 27 = .ok (.bipush 115, 2) := by decide +kernel
theorem dX6_whyNot_29 : decode cX6_whyNot 29 = .ok (.ireturn, 1) := by decide +kernel
theorem dX6_whyNot_30 : decode cX6_whyNot 30 = .ok (.aload_n 0, 1) := by decide +kernel
theorem dX6_whyNot_31 : decode cX6_whyNot 31 = .ok (.getfield 60, 3) := by decide +kernel
theorem dX6_whyNot_34 : decode cX6_whyNot 34 = .ok (.iload_n 1, 1) := by decide +kernel
theorem dX6_whyNot_35 : decode cX6_whyNot 35 = .ok (.caload, 1) := by decide +kernel
theorem dX6_whyNot_36 : decode cX6_whyNot 36 = .ok (.bipush 119, 2) := by decide +kernel
theorem dX6_whyNot_38 : decode cX6_whyNot 38 = .ok (.if_icmp .eq 6, 3) := by decide +kernel
theorem dX6_whyNot_41 : decode cX6_whyNot 41 = .ok (.bipush 120, 2) := by decide +kernel
theorem dX6_whyNot_43 : decode cX6_whyNot 43 = .ok (.ireturn, 1) := by decide +kernel
theorem dX6_whyNot_44 : decode cX6_whyNot 44 = .ok (.aload_n 0, 1) := by decide +kernel
theorem dX6_whyNot_45 : decode cX6_whyNot 45 = .ok (.iload_n 1, 1) := by decide +kernel
theorem dX6_whyNot_46 : decode cX6_whyNot 46 = .ok (.invokevirtual 156, 3) := by decide +kernel
theorem dX6_whyNot_49 : decode cX6_whyNot 49 = .ok (.ifCond .ne 6, 3) := by decide +kernel
theorem dX6_whyNot_52 : decode cX6_whyNot 52 = .ok (.bipush 110, 2) := by decide +kernel
theorem dX6_whyNot_54 : decode cX6_whyNot 54 = .ok (.ireturn, 1) := by decide +kernel
theorem dX6_whyNot_55 : decode cX6_whyNot 55 = .ok (.aload_n 0, 1) := by decide +kernel
theorem dX6_whyNot_56 : decode cX6_whyNot 56 = .ok (.iload_n 1, 1) := by decide +kernel
theorem dX6_whyNot_57 : decode cX6_whyNot 57 = .ok (.invokevirtual 159, 3) := by decide +kernel
theorem dX6_whyNot_60 : decode cX6_whyNot 60 = .ok (.ifCond .ne 6, 3) := by decide +kernel
theorem dX6_whyNot_63 : decode cX6_whyNot 63 = .ok (.bipush 103, 2) := by decide +kernel
theorem dX6_whyNot_65 : decode cX6_whyNot 65 = .ok (.ireturn, 1) := by decide +kernel
theorem dX6_whyNot_66 : decode cX6_whyNot 66 = .ok (.aload_n 0, 1) := by decide +kernel
theorem dX6_whyNot_67 : decode cX6_whyNot 67 = .ok (.aload_n 0, 1) := by decide +kernel
theorem dX6_whyNot_68 : decode cX6_whyNot 68 = .ok (.getfield 16, 3) := by decide +kernel
theorem dX6_whyNot_71 : decode cX6_whyNot 71 = .ok (.iload_n 1, 1) := by decide +kernel
theorem dX6_whyNot_72 : decode cX6_whyNot 72 = .ok (.iaload, 1) := by decide +kernel
theorem dX6_whyNot_73 : decode cX6_whyNot 73 = .ok (.invokevirtual 185, 3) := by decide +kernel
theorem dX6_whyNot_76 : decode cX6_whyNot 76 = .ok (.ifCond .eq 6, 3) := by decide +kernel
theorem dX6_whyNot_79 : decode cX6_whyNot 79 = .ok (.bipush 112, 2) := by decide +kernel
theorem dX6_whyNot_81 : decode cX6_whyNot 81 = .ok (.ireturn, 1) := by decide +kernel
theorem dX6_whyNot_82 : decode cX6_whyNot 82 = .ok (.aload_n 0, 1) := by decide +kernel
theorem dX6_whyNot_83 : decode cX6_whyNot 83 = .ok (.aload_n 0, 1) := by decide +kernel
theorem dX6_whyNot_84 : decode cX6_whyNot 84 = .ok (.getfield 16, 3) := by decide +kernel
theorem dX6_whyNot_87 : decode cX6_whyNot 87 = .ok (.iload_n 1, 1) := by decide +kernel
theorem dX6_whyNot_88 : decode cX6_whyNot 88 = .ok (.iaload, 1) := by decide +kernel
theorem dX6_whyNot_89 : decode cX6_whyNot 89 = .ok (.invokevirtual 212, 3) := by decide +kernel
theorem dX6_whyNot_92 : decode cX6_whyNot 92 = .ok (.ifCond .eq 8, 3) := by decide +kernel
theorem dX6_whyNot_95 : decode cX6_whyNot 95 = .ok (.bipush 45, 2) := by decide +kernel
theorem dX6_whyNot_97 : decode cX6_whyNot 97 = .ok (.goto 5, 3) := by decide +kernel
theorem dX6_whyNot_100 : decode cX6_whyNot 100 = .ok (.bipush 114, 2) := by decide +kernel
theorem dX6_whyNot_102 : decode cX6_whyNot 102 = .ok (.ireturn, 1) := by decide +kernel
theorem dX6_ready_0 : decode cX6_ready 0 = .ok (.aload_n 0, 1) := by decide +kernel
theorem dX6_ready_1 : decode cX6_ready 1 = .ok (.iconst 0, 1) := by decide +kernel
theorem dX6_ready_2 : decode cX6_ready 2 = .ok (.putfield 97, 3) := by decide +kernel
theorem dX6_ready_5 : decode cX6_ready 5 = .ok (.aload_n 0, 1) := by decide +kernel
theorem dX6_ready_6 : decode cX6_ready 6 = .ok (.invokevirtual 174, 3) := by decide +kernel
theorem dX6_ready_9 : decode cX6_ready 9 = .ok (.ireturn, 1) := by decide +kernel
theorem dX6_sweeps_0 : decode cX6_sweeps 0 = .ok (.aload_n 0, 1) := by decide +kernel
theorem dX6_sweeps_1 : decode cX6_sweeps 1 = .ok (.getfield 107, 3) := by decide +kernel
theorem dX6_sweeps_4 : decode cX6_sweeps 4 = .ok (.iconst 1, 1) := by decide +kernel
theorem dX6_sweeps_5 : decode cX6_sweeps 5 = .ok (.isub, 1) := by decide +kernel
theorem dX6_sweeps_6 : decode cX6_sweeps 6 = .ok (.istore_n 1, 1) := by decide +kernel
theorem dX6_sweeps_7 : decode cX6_sweeps 7 = .ok (.iload_n 1, 1) := by decide +kernel
theorem dX6_sweeps_8 : decode cX6_sweeps 8 = .ok (.ifCond .lt 71, 3) := by decide +kernel
theorem dX6_sweeps_11 : decode cX6_sweeps 11 = .ok (.iconst 0, 1) := by decide +kernel
theorem dX6_sweeps_12 : decode cX6_sweeps 12 = .ok (.istore_n 2, 1) := by decide +kernel
theorem dX6_sweeps_13 : decode cX6_sweeps 13 = .ok (.iload_n 1, 1) := by decide +kernel
theorem dX6_sweeps_14 : decode cX6_sweeps 14 = .ok (.iconst 1, 1) := by decide +kernel
theorem dX6_sweeps_15 : decode cX6_sweeps 15 = .ok (.iadd, 1) := by decide +kernel
theorem dX6_sweeps_16 : decode cX6_sweeps 16 = .ok (.istore_n 3, 1) := by decide +kernel
theorem dX6_sweeps_17 : decode cX6_sweeps 17 = .ok (.iload_n 3, 1) := by decide +kernel
theorem dX6_sweeps_18 : decode cX6_sweeps 18 = .ok (.aload_n 0, 1) := by decide +kernel
theorem dX6_sweeps_19 : decode cX6_sweeps 19 = .ok (.getfield 107, 3) := by decide +kernel
theorem dX6_sweeps_22 : decode cX6_sweeps 22 = .ok (.if_icmp .ge 37, 3) := by decide +kernel
theorem dX6_sweeps_25 : decode cX6_sweeps 25 = .ok (.aload_n 0, 1) := by decide +kernel
theorem dX6_sweeps_26 : decode cX6_sweeps 26 = .ok (.getfield 25, 3) := by decide +kernel
theorem dX6_sweeps_29 : decode cX6_sweeps 29 = .ok (.iload_n 3, 1) := by decide +kernel
theorem dX6_sweeps_30 : decode cX6_sweeps 30 = .ok (.iaload, 1) := by decide +kernel
theorem dX6_sweeps_31 : decode cX6_sweeps 31 = .ok (.iload_n 1, 1) := by decide +kernel
theorem dX6_sweeps_32 : decode cX6_sweeps 32 = .ok (.invokestatic 128, 3) := by decide +kernel
theorem dX6_sweeps_35 : decode cX6_sweeps 35 = .ok (.ifCond .eq 16, 3) := by decide +kernel
theorem dX6_sweeps_38 : decode cX6_sweeps 38 = .ok (.iload_n 2, 1) := by decide +kernel
theorem dX6_sweeps_39 : decode cX6_sweeps 39 = .ok (.aload_n 0, 1) := by decide +kernel
theorem dX6_sweeps_40 : decode cX6_sweeps 40 = .ok (.getfield 94, 3) := by decide +kernel
theorem dX6_sweeps_43 : decode cX6_sweeps 43 = .ok (.iload_n 3, 1) := by decide +kernel
theorem dX6_sweeps_44 : decode cX6_sweeps 44 = .ok (.iaload, 1) := by decide +kernel
theorem dX6_sweeps_45 : decode cX6_sweeps 45 = .ok (.invokestatic 215, 3) := by decide +kernel
theorem dX6_sweeps_48 : decode cX6_sweeps 48 = .ok (.goto 4, 3) := by decide +kernel
theorem dX6_sweeps_51 : decode cX6_sweeps 51 = .ok (.iload_n 2, 1) := by decide +kernel
theorem dX6_sweeps_52 : decode cX6_sweeps 52 = .ok (.istore_n 2, 1) := by decide +kernel
theorem dX6_sweeps_53 : decode cX6_sweeps 53 = .ok (.iinc 3 1, 3) := by decide +kernel
theorem dX6_sweeps_56 : decode cX6_sweeps 56 = .ok (.goto (-39), 3) := by decide +kernel
theorem dX6_sweeps_59 : decode cX6_sweeps 59 = .ok (.aload_n 0, 1) := by decide +kernel
theorem dX6_sweeps_60 : decode cX6_sweeps 60 = .ok (.getfield 94, 3) := by decide +kernel
theorem dX6_sweeps_63 : decode cX6_sweeps 63 = .ok (.iload_n 1, 1) := by decide +kernel
theorem dX6_sweeps_64 : decode cX6_sweeps 64 = .ok (.aload_n 0, 1) := by decide +kernel
theorem dX6_sweeps_65 : decode cX6_sweeps 65 = .ok (.getfield 19, 3) := by decide +kernel
theorem dX6_sweeps_68 : decode cX6_sweeps 68 = .ok (.iload_n 1, 1) := by decide +kernel
theorem dX6_sweeps_69 : decode cX6_sweeps 69 = .ok (.iaload, 1) := by decide +kernel
theorem dX6_sweeps_70 : decode cX6_sweeps 70 = .ok (.iload_n 2, 1) := by decide +kernel
theorem dX6_sweeps_71 : decode cX6_sweeps 71 = .ok (.iadd, 1) := by decide +kernel
theorem dX6_sweeps_72 : decode cX6_sweeps 72 = .ok (.iastore, 1) := by decide +kernel
theorem dX6_sweeps_73 : decode cX6_sweeps 73 = .ok (.iinc 1 (-1), 3) := by decide +kernel
theorem dX6_sweeps_76 : decode cX6_sweeps 76 = .ok (.goto (-69), 3) := by decide +kernel
theorem dX6_sweeps_79 : decode cX6_sweeps 79 = .ok (.return_, 1) := by decide +kernel
theorem dX6_nextStep_0 : decode cX6_nextStep 0 = .ok (.aload_n 0, 1) := by decide +kernel
theorem dX6_nextStep_1 : decode cX6_nextStep 1 = .ok (.iconst 0, 1) := by decide +kernel
theorem dX6_nextStep_2 : decode cX6_nextStep 2 = .ok (.putfield 97, 3) := by decide +kernel
theorem dX6_nextStep_5 : decode cX6_nextStep 5 = .ok (.aload_n 0, 1) := by decide +kernel
theorem dX6_nextStep_6 : decode cX6_nextStep 6 = .ok (.iload_n 1, 1) := by decide +kernel
theorem dX6_nextStep_7 : decode cX6_nextStep 7 = .ok (.invokevirtual 114, 3) := by decide +kernel
theorem dX6_nextStep_10 : decode cX6_nextStep 10 = .ok (.ifCond .ne 9, 3) := by decide +kernel
theorem dX6_nextStep_13 : decode cX6_nextStep 13 = .ok (.aload_n 0, 1) := by decide +kernel
theorem dX6_nextStep_14 : decode cX6_nextStep 14 = .ok (.iconst 1, 1) := by decide +kernel
theorem dX6_nextStep_15 : decode cX6_nextStep 15 = .ok (.invokevirtual 110, 3) := by decide +kernel
theorem dX6_nextStep_18 : decode cX6_nextStep 18 = .ok (.ireturn, 1) := by decide +kernel
theorem dX6_nextStep_19 : decode cX6_nextStep 19 = .ok (.aload_n 0, 1) := by decide +kernel
theorem dX6_nextStep_20 : decode cX6_nextStep 20 = .ok (.invokevirtual 221, 3) := by decide +kernel
theorem dX6_nextStep_23 : decode cX6_nextStep 23 = .ok (.iconst (-1), 1) := by decide +kernel
theorem dX6_nextStep_24 : decode cX6_nextStep 24 = .ok (.istore_n 2, 1) := by decide +kernel
theorem dX6_nextStep_25 : decode cX6_nextStep 25 = .ok (.iconst 0, 1) := by decide +kernel
theorem dX6_nextStep_26 : decode cX6_nextStep 26 = .ok (.istore_n 3, 1) := by decide +kernel
theorem dX6_nextStep_27 : decode cX6_nextStep 27 = .ok (.iload_n 3, 1) := by decide +kernel
theorem dX6_nextStep_28 : decode cX6_nextStep 28 = .ok (.aload_n 0, 1) := by decide +kernel
theorem dX6_nextStep_29 : decode cX6_nextStep 29 = .ok (.getfield 107, 3) := by decide +kernel
theorem dX6_nextStep_32 : decode cX6_nextStep 32 = .ok (.if_icmp .ge 57, 3) := by decide +kernel
theorem dX6_nextStep_35 : decode cX6_nextStep 35 = .ok (.aload_n 0, 1) := by decide +kernel
theorem dX6_nextStep_36 : decode cX6_nextStep 36 = .ok (.iload_n 3, 1) := by decide +kernel
theorem dX6_nextStep_37 : decode cX6_nextStep 37 = .ok (.invokevirtual 162, 3) := by decide +kernel
theorem dX6_nextStep_40 : decode cX6_nextStep 40 = .ok (.ifCond .eq 43, 3) := by decide +kernel
theorem dX6_nextStep_43 : decode cX6_nextStep 43 = .ok (.aload_n 0, 1) := by decide +kernel
theorem dX6_nextStep_44 : decode cX6_nextStep 44 = .ok (.getfield 9, 3) := by decide +kernel
theorem dX6_nextStep_47 : decode cX6_nextStep 47 = .ok (.iload_n 1, 1) := by decide +kernel
theorem dX6_nextStep_48 : decode cX6_nextStep 48 = .ok (.iaload, 1) := by decide +kernel
theorem dX6_nextStep_49 : decode cX6_nextStep 49 = .ok (.aload_n 0, 1) := by decide +kernel
theorem dX6_nextStep_50 : decode cX6_nextStep 50 = .ok (.getfield 16, 3) := by decide +kernel
theorem dX6_nextStep_53 : decode cX6_nextStep 53 = .ok (.iload_n 3, 1) := by decide +kernel
theorem dX6_nextStep_54 : decode cX6_nextStep 54 = .ok (.iaload, 1) := by decide +kernel
theorem dX6_nextStep_55 : decode cX6_nextStep 55 = .ok (.invokestatic 128, 3) := by decide +kernel
theorem dX6_nextStep_58 : decode cX6_nextStep 58 = .ok (.ifCond .eq 25, 3) := by decide +kernel
theorem dX6_nextStep_61 : decode cX6_nextStep 61 = .ok (.iload_n 2, 1) := by decide +kernel
theorem dX6_nextStep_62 : decode cX6_nextStep 62 = .ok (.iconst (-1), 1) := by decide +kernel
theorem dX6_nextStep_63 : decode cX6_nextStep 63 = .ok (.if_icmp .eq 18, 3) := by decide +kernel
theorem dX6_nextStep_66 : decode cX6_nextStep 66 = .ok (.aload_n 0, 1) := by decide +kernel
theorem dX6_nextStep_67 : decode cX6_nextStep 67 = .ok (.getfield 94, 3) := by decide +kernel
theorem dX6_nextStep_70 : decode cX6_nextStep 70 = .ok (.iload_n 3, 1) := by decide +kernel
theorem dX6_nextStep_71 : decode cX6_nextStep 71 = .ok (.iaload, 1) := by decide +kernel
theorem dX6_nextStep_72 : decode cX6_nextStep 72 = .ok (.aload_n 0, 1) := by decide +kernel
theorem dX6_nextStep_73 : decode cX6_nextStep 73 = .ok (.getfield 94, 3) := by decide +kernel
theorem dX6_nextStep_76 : decode cX6_nextStep 76 = .ok (.iload_n 2, 1) := by decide +kernel
theorem dX6_nextStep_77 : decode cX6_nextStep 77 = .ok (.iaload, 1) := by decide +kernel
theorem dX6_nextStep_78 : decode cX6_nextStep 78 = .ok (.if_icmp .le 5, 3) := by decide +kernel
theorem dX6_nextStep_81 : decode cX6_nextStep 81 = .ok (.iload_n 3, 1) := by decide +kernel
theorem dX6_nextStep_82 : decode cX6_nextStep 82 = .ok (.istore_n 2, 1) := by decide +kernel
theorem dX6_nextStep_83 : decode cX6_nextStep 83 = .ok (.iinc 3 1, 3) := by decide +kernel
theorem dX6_nextStep_86 : decode cX6_nextStep 86 = .ok (.goto (-59), 3) := by decide +kernel
theorem dX6_nextStep_89 : decode cX6_nextStep 89 = .ok (.iload_n 2, 1) := by decide +kernel
theorem dX6_nextStep_90 : decode cX6_nextStep 90 = .ok (.iconst (-1), 1) := by decide +kernel
theorem dX6_nextStep_91 : decode cX6_nextStep 91 = .ok (.if_icmp .ne 11, 3) := by decide +kernel
theorem dX6_nextStep_94 : decode cX6_nextStep 94 = .ok (.aload_n 0, 1) := by decide +kernel
theorem dX6_nextStep_95 : decode cX6_nextStep 95 = .ok (.iconst 2, 1) := by decide +kernel
theorem dX6_nextStep_96 : decode cX6_nextStep 96 = .ok (.invokevirtual 110, 3) := by decide +kernel
theorem dX6_nextStep_99 : decode cX6_nextStep 99 = .ok (.goto 4, 3) := by decide +kernel
theorem dX6_nextStep_102 : decode cX6_nextStep 102 = .ok (.iload_n 2, 1) := by decide +kernel
theorem dX6_nextStep_103 : decode cX6_nextStep 103 = .ok (.ireturn, 1) := by decide +kernel
theorem dX6_restOf_0 : decode cX6_restOf 0 = .ok (.aload_n 0, 1) := by decide +kernel
theorem dX6_restOf_1 : decode cX6_restOf 1 = .ok (.iconst 0, 1) := by decide +kernel
theorem dX6_restOf_2 : decode cX6_restOf 2 = .ok (.putfield 97, 3) := by decide +kernel
theorem dX6_restOf_5 : decode cX6_restOf 5 = .ok (.aload_n 0, 1) := by decide +kernel
theorem dX6_restOf_6 : decode cX6_restOf 6 = .ok (.invokevirtual 221, 3) := by decide +kernel
theorem dX6_restOf_9 : decode cX6_restOf 9 = .ok (.aload_n 0, 1) := by decide +kernel
theorem dX6_restOf_10 : decode cX6_restOf 10 = .ok (.iload_n 1, 1) := by decide +kernel
theorem dX6_restOf_11 : decode cX6_restOf 11 = .ok (.invokevirtual 132, 3) := by decide +kernel
theorem dX6_restOf_14 : decode cX6_restOf 14 = .ok (.ifCond .eq 12, 3) := by decide +kernel
theorem dX6_restOf_17 : decode cX6_restOf 17 = .ok (.aload_n 0, 1) := by decide +kernel
theorem dX6_restOf_18 : decode cX6_restOf 18 = .ok (.getfield 94, 3) := by decide +kernel
theorem dX6_restOf_21 : decode cX6_restOf 21 = .ok (.iload_n 1, 1) := by decide +kernel
theorem dX6_restOf_22 : decode cX6_restOf 22 = .ok (.iaload, 1) := by decide +kernel
theorem dX6_restOf_23 : decode cX6_restOf 23 = .ok (.goto 8, 3) := by decide +kernel
theorem dX6_restOf_26 : decode cX6_restOf 26 = .ok (.aload_n 0, 1) := by decide +kernel
theorem dX6_restOf_27 : decode cX6_restOf 27 = .ok (.iconst 1, 1) := by decide +kernel
theorem dX6_restOf_28 : decode cX6_restOf 28 = .ok (.invokevirtual 110, 3) := by decide +kernel
theorem dX6_restOf_31 : decode cX6_restOf 31 = .ok (.ireturn, 1) := by decide +kernel
theorem dX6_restBySweep_0 : decode cX6_restBySweep 0 = .ok (.aload_n 0, 1) := by decide +kernel
theorem dX6_restBySweep_1 : decode cX6_restBySweep 1 = .ok (.iload_n 1, 1) := by decide +kernel
theorem dX6_restBySweep_2 : decode cX6_restBySweep 2 = .ok (.invokevirtual 224, 3) := by decide +kernel
theorem dX6_restBySweep_5 : decode cX6_restBySweep 5 = .ok (.ireturn, 1) := by decide +kernel
theorem dX6_isSettled_0 : decode cX6_isSettled 0 = .ok (.aload_n 0, 1) := by decide +kernel
theorem dX6_isSettled_1 : decode cX6_isSettled 1 = .ok (.iconst 0, 1) := by decide +kernel
theorem dX6_isSettled_2 : decode cX6_isSettled 2 = .ok (.putfield 97, 3) := by decide +kernel
theorem dX6_isSettled_5 : decode cX6_isSettled 5 = .ok (.aload_n 0, 1) := by decide +kernel
theorem dX6_isSettled_6 : decode cX6_isSettled 6 = .ok (.iload_n 1, 1) := by decide +kernel
theorem dX6_isSettled_7 : decode cX6_isSettled 7 = .ok (.invokevirtual 132, 3) := by decide +kernel
theorem dX6_isSettled_10 : decode cX6_isSettled 10 = .ok (.ifCond .eq 26, 3) := by decide +kernel
theorem dX6_isSettled_13 : decode cX6_isSettled 13 = .ok (.aload_n 0, 1) := by decide +kernel
theorem dX6_isSettled_14 : decode cX6_isSettled 14 = .ok (.getfield 124, 3) := by decide +kernel
theorem dX6_isSettled_17 : decode cX6_isSettled 17 = .ok (.ifCond .eq 15, 3) := by decide +kernel
theorem dX6_isSettled_20 : decode cX6_isSettled 20 = .ok (.aload_n 0, 1) := by decide +kernel
theorem dX6_isSettled_21 : decode cX6_isSettled 21 = .ok (.iload_n 1, 1) := by decide +kernel
theorem dX6_isSettled_22 : decode cX6_isSettled 22 = .ok (.invokevirtual 153, 3) := by decide +kernel
theorem dX6_isSettled_25 : decode cX6_isSettled 25 = .ok (.ifCond .eq 7, 3) := by decide +kernel
theorem dX6_isSettled_28 : decode cX6_isSettled 28 = .ok (.iconst 1, 1) := by decide +kernel
theorem dX6_isSettled_29 : decode cX6_isSettled 29 = .ok (.goto 12, 3) := by decide +kernel
theorem dX6_isSettled_32 : decode cX6_isSettled 32 = .ok (.iconst 0, 1) := by decide +kernel
theorem dX6_isSettled_33 : decode cX6_isSettled 33 = .ok (.goto 8, 3) := by decide +kernel
theorem dX6_isSettled_36 : decode cX6_isSettled 36 = .ok (.aload_n 0, 1) := by decide +kernel
theorem dX6_isSettled_37 : decode cX6_isSettled 37 = .ok (.iconst 1, 1) := by decide +kernel
theorem dX6_isSettled_38 : decode cX6_isSettled 38 = .ok (.invokevirtual 118, 3) := by decide +kernel
theorem dX6_isSettled_41 : decode cX6_isSettled 41 = .ok (.ireturn, 1) := by decide +kernel
theorem dX6_isOverNow_0 : decode cX6_isOverNow 0 = .ok (.iconst 0, 1) := by decide +kernel
theorem dX6_isOverNow_1 : decode cX6_isOverNow 1 = .ok (.istore_n 1, 1) := by decide +kernel
theorem dX6_isOverNow_2 : decode cX6_isOverNow 2 = .ok (.iload_n 1, 1) := by decide +kernel
theorem dX6_isOverNow_3 : decode cX6_isOverNow 3 = .ok (.aload_n 0, 1) := by decide +kernel
theorem dX6_isOverNow_4 : decode cX6_isOverNow 4 = .ok (.getfield 107, 3) := by decide +kernel
theorem dX6_isOverNow_7 : decode cX6_isOverNow 7 = .ok (.if_icmp .ge 30, 3) := by decide +kernel
theorem dX6_isOverNow_10 : decode cX6_isOverNow 10 = .ok (.aload_n 0, 1) := by decide +kernel
theorem dX6_isOverNow_11 : decode cX6_isOverNow 11 = .ok (.getfield 60, 3) := by decide +kernel
theorem dX6_isOverNow_14 : decode cX6_isOverNow 14 = .ok (.iload_n 1, 1) := by decide +kernel
theorem dX6_isOverNow_15 : decode cX6_isOverNow 15 = .ok (.caload, 1) := by decide +kernel
theorem dX6_isOverNow_16 : decode cX6_isOverNow 16 = .ok (.bipush 111, 2) := by decide +kernel
theorem dX6_isOverNow_18 : decode cX6_isOverNow 18 = .ok (.if_icmp .eq 13, 3) := by decide +kernel
theorem dX6_isOverNow_21 : decode cX6_isOverNow 21 = .ok (.aload_n 0, 1) := by decide +kernel
theorem dX6_isOverNow_22 : decode cX6_isOverNow 22 = .ok (.iload_n 1, 1) := by decide +kernel
theorem dX6_isOverNow_23 : decode cX6_isOverNow 23 = .ok (.invokevirtual 153, 3) := by decide +kernel
theorem dX6_isOverNow_26 : decode cX6_isOverNow 26 = .ok (.ifCond .ne 5, 3) := by decide +kernel
theorem dX6_isOverNow_29 : decode cX6_isOverNow 29 = .ok (.iconst 0, 1) := by decide +kernel
theorem dX6_isOverNow_30 : decode cX6_isOverNow 30 = .ok (.ireturn, 1) := by decide +kernel
theorem dX6_isOverNow_31 : decode cX6_isOverNow 31 = .ok (.iinc 1 1, 3) := by decide +kernel
theorem dX6_isOverNow_34 : decode cX6_isOverNow 34 = .ok (.goto (-32), 3) := by decide +kernel
theorem dX6_isOverNow_37 : decode cX6_isOverNow 37 = .ok (.aload_n 0, 1) := by decide +kernel
theorem dX6_isOverNow_38 : decode cX6_isOverNow 38 = .ok (.getfield 124, 3) := by decide +kernel
theorem dX6_isOverNow_41 : decode cX6_isOverNow 41 = .ok (.ireturn, 1) := by decide +kernel
theorem dX6_isOver_0 : decode cX6_isOver 0 = .ok (.aload_n 0, 1) := by decide +kernel
theorem dX6_isOver_1 : decode cX6_isOver 1 = .ok (.iconst 0, 1) := by decide +kernel
theorem dX6_isOver_2 : decode cX6_isOver 2 = .ok (.putfield 97, 3) := by decide +kernel
theorem dX6_isOver_5 : decode cX6_isOver 5 = .ok (.aload_n 0, 1) := by decide +kernel
theorem dX6_isOver_6 : decode cX6_isOver 6 = .ok (.invokevirtual 227, 3) := by decide +kernel
theorem dX6_isOver_9 : decode cX6_isOver 9 = .ok (.ireturn, 1) := by decide +kernel
theorem dX6_isStuck_0 : decode cX6_isStuck 0 = .ok (.aload_n 0, 1) := by decide +kernel
theorem dX6_isStuck_1 : decode cX6_isStuck 1 = .ok (.iconst 0, 1) := by decide +kernel
theorem dX6_isStuck_2 : decode cX6_isStuck 2 = .ok (.putfield 97, 3) := by decide +kernel
theorem dX6_isStuck_5 : decode cX6_isStuck 5 = .ok (.aload_n 0, 1) := by decide +kernel
theorem dX6_isStuck_6 : decode cX6_isStuck 6 = .ok (.getfield 124, 3) := by decide +kernel
theorem dX6_isStuck_9 : decode cX6_isStuck 9 = .ok (.ifCond .eq 30, 3) := by decide +kernel
theorem dX6_isStuck_12 : decode cX6_isStuck 12 = .ok (.aload_n 0, 1) := by decide +kernel
theorem dX6_isStuck_13 : decode cX6_isStuck 13 = .ok (.invokevirtual 227, 3) := by decide +kernel
theorem dX6_isStuck_16 : decode cX6_isStuck 16 = .ok (.ifCond .ne 23, 3) := by decide +kernel
theorem dX6_isStuck_19 : decode cX6_isStuck 19 = .ok (.aload_n 0, 1) := by decide +kernel
theorem dX6_isStuck_20 : decode cX6_isStuck 20 = .ok (.bipush 97, 2) := by decide +kernel
theorem dX6_isStuck_22 : decode cX6_isStuck 22 = .ok (.invokevirtual 178, 3) := by decide +kernel
theorem dX6_isStuck_25 : decode cX6_isStuck 25 = .ok (.ifCond .ne 14, 3) := by decide +kernel
theorem dX6_isStuck_28 : decode cX6_isStuck 28 = .ok (.aload_n 0, 1) := by decide +kernel
theorem dX6_isStuck_29 : decode cX6_isStuck 29 = .ok (.invokevirtual 174, 3) := by decide +kernel
theorem dX6_isStuck_32 : decode cX6_isStuck 32 = .ok (.ifCond .ne 7, 3) := by decide +kernel
theorem dX6_isStuck_35 : decode cX6_isStuck 35 = .ok (.iconst 1, 1) := by decide +kernel
theorem dX6_isStuck_36 : decode cX6_isStuck 36 = .ok (.goto 4, 3) := by decide +kernel
theorem dX6_isStuck_39 : decode cX6_isStuck 39 = .ok (.iconst 0, 1) := by decide +kernel
theorem dX6_isStuck_40 : decode cX6_isStuck 40 = .ok (.ireturn, 1) := by decide +kernel
theorem dX6_handoverEnd_0 : decode cX6_handoverEnd 0 = .ok (.aload_n 0, 1) := by decide +kernel
theorem dX6_handoverEnd_1 : decode cX6_handoverEnd 1 = .ok (.iconst 0, 1) := by decide +kernel
theorem dX6_handoverEnd_2 : decode cX6_handoverEnd 2 = .ok (.putfield 97, 3) := by decide +kernel
theorem dX6_handoverEnd_5 : decode cX6_handoverEnd 5 = .ok (.aload_n 0, 1) := by decide +kernel
theorem dX6_handoverEnd_6 : decode cX6_handoverEnd 6 = .ok (.getfield 75, 3) := by decide +kernel
theorem dX6_handoverEnd_9 : decode cX6_handoverEnd 9 = .ok (.iconst (-1), 1) := by decide +kernel
theorem dX6_handoverEnd_10 : decode cX6_handoverEnd 10 = .ok (.if_icmp .ne 11, 3) := by decide +kernel
theorem dX6_handoverEnd_13 : decode cX6_handoverEnd 13 = .ok (.aload_n 0, 1) := by decide +kernel
theorem dX6_handoverEnd_14 : decode cX6_handoverEnd 14 = .ok (.iconst 1, 1) := by decide +kernel
theorem dX6_handoverEnd_15 : decode cX6_handoverEnd 15 = .ok (.invokevirtual 110, 3) := by decide +kernel
theorem dX6_handoverEnd_18 : decode cX6_handoverEnd 18 = .ok (.goto 7, 3) := by decide +kernel
theorem dX6_handoverEnd_21 : decode cX6_handoverEnd 21 = .ok (.aload_n 0, 1) := by decide +kernel
theorem dX6_handoverEnd_22 : decode cX6_handoverEnd 22 = .ok (.getfield 196, 3) := by decide +kernel
theorem dX6_handoverEnd_25 : decode cX6_handoverEnd 25 = .ok (.ireturn, 1) := by decide +kernel
theorem dX6_isPaused_0 : decode cX6_isPaused 0 = .ok (.aload_n 0, 1) := by decide +kernel
theorem dX6_isPaused_1 : decode cX6_isPaused 1 = .ok (.iconst 0, 1) := by decide +kernel
theorem dX6_isPaused_2 : decode cX6_isPaused 2 = .ok (.putfield 97, 3) := by decide +kernel
theorem dX6_isPaused_5 : decode cX6_isPaused 5 = .ok (.iload_n 1, 1) := by decide +kernel
theorem dX6_isPaused_6 : decode cX6_isPaused 6 = .ok (.iconst 0, 1) := by decide +kernel
theorem dX6_isPaused_7 : decode cX6_isPaused 7 = .ok (.iconst 3, 1) := by decide +kernel
theorem dX6_isPaused_8 : decode cX6_isPaused 8 = .ok (.invokestatic 103, 3) := by decide +kernel
theorem dX6_isPaused_11 : decode cX6_isPaused 11 = .ok (.ifCond .eq 11, 3) := by decide +kernel
theorem dX6_isPaused_14 : decode cX6_isPaused 14 = .ok (.aload_n 0, 1) := by decide +kernel
theorem dX6_isPaused_15 : decode cX6_isPaused 15 = .ok (.iload_n 1, 1) := by decide +kernel
theorem dX6_isPaused_16 : decode cX6_isPaused 16 = .ok (.invokevirtual 185, 3) := by decide +kernel
theorem dX6_isPaused_19 : decode cX6_isPaused 19 = .ok (.goto 8, 3) := by decide +kernel
theorem dX6_isPaused_22 : decode cX6_isPaused 22 = .ok (.aload_n 0, 1) := by decide +kernel
theorem dX6_isPaused_23 : decode cX6_isPaused 23 = .ok (.iconst 1, 1) := by decide +kernel
theorem dX6_isPaused_24 : decode cX6_isPaused 24 = .ok (.invokevirtual 118, 3) := by decide +kernel
theorem dX6_isPaused_27 : decode cX6_isPaused 27 = .ok (.ireturn, 1) := by decide +kernel
theorem dX6_workedOn_0 : decode cX6_workedOn 0 = .ok (.aload_n 0, 1) := by decide +kernel
theorem dX6_workedOn_1 : decode cX6_workedOn 1 = .ok (.iconst 0, 1) := by decide +kernel
theorem dX6_workedOn_2 : decode cX6_workedOn 2 = .ok (.putfield 97, 3) := by decide +kernel
theorem dX6_workedOn_5 : decode cX6_workedOn 5 = .ok (.aload_n 0, 1) := by decide +kernel
theorem dX6_workedOn_6 : decode cX6_workedOn 6 = .ok (.iload_n 1, 1) := by decide +kernel
theorem dX6_workedOn_7 : decode cX6_workedOn 7 = .ok (.invokevirtual 132, 3) := by decide +kernel
theorem dX6_workedOn_10 : decode cX6_workedOn 10 = .ok (.ifCond .ne 9, 3) := by decide +kernel
theorem dX6_workedOn_13 : decode cX6_workedOn 13 = .ok (.aload_n 0, 1) := by decide +kernel
theorem dX6_workedOn_14 : decode cX6_workedOn 14 = .ok (.iconst 1, 1) := by decide +kernel
theorem dX6_workedOn_15 : decode cX6_workedOn 15 = .ok (.invokevirtual 110, 3) := by decide +kernel
theorem dX6_workedOn_18 : decode cX6_workedOn 18 = .ok (.ireturn, 1) := by decide +kernel
theorem dX6_workedOn_19 : decode cX6_workedOn 19 = .ok (.aload_n 0, 1) := by decide +kernel
theorem dX6_workedOn_20 : decode cX6_workedOn 20 = .ok (.getfield 60, 3) := by decide +kernel
theorem dX6_workedOn_23 : decode cX6_workedOn 23 = .ok (.iload_n 1, 1) := by decide +kernel
theorem dX6_workedOn_24 : decode cX6_workedOn 24 = .ok (.caload, 1) := by decide +kernel
theorem dX6_workedOn_25 : decode cX6_workedOn 25 = .ok (.bipush 97, 2) := by decide +kernel
theorem dX6_workedOn_27 : decode cX6_workedOn 27 = .ok (.if_icmp .ne 12, 3) := by decide +kernel
theorem dX6_workedOn_30 : decode cX6_workedOn 30 = .ok (.aload_n 0, 1) := by decide +kernel
theorem dX6_workedOn_31 : decode cX6_workedOn 31 = .ok (.getfield 69, 3) := by decide +kernel
theorem dX6_workedOn_34 : decode cX6_workedOn 34 = .ok (.iload_n 1, 1) := by decide +kernel
theorem dX6_workedOn_35 : decode cX6_workedOn 35 = .ok (.iaload, 1) := by decide +kernel
theorem dX6_workedOn_36 : decode cX6_workedOn 36 = .ok (.goto 8, 3) := by decide +kernel
theorem dX6_workedOn_39 : decode cX6_workedOn 39 = .ok (.aload_n 0, 1) := by decide +kernel
theorem dX6_workedOn_40 : decode cX6_workedOn 40 = .ok (.iconst 2, 1) := by decide +kernel
theorem dX6_workedOn_41 : decode cX6_workedOn 41 = .ok (.invokevirtual 110, 3) := by decide +kernel
theorem dX6_workedOn_44 : decode cX6_workedOn 44 = .ok (.ireturn, 1) := by decide +kernel
theorem dX6_lastDone_0 : decode cX6_lastDone 0 = .ok (.aload_n 0, 1) := by decide +kernel
theorem dX6_lastDone_1 : decode cX6_lastDone 1 = .ok (.iconst 0, 1) := by decide +kernel
theorem dX6_lastDone_2 : decode cX6_lastDone 2 = .ok (.putfield 97, 3) := by decide +kernel
theorem dX6_lastDone_5 : decode cX6_lastDone 5 = .ok (.aload_n 0, 1) := by decide +kernel
theorem dX6_lastDone_6 : decode cX6_lastDone 6 = .ok (.getfield 124, 3) := by decide +kernel
theorem dX6_lastDone_9 : decode cX6_lastDone 9 = .ok (.ifCond .eq 24, 3) := by decide +kernel
theorem dX6_lastDone_12 : decode cX6_lastDone 12 = .ok (.aload_n 0, 1) := by decide +kernel
theorem dX6_lastDone_13 : decode cX6_lastDone 13 = .ok (.getfield 171, 3) := by decide +kernel
theorem dX6_lastDone_16 : decode cX6_lastDone 16 = .ok (.ifCond .le 17, 3) := by decide +kernel
theorem dX6_lastDone_19 : decode cX6_lastDone 19 = .ok (.aload_n 0, 1) := by decide +kernel
theorem dX6_lastDone_20 : decode cX6_lastDone 20 = .ok (.getfield 72, 3) := by decide +kernel
theorem dX6_lastDone_23 : decode cX6_lastDone 23 = .ok (.aload_n 0, 1) := by decide +kernel
theorem dX6_lastDone_24 : decode cX6_lastDone 24 = .ok (.getfield 171, 3) := by decide +kernel
theorem dX6_lastDone_27 : decode cX6_lastDone 27 = .ok (.iconst 1, 1) := by decide +kernel
theorem dX6_lastDone_28 : decode cX6_lastDone 28 = .ok (.isub, 1) := by decide +kernel
theorem dX6_lastDone_29 : decode cX6_lastDone 29 = .ok (.iaload, 1) := by decide +kernel
theorem dX6_lastDone_30 : decode cX6_lastDone 30 = .ok (.goto 8, 3) := by decide +kernel
theorem dX6_lastDone_33 : decode cX6_lastDone 33 = .ok (.aload_n 0, 1) := by decide +kernel
theorem dX6_lastDone_34 : decode cX6_lastDone 34 = .ok (.iconst 1, 1) := by decide +kernel
theorem dX6_lastDone_35 : decode cX6_lastDone 35 = .ok (.invokevirtual 110, 3) := by decide +kernel
theorem dX6_lastDone_38 : decode cX6_lastDone 38 = .ok (.ireturn, 1) := by decide +kernel
theorem dX6_isEntry_0 : decode cX6_isEntry 0 = .ok (.iload_n 1, 1) := by decide +kernel
theorem dX6_isEntry_1 : decode cX6_isEntry 1 = .ok (.iconst 0, 1) := by decide +kernel
theorem dX6_isEntry_2 : decode cX6_isEntry 2 = .ok (.aload_n 0, 1) := by decide +kernel
theorem dX6_isEntry_3 : decode cX6_isEntry 3 = .ok (.getfield 144, 3) := by decide +kernel
theorem dX6_isEntry_6 : decode cX6_isEntry 6 = .ok (.iconst 1, 1) := by decide +kernel
theorem dX6_isEntry_7 : decode cX6_isEntry 7 = .ok (.isub, 1) := by decide +kernel
theorem dX6_isEntry_8 : decode cX6_isEntry 8 = .ok (.invokestatic 103, 3) := by decide +kernel
theorem dX6_isEntry_11 : decode cX6_isEntry 11 = .ok (.ireturn, 1) := by decide +kernel
theorem dX6_entries_0 : decode cX6_entries 0 = .ok (.aload_n 0, 1) := by decide +kernel
theorem dX6_entries_1 : decode cX6_entries 1 = .ok (.iconst 0, 1) := by decide +kernel
theorem dX6_entries_2 : decode cX6_entries 2 = .ok (.putfield 97, 3) := by decide +kernel
theorem dX6_entries_5 : decode cX6_entries 5 = .ok (.aload_n 0, 1) := by decide +kernel
theorem dX6_entries_6 : decode cX6_entries 6 = .ok (.getfield 144, 3) := by decide +kernel
theorem dX6_entries_9 : decode cX6_entries 9 = .ok (.ireturn, 1) := by decide +kernel
theorem dX6_signAt_0 : decode cX6_signAt 0 = .ok (.aload_n 0, 1) := by decide +kernel
theorem dX6_signAt_1 : decode cX6_signAt 1 = .ok (.iconst 0, 1) := by decide +kernel
theorem dX6_signAt_2 : decode cX6_signAt 2 = .ok (.putfield 97, 3) := by decide +kernel
theorem dX6_signAt_5 : decode cX6_signAt 5 = .ok (.aload_n 0, 1) := by decide +kernel
theorem dX6_signAt_6 : decode cX6_signAt 6 = .ok (.iload_n 1, 1) := by decide +kernel
theorem dX6_signAt_7 : decode cX6_signAt 7 = .ok (.invokevirtual 231, 3) := by decide +kernel
theorem dX6_signAt_10 : decode cX6_signAt 10 = .ok (.ifCond .eq 12, 3) := by decide +kernel
theorem dX6_signAt_13 : decode cX6_signAt 13 = .ok (.aload_n 0, 1) := by decide +kernel
theorem dX6_signAt_14 : decode cX6_signAt 14 = .ok (.getfield 82, 3) := by decide +kernel
theorem dX6_signAt_17 : decode cX6_signAt 17 = .ok (.iload_n 1, 1) := by decide +kernel
theorem dX6_signAt_18 : decode cX6_signAt 18 = .ok (.caload, 1) := by decide +kernel
theorem dX6_signAt_19 : decode cX6_signAt 19 = .ok (.goto 9, 3) := by decide +kernel
theorem dX6_signAt_22 : decode cX6_signAt 22 = .ok (.aload_n 0, 1) := by decide +kernel
theorem dX6_signAt_23 : decode cX6_signAt 23 = .ok (.iconst 1, 1) := by decide +kernel
theorem dX6_signAt_24 : decode cX6_signAt 24 = .ok (.invokevirtual 110, 3) := by decide +kernel
theorem dX6_signAt_27 : decode cX6_signAt 27 = .ok (.i2c, 1) := by decide +kernel
theorem dX6_signAt_28 : decode cX6_signAt 28 = .ok (.ireturn, 1) := by decide +kernel
theorem dX6_stepAt_0 : decode cX6_stepAt 0 = .ok (.aload_n 0, 1) := by decide +kernel
theorem dX6_stepAt_1 : decode cX6_stepAt 1 = .ok (.iconst 0, 1) := by decide +kernel
theorem dX6_stepAt_2 : decode cX6_stepAt 2 = .ok (.putfield 97, 3) := by decide +kernel
theorem dX6_stepAt_5 : decode cX6_stepAt 5 = .ok (.aload_n 0, 1) := by decide +kernel
theorem dX6_stepAt_6 : decode cX6_stepAt 6 = .ok (.iload_n 1, 1) := by decide +kernel
theorem dX6_stepAt_7 : decode cX6_stepAt 7 = .ok (.invokevirtual 231, 3) := by decide +kernel
theorem dX6_stepAt_10 : decode cX6_stepAt 10 = .ok (.ifCond .eq 12, 3) := by decide +kernel
theorem dX6_stepAt_13 : decode cX6_stepAt 13 = .ok (.aload_n 0, 1) := by decide +kernel
theorem dX6_stepAt_14 : decode cX6_stepAt 14 = .ok (.getfield 85, 3) := by decide +kernel
theorem dX6_stepAt_17 : decode cX6_stepAt 17 = .ok (.iload_n 1, 1) := by decide +kernel
theorem dX6_stepAt_18 : decode cX6_stepAt 18 = .ok (.iaload, 1) := by decide +kernel
theorem dX6_stepAt_19 : decode cX6_stepAt 19 = .ok (.goto 8, 3) := by decide +kernel
theorem dX6_stepAt_22 : decode cX6_stepAt 22 = .ok (.aload_n 0, 1) := by decide +kernel
theorem dX6_stepAt_23 : decode cX6_stepAt 23 = .ok (.iconst 1, 1) := by decide +kernel
theorem dX6_stepAt_24 : decode cX6_stepAt 24 = .ok (.invokevirtual 110, 3) := by decide +kernel
theorem dX6_stepAt_27 : decode cX6_stepAt 27 = .ok (.ireturn, 1) := by decide +kernel
theorem dX6_personAt_0 : decode cX6_personAt 0 = .ok (.aload_n 0, 1) := by decide +kernel
theorem dX6_personAt_1 : decode cX6_personAt 1 = .ok (.iconst 0, 1) := by decide +kernel
theorem dX6_personAt_2 : decode cX6_personAt 2 = .ok (.putfield 97, 3) := by decide +kernel
theorem dX6_personAt_5 : decode cX6_personAt 5 = .ok (.aload_n 0, 1) := by decide +kernel
theorem dX6_personAt_6 : decode cX6_personAt 6 = .ok (.iload_n 1, 1) := by decide +kernel
theorem dX6_personAt_7 : decode cX6_personAt 7 = .ok (.invokevirtual 231, 3) := by decide +kernel
theorem dX6_personAt_10 : decode cX6_personAt 10 = .ok (.ifCond .eq 12, 3) := by decide +kernel
theorem dX6_personAt_13 : decode cX6_personAt 13 = .ok (.aload_n 0, 1) := by decide +kernel
theorem dX6_personAt_14 : decode cX6_personAt 14 = .ok (.getfield 88, 3) := by decide +kernel
theorem dX6_personAt_17 : decode cX6_personAt 17 = .ok (.iload_n 1, 1) := by decide +kernel
theorem dX6_personAt_18 : decode cX6_personAt 18 = .ok (.iaload, 1) := by decide +kernel
theorem dX6_personAt_19 : decode cX6_personAt 19 = .ok (.goto 8, 3) := by decide +kernel
theorem dX6_personAt_22 : decode cX6_personAt 22 = .ok (.aload_n 0, 1) := by decide +kernel
theorem dX6_personAt_23 : decode cX6_personAt 23 = .ok (.iconst 1, 1) := by decide +kernel
theorem dX6_personAt_24 : decode cX6_personAt 24 = .ok (.invokevirtual 110, 3) := by decide +kernel
theorem dX6_personAt_27 : decode cX6_personAt 27 = .ok (.ireturn, 1) := by decide +kernel
theorem dX6_minuteAt_0 : decode cX6_minuteAt 0 = .ok (.aload_n 0, 1) := by decide +kernel
theorem dX6_minuteAt_1 : decode cX6_minuteAt 1 = .ok (.iconst 0, 1) := by decide +kernel
theorem dX6_minuteAt_2 : decode cX6_minuteAt 2 = .ok (.putfield 97, 3) := by decide +kernel
theorem dX6_minuteAt_5 : decode cX6_minuteAt 5 = .ok (.aload_n 0, 1) := by decide +kernel
theorem dX6_minuteAt_6 : decode cX6_minuteAt 6 = .ok (.iload_n 1, 1) := by decide +kernel
theorem dX6_minuteAt_7 : decode cX6_minuteAt 7 = .ok (.invokevirtual 231, 3) := by decide +kernel
theorem dX6_minuteAt_10 : decode cX6_minuteAt 10 = .ok (.ifCond .eq 12, 3) := by decide +kernel
theorem dX6_minuteAt_13 : decode cX6_minuteAt 13 = .ok (.aload_n 0, 1) := by decide +kernel
theorem dX6_minuteAt_14 : decode cX6_minuteAt 14 = .ok (.getfield 91, 3) := by decide +kernel
theorem dX6_minuteAt_17 : decode cX6_minuteAt 17 = .ok (.iload_n 1, 1) := by decide +kernel
theorem dX6_minuteAt_18 : decode cX6_minuteAt 18 = .ok (.iaload, 1) := by decide +kernel
theorem dX6_minuteAt_19 : decode cX6_minuteAt 19 = .ok (.goto 8, 3) := by decide +kernel
theorem dX6_minuteAt_22 : decode cX6_minuteAt 22 = .ok (.aload_n 0, 1) := by decide +kernel
theorem dX6_minuteAt_23 : decode cX6_minuteAt 23 = .ok (.iconst 1, 1) := by decide +kernel
theorem dX6_minuteAt_24 : decode cX6_minuteAt 24 = .ok (.invokevirtual 110, 3) := by decide +kernel
theorem dX6_minuteAt_27 : decode cX6_minuteAt 27 = .ok (.ireturn, 1) := by decide +kernel
theorem dX6_stateByLog_0 : decode cX6_stateByLog 0 = .ok (.aload_n 0, 1) := by decide +kernel
theorem dX6_stateByLog_1 : decode cX6_stateByLog 1 = .ok (.iload_n 1, 1) := by decide +kernel
theorem dX6_stateByLog_2 : decode cX6_stateByLog 2 = .ok (.invokevirtual 234, 3) := by decide +kernel
theorem dX6_stateByLog_5 : decode cX6_stateByLog 5 = .ok (.ireturn, 1) := by decide +kernel
theorem dX6_triesByLog_0 : decode cX6_triesByLog 0 = .ok (.aload_n 0, 1) := by decide +kernel
theorem dX6_triesByLog_1 : decode cX6_triesByLog 1 = .ok (.iload_n 1, 1) := by decide +kernel
theorem dX6_triesByLog_2 : decode cX6_triesByLog 2 = .ok (.invokevirtual 238, 3) := by decide +kernel
theorem dX6_triesByLog_5 : decode cX6_triesByLog 5 = .ok (.ireturn, 1) := by decide +kernel
theorem dX6_label_0 : decode cX6_label 0 = .ok (.new 241, 3) := by decide +kernel
theorem dX6_label_3 : decode cX6_label 3 = .ok (.dup, 1) := by decide +kernel
theorem dX6_label_4 : decode cX6_label 4 = .ok (.invokespecial 243, 3) := by decide +kernel
theorem dX6_label_7 : decode cX6_label 7 = .ok (.astore_n 2, 1) := by decide +kernel
theorem dX6_label_8 : decode cX6_label 8 = .ok (.aload_n 2, 1) := by decide +kernel
theorem dX6_label_9 : decode cX6_label 9 = .ok (.iload_n 1, 1) := by decide +kernel
theorem dX6_label_10 : decode cX6_label 10 = .ok (.invokevirtual 244, 3) := by decide +kernel
theorem dX6_label_13 : decode cX6_label 13 = .ok (.bipush 65, 2) := by decide +kernel
theorem dX6_label_15 : decode cX6_label 15 = .ok (.aload_n 0, 1) := by decide +kernel
theorem dX6_label_16 : decode cX6_label 16 = .ok (.getfield 16, 3) := by decide +kernel
theorem dX6_label_19 : decode cX6_label 19 = .ok (.iload_n 1, 1) := by decide +kernel
theorem dX6_label_20 : decode cX6_label 20 = .ok (.iaload, 1) := by decide +kernel
theorem dX6_label_21 : decode cX6_label 21 = .ok (.iadd, 1) := by decide +kernel
theorem dX6_label_22 : decode cX6_label 22 = .ok (.i2c, 1) := by decide +kernel
theorem dX6_label_23 : decode cX6_label 23 = .ok (.invokevirtual 248, 3) := by decide +kernel
theorem dX6_label_26 : decode cX6_label 26 = .ok (.aload_n 0, 1) := by decide +kernel
theorem dX6_label_27 : decode cX6_label 27 = .ok (.getfield 19, 3) := by decide +kernel
theorem dX6_label_30 : decode cX6_label 30 = .ok (.iload_n 1, 1) := by decide +kernel
theorem dX6_label_31 : decode cX6_label 31 = .ok (.iaload, 1) := by decide +kernel
theorem dX6_label_32 : decode cX6_label 32 = .ok (.invokevirtual 244, 3) := by decide +kernel
theorem dX6_label_35 : decode cX6_label 35 = .ok (.aload_n 0, 1) := by decide +kernel
theorem dX6_label_36 : decode cX6_label 36 = .ok (.getfield 43, 3) := by decide +kernel
theorem dX6_label_39 : decode cX6_label 39 = .ok (.iload_n 1, 1) := by decide +kernel
theorem dX6_label_40 : decode cX6_label 40 = .ok (.caload, 1) := by decide +kernel
theorem dX6_label_41 : decode cX6_label 41 = .ok (.invokevirtual 248, 3) := by decide +kernel
theorem dX6_label_44 : decode cX6_label 44 = .ok (.pop, 1) := by decide +kernel
theorem dX6_label_45 : decode cX6_label 45 = .ok (.aload_n 2, 1) := by decide +kernel
theorem dX6_label_46 : decode cX6_label 46 = .ok (.invokevirtual 251, 3) := by decide +kernel
theorem dX6_label_49 : decode cX6_label 49 = .ok (.areturn, 1) := by decide +kernel
theorem dX6_labelLength_0 : decode cX6_labelLength 0 = .ok (.aload_n 0, 1) := by decide +kernel
theorem dX6_labelLength_1 : decode cX6_labelLength 1 = .ok (.iconst 0, 1) := by decide +kernel
theorem dX6_labelLength_2 : decode cX6_labelLength 2 = .ok (.putfield 97, 3) := by decide +kernel
theorem dX6_labelLength_5 : decode cX6_labelLength 5 = .ok (.aload_n 0, 1) := by decide +kernel
theorem dX6_labelLength_6 : decode cX6_labelLength 6 = .ok (.iload_n 1, 1) := by decide +kernel
theorem dX6_labelLength_7 : decode cX6_labelLength 7 = .ok (.invokevirtual 132, 3) := by decide +kernel
theorem dX6_labelLength_10 : decode cX6_labelLength 10 = .ok (.ifCond .eq 14, 3) := by decide +kernel
theorem dX6_labelLength_13 : decode cX6_labelLength 13 = .ok (.aload_n 0, 1) := by decide +kernel
theorem dX6_labelLength_14 : decode cX6_labelLength 14 = .ok (.iload_n 1, 1) := by decide +kernel
theorem dX6_labelLength_15 : decode cX6_labelLength 15 = .ok (.invokevirtual 255, 3) := by decide +kernel
theorem dX6_labelLength_18 : decode cX6_labelLength 18 = .ok (.invokevirtual 259, 3) := by decide +kernel
theorem dX6_labelLength_21 : decode cX6_labelLength 21 = .ok (.goto 8, 3) := by decide +kernel
theorem dX6_labelLength_24 : decode cX6_labelLength 24 = .ok (.aload_n 0, 1) := by decide +kernel
theorem dX6_labelLength_25 : decode cX6_labelLength 25 = .ok (.iconst 1, 1) := by decide +kernel
theorem dX6_labelLength_26 : decode cX6_labelLength 26 = .ok (.invokevirtual 110, 3) := by decide +kernel
theorem dX6_labelLength_29 : decode cX6_labelLength 29 = .ok (.ireturn, 1) := by decide +kernel
theorem dX6_labelAt_0 : decode cX6_labelAt 0 = .ok (.aload_n 0, 1) := by decide +kernel
theorem dX6_labelAt_1 : decode cX6_labelAt 1 = .ok (.iconst 0, 1) := by decide +kernel
theorem dX6_labelAt_2 : decode cX6_labelAt 2 = .ok (.putfield 97, 3) := by decide +kernel
theorem dX6_labelAt_5 : decode cX6_labelAt 5 = .ok (.aload_n 0, 1) := by decide +kernel
theorem dX6_labelAt_6 : decode cX6_labelAt 6 = .ok (.iload_n 1, 1) := by decide +kernel
theorem dX6_labelAt_7 : decode cX6_labelAt 7 = .ok (.invokevirtual 132, 3) := by decide +kernel
theorem dX6_labelAt_10 : decode cX6_labelAt 10 = .ok (.ifCond .ne 10, 3) := by decide +kernel
theorem dX6_labelAt_13 : decode cX6_labelAt 13 = .ok (.aload_n 0, 1) := by decide +kernel
theorem dX6_labelAt_14 : decode cX6_labelAt 14 = .ok (.iconst 1, 1) := by decide +kernel
theorem dX6_labelAt_15 : decode cX6_labelAt 15 = .ok (.invokevirtual 110, 3) := by decide +kernel
theorem dX6_labelAt_18 : decode cX6_labelAt 18 = .ok (.i2c, 1) := by decide +kernel
theorem dX6_labelAt_19 : decode cX6_labelAt 19 = .ok (.ireturn, 1) := by decide +kernel
theorem dX6_labelAt_20 : decode cX6_labelAt 20 = .ok (.iload_n 2, 1) := by decide +kernel
theorem dX6_labelAt_21 : decode cX6_labelAt 21 = .ok (.iconst 0, 1) := by decide +kernel
theorem dX6_labelAt_22 : decode cX6_labelAt 22 = .ok (.aload_n 0, 1) := by decide +kernel
theorem dX6_labelAt_23 : decode cX6_labelAt 23 = .ok (.iload_n 1, 1) := by decide +kernel
theorem dX6_labelAt_24 : decode cX6_labelAt 24 = .ok (.invokevirtual 255, 3) := by decide +kernel
theorem dX6_labelAt_27 : decode cX6_labelAt 27 = .ok (.invokevirtual 259, 3) := by decide +kernel
theorem dX6_labelAt_30 : decode cX6_labelAt 30 = .ok (.iconst 1, 1) := by decide +kernel
theorem dX6_labelAt_31 : decode cX6_labelAt 31 = .ok (.isub, 1) := by decide +kernel
theorem dX6_labelAt_32 : decode cX6_labelAt 32 = .ok (.invokestatic 103, 3) := by decide +kernel
theorem dX6_labelAt_35 : decode cX6_labelAt 35 = .ok (.ifCond .eq 15, 3) := by decide +kernel
theorem dX6_labelAt_38 : decode cX6_labelAt 38 = .ok (.aload_n 0, 1) := by decide +kernel
theorem dX6_labelAt_39 : decode cX6_labelAt 39 = .ok (.iload_n 1, 1) := by decide +kernel
theorem dX6_labelAt_40 : decode cX6_labelAt 40 = .ok (.invokevirtual 255, 3) := by decide +kernel
theorem dX6_labelAt_43 : decode cX6_labelAt 43 = .ok (.iload_n 2, 1) := by decide +kernel
theorem dX6_labelAt_44 : decode cX6_labelAt 44 = .ok (.invokevirtual 264, 3) := by decide +kernel
theorem dX6_labelAt_47 : decode cX6_labelAt 47 = .ok (.goto 9, 3) := by decide +kernel
theorem dX6_labelAt_50 : decode cX6_labelAt 50 = .ok (.aload_n 0, 1) := by decide +kernel
theorem dX6_labelAt_51 : decode cX6_labelAt 51 = .ok (.iconst 2, 1) := by decide +kernel
theorem dX6_labelAt_52 : decode cX6_labelAt 52 = .ok (.invokevirtual 110, 3) := by decide +kernel
theorem dX6_labelAt_55 : decode cX6_labelAt 55 = .ok (.i2c, 1) := by decide +kernel
theorem dX6_labelAt_56 : decode cX6_labelAt 56 = .ok (.ireturn, 1) := by decide +kernel
theorem dX6_workedMinutes_0 : decode cX6_workedMinutes 0 = .ok (.aload_n 0, 1) := by decide +kernel
theorem dX6_workedMinutes_1 : decode cX6_workedMinutes 1 = .ok (.iconst 0, 1) := by decide +kernel
theorem dX6_workedMinutes_2 : decode cX6_workedMinutes 2 = .ok (.putfield 97, 3) := by decide +kernel
theorem dX6_workedMinutes_5 : decode cX6_workedMinutes 5 = .ok (.aload_n 0, 1) := by decide +kernel
theorem dX6_workedMinutes_6 : decode cX6_workedMinutes 6 = .ok (.getfield 199, 3) := by decide +kernel
theorem dX6_workedMinutes_9 : decode cX6_workedMinutes 9 = .ok (.lreturn, 1) := by decide +kernel
theorem dX6_doneShare_0 : decode cX6_doneShare 0 = .ok (.aload_n 0, 1) := by decide +kernel
theorem dX6_doneShare_1 : decode cX6_doneShare 1 = .ok (.iconst 0, 1) := by decide +kernel
theorem dX6_doneShare_2 : decode cX6_doneShare 2 = .ok (.putfield 97, 3) := by decide +kernel
theorem dX6_doneShare_5 : decode cX6_doneShare 5 = .ok (.aload_n 0, 1) := by decide +kernel
theorem dX6_doneShare_6 : decode cX6_doneShare 6 = .ok (.getfield 124, 3) := by decide +kernel
theorem dX6_doneShare_9 : decode cX6_doneShare 9 = .ok (.ifCond .ne 10, 3) := by decide +kernel
theorem dX6_doneShare_12 : decode cX6_doneShare 12 = .ok (.aload_n 0, 1) := by decide +kernel
theorem dX6_doneShare_13 : decode cX6_doneShare 13 = .ok (.iconst 1, 1) := by decide +kernel
theorem dX6_doneShare_14 : decode cX6_doneShare 14 = .ok (.invokevirtual 110, 3) := by decide +kernel
theorem dX6_doneShare_17 : decode cX6_doneShare 17 = .ok (.i2f, 1) := by decide +kernel
theorem dX6_doneShare_18 : decode cX6_doneShare 18 = .ok (.freturn, 1) := by decide +kernel
theorem dX6_doneShare_19 : decode cX6_doneShare 19 = .ok (.aload_n 0, 1) := by decide +kernel
theorem dX6_doneShare_20 : decode cX6_doneShare 20 = .ok (.getfield 171, 3) := by decide +kernel
theorem dX6_doneShare_23 : decode cX6_doneShare 23 = .ok (.i2f, 1) := by decide +kernel
theorem dX6_doneShare_24 : decode cX6_doneShare 24 = .ok (.aload_n 0, 1) := by decide +kernel
theorem dX6_doneShare_25 : decode cX6_doneShare 25 = .ok (.getfield 107, 3) := by decide +kernel
theorem dX6_doneShare_28 : decode cX6_doneShare 28 = .ok (.i2f, 1) := by decide +kernel
theorem dX6_doneShare_29 : decode cX6_doneShare 29 = .ok (.fdiv, 1) := by decide +kernel
theorem dX6_doneShare_30 : decode cX6_doneShare 30 = .ok (.freturn, 1) := by decide +kernel
theorem dX6_meanTries_0 : decode cX6_meanTries 0 = .ok (.aload_n 0, 1) := by decide +kernel
theorem dX6_meanTries_1 : decode cX6_meanTries 1 = .ok (.iconst 0, 1) := by decide +kernel
theorem dX6_meanTries_2 : decode cX6_meanTries 2 = .ok (.putfield 97, 3) := by decide +kernel
theorem dX6_meanTries_5 : decode cX6_meanTries 5 = .ok (.aload_n 0, 1) := by decide +kernel
theorem dX6_meanTries_6 : decode cX6_meanTries 6 = .ok (.getfield 124, 3) := by decide +kernel
theorem dX6_meanTries_9 : decode cX6_meanTries 9 = .ok (.ifCond .ne 10, 3) := by decide +kernel
theorem dX6_meanTries_12 : decode cX6_meanTries 12 = .ok (.aload_n 0, 1) := by decide +kernel
theorem dX6_meanTries_13 : decode cX6_meanTries 13 = .ok (.iconst 1, 1) := by decide +kernel
theorem dX6_meanTries_14 : decode cX6_meanTries 14 = .ok (.invokevirtual 110, 3) := by decide +kernel
theorem dX6_meanTries_17 : decode cX6_meanTries 17 = .ok (.i2d, 1) := by decide +kernel
theorem dX6_meanTries_18 : decode cX6_meanTries 18 = .ok (.dreturn, 1) := by decide +kernel
theorem dX6_meanTries_19 : decode cX6_meanTries 19 = .ok (.iconst 0, 1) := by decide +kernel
theorem dX6_meanTries_20 : decode cX6_meanTries 20 = .ok (.istore_n 1, 1) := by decide +kernel
theorem dX6_meanTries_21 : decode cX6_meanTries 21 = .ok (.iconst 0, 1) := by decide +kernel
theorem dX6_meanTries_22 : decode cX6_meanTries 22 = .ok (.istore_n 2, 1) := by decide +kernel
theorem dX6_meanTries_23 : decode cX6_meanTries 23 = .ok (.iload_n 2, 1) := by decide +kernel
theorem dX6_meanTries_24 : decode cX6_meanTries 24 = .ok (.aload_n 0, 1) := by decide +kernel
theorem dX6_meanTries_25 : decode cX6_meanTries 25 = .ok (.getfield 107, 3) := by decide +kernel
theorem dX6_meanTries_28 : decode cX6_meanTries 28 = .ok (.if_icmp .ge 18, 3) := by decide +kernel
theorem dX6_meanTries_31 : decode cX6_meanTries 31 = .ok (.iload_n 1, 1) := by decide +kernel
theorem dX6_meanTries_32 : decode cX6_meanTries 32 = .ok (.aload_n 0, 1) := by decide +kernel
theorem dX6_meanTries_33 : decode cX6_meanTries 33 = .ok (.getfield 63, 3) := by decide +kernel
theorem dX6_meanTries_36 : decode cX6_meanTries 36 = .ok (.iload_n 2, 1) := by decide +kernel
theorem dX6_meanTries_37 : decode cX6_meanTries 37 = .ok (.iaload, 1) := by decide +kernel
theorem dX6_meanTries_38 : decode cX6_meanTries 38 = .ok (.iadd, 1) := by decide +kernel
theorem dX6_meanTries_39 : decode cX6_meanTries 39 = .ok (.istore_n 1, 1) := by decide +kernel
theorem dX6_meanTries_40 : decode cX6_meanTries 40 = .ok (.iinc 2 1, 3) := by decide +kernel
theorem dX6_meanTries_43 : decode cX6_meanTries 43 = .ok (.goto (-20), 3) := by decide +kernel
theorem dX6_meanTries_46 : decode cX6_meanTries 46 = .ok (.iload_n 1, 1) := by decide +kernel
theorem dX6_meanTries_47 : decode cX6_meanTries 47 = .ok (.i2d, 1) := by decide +kernel
theorem dX6_meanTries_48 : decode cX6_meanTries 48 = .ok (.aload_n 0, 1) := by decide +kernel
theorem dX6_meanTries_49 : decode cX6_meanTries 49 = .ok (.getfield 107, 3) := by decide +kernel
theorem dX6_meanTries_52 : decode cX6_meanTries 52 = .ok (.i2d, 1) := by decide +kernel
theorem dX6_meanTries_53 : decode cX6_meanTries 53 = .ok (.ddiv, 1) := by decide +kernel
theorem dX6_meanTries_54 : decode cX6_meanTries 54 = .ok (.dreturn, 1) := by decide +kernel
