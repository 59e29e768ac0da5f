theorem dX7_kindAtHand_6 : decode cX7_kindAtHand 6 = .ok (.ifCond .eq 5, 3) := by decide +kernel
theorem dX7_kindAtHand_9 : decode cX7_kindAtHand 9 = .ok (.iconst 1, 1) := by decide +kernel
theorem dX7_kindAtHand_10 : decode cX7_kindAtHand 10 = .ok (.ireturn, 1) := by decide +kernel
theorem dX7_kindAtHand_11 : decode cX7_kindAtHand 11 = .ok (.aload_n 0, 1) := by decide +kernel
theorem dX7_kindAtHand_12 : decode cX7_kindAtHand 12 = .ok (.ldc 73, 2) := by decide +kernel
theorem dX7_kindAtHand_14 : decode cX7_kindAtHand 14 = .ok (.invokevirtual 49, 3) := by decide +kernel
theorem dX7_kindAtHand_17 : decode cX7_kindAtHand 17 = .ok (.ifCond .eq 5, 3) := by decide +kernel
theorem dX7_kindAtHand_20 : decode cX7_kindAtHand 20 = .ok (.iconst 2, 1) := by decide +kernel
theorem dX7_kindAtHand_21 : decode cX7_kindAtHand 21 = .ok (.ireturn, 1) := by decide +kernel
theorem dX7_kindAtHand_22 : decode cX7_kindAtHand 22 = .ok (.aload_n 0, 1) := by decide +kernel
theorem dX7_kindAtHand_23 : decode cX7_kindAtHand 23 = .ok (.ldc 75, 2) := by decide +kernel
theorem dX7_kindAtHand_25 : decode cX7_kindAtHand 25 = .ok (.invokevirtual 49, 3) := by decide +kernel
theorem dX7_kindAtHand_28 : decode cX7_kindAtHand 28 = .ok (.ifCond .eq 5, 3) := by decide +kernel
theorem dX7_kindAtHand_31 : decode cX7_kindAtHand 31 = .ok (.iconst 3, 1) := by decide +kernel
theorem dX7_kindAtHand_32 : decode cX7_kindAtHand 32 = .ok (.ireturn, 1) := by decide +kernel
theorem dX7_kindAtHand_33 : decode cX7_kindAtHand 33 = .ok (.aload_n 0, 1) := by decide +kernel
theorem dX7_kindAtHand_34 : decode cX7_kindAtHand 34 = .ok (.ldc 77, 2) := by decide +kernel
theorem dX7_kindAtHand_36 : decode cX7_kindAtHand 36 = .ok (.invokevirtual 49, 3) := by decide +kernel
theorem dX7_kindAtHand_39 : decode cX7_kindAtHand 39 = .ok (.ifCond .eq 5, 3) := by decide +kernel
theorem dX7_kindAtHand_42 : decode cX7_kindAtHand 42 = .ok (.iconst 4, 1) := by decide +kernel
theorem dX7_kindAtHand_43 : decode cX7_kindAtHand 43 = .ok (.ireturn, 1) := by decide +kernel
theorem dX7_kindAtHand_44 : decode cX7_kindAtHand 44 = .ok (.aload_n 0, 1) := by decide +kernel
theorem dX7_kindAtHand_45 : decode cX7_kindAtHand 45 = .ok (.ldc 79, 2) := by decide +kernel
theorem dX7_kindAtHand_47 : decode cX7_kindAtHand 47 = .ok (.invokevirtual 49, 3) := by decide +kernel
theorem dX7_kindAtHand_50 : decode cX7_kindAtHand 50 = .ok (.ifCond .eq 7, 3) := by decide +kernel
theorem dX7_kindAtHand_53 : decode cX7_kindAtHand 53 = .ok (.iconst 5, 1) := by decide +kernel
theorem dX7_kindAtHand_54 : decode cX7_kindAtHand 54 = .ok (.goto 4, 3) := by decide +kernel
theorem dX7_kindAtHand_57 : decode cX7_kindAtHand 57 = .ok (.iconst 0, 1) := by decide +kernel
theorem dX7_kindAtHand_58 : decode cX7_kindAtHand 58 = .ok (.ireturn, 1) := by decide +kernel
theorem dX7_newPerson_0 : decode cX7_newPerson 0 = .ok (.iload_n 0, 1) := by decide +kernel
theorem dX7_newPerson_1 : decode cX7_newPerson 1 = .ok (.tableswitch 75 1 4 #[31, 42, 53, 64], 31) := by decide +kernel
theorem dX7_newPerson_32 : decode cX7_newPerson 32 = .ok (.new 81, 3) := by decide +kernel
theorem dX7_newPerson_35 : decode cX7_newPerson 35 = .ok (.dup, 1) := by decide +kernel
theorem dX7_newPerson_36 : decode cX7_newPerson 36 = .ok (.iload_n 1, 1) := by decide +kernel
theorem dX7_newPerson_37 : decode cX7_newPerson 37 = .ok (.iload_n 2, 1) := by decide +kernel
theorem dX7_newPerson_38 : decode cX7_newPerson 38 = .ok (.iload_n 3, 1) := by decide +kernel
theorem dX7_newPerson_39 : decode cX7_newPerson 39 = .ok (.invokespecial 83, 3) := by decide +kernel
theorem dX7_newPerson_42 : decode cX7_newPerson 42 = .ok (.areturn, 1) := by decide +kernel
theorem dX7_newPerson_43 : decode cX7_newPerson 43 = .ok (.new 86, 3) := by decide +kernel
theorem dX7_newPerson_46 : decode cX7_newPerson 46 = .ok (.dup, 1) := by decide +kernel
theorem dX7_newPerson_47 : decode cX7_newPerson 47 = .ok (.iload_n 1, 1) := by decide +kernel
theorem dX7_newPerson_48 : decode cX7_newPerson 48 = .ok (.iload_n 2, 1) := by decide +kernel
theorem dX7_newPerson_49 : decode cX7_newPerson 49 = .ok (.iload_n 3, 1) := by decide +kernel
theorem dX7_newPerson_50 : decode cX7_newPerson 50 = .ok (.invokespecial 88, 3) := by decide +kernel
theorem dX7_newPerson_53 : decode cX7_newPerson 53 = .ok (.areturn, 1) := by decide +kernel
theorem dX7_newPerson_54 : decode cX7_newPerson 54 = .ok (.new 89, 3) := by decide +kernel
theorem dX7_newPerson_57 : decode cX7_newPerson 57 = .ok (.dup, 1) := by decide +kernel
theorem dX7_newPerson_58 : decode cX7_newPerson 58 = .ok (.iload_n 1, 1) := by decide +kernel
theorem dX7_newPerson_59 : decode cX7_newPerson 59 = .ok (.iload_n 2, 1) := by decide +kernel
theorem dX7_newPerson_60 : decode cX7_newPerson 60 = .ok (.iload_n 3, 1) := by decide +kernel
theorem dX7_newPerson_61 : decode cX7_newPerson 61 = .ok (.invokespecial 91, 3) := by decide +kernel
theorem dX7_newPerson_64 : decode cX7_newPerson 64 = .ok (.areturn, 1) := by decide +kernel
theorem dX7_newPerson_65 : decode cX7_newPerson 65 = .ok (.new 92, 3) := by decide +kernel
theorem dX7_newPerson_68 : decode cX7_newPerson 68 = .ok (.dup, 1) := by decide +kernel
theorem dX7_newPerson_69 : decode cX7_newPerson 69 = .ok (.iload_n 1, 1) := by decide +kernel
theorem dX7_newPerson_70 : decode cX7_newPerson 70 = .ok (.iload_n 2, 1) := by decide +kernel
theorem dX7_newPerson_71 : decode cX7_newPerson 71 = .ok (.iload_n 3, 1) := by decide +kernel
theorem dX7_newPerson_72 : decode cX7_newPerson 72 = .ok (.invokespecial 94, 3) := by decide +kernel
theorem dX7_newPerson_75 : decode cX7_newPerson 75 = .ok (.areturn, 1) := by decide +kernel
theorem dX7_newPerson_76 : decode cX7_newPerson 76 = .ok (.new 95, 3) := by decide +kernel
theorem dX7_newPerson_79 : decode cX7_newPerson 79 = .ok (.dup, 1) := by decide +kernel
theorem dX7_newPerson_80 : decode cX7_newPerson 80 = .ok (.iload_n 1, 1) := by decide +kernel
theorem dX7_newPerson_81 : decode cX7_newPerson 81 = .ok (.iload_n 2, 1) := by decide +kernel
theorem dX7_newPerson_82 : decode cX7_newPerson 82 = .ok (.iload_n 3, 1) := by decide +kernel
theorem dX7_newPerson_83 : decode cX7_newPerson 83 = .ok (.invokespecial 97, 3) := by decide +kernel
theorem dX7_newPerson_86 : decode cX7_newPerson 86 = .ok (.areturn, 1) := by decide +kernel
theorem dX7_step_0 : decode cX7_step 0 = .ok (.aload_n 0, 1) := by decide +kernel
theorem dX7_step_1 : decode cX7_step 1 = .ok (.aload_n 0, 1) := by decide +kernel
theorem dX7_step_2 : decode cX7_step 2 = .ok (.getfield 37, 3) := by decide +kernel
theorem dX7_step_5 : decode cX7_step 5 = .ok (.putfield 34, 3) := by decide +kernel
theorem dX7_step_8 : decode cX7_step 8 = .ok (.aload_n 0, 1) := by decide +kernel
theorem dX7_step_9 : decode cX7_step 9 = .ok (.getfield 34, 3) := by decide +kernel
theorem dX7_step_12 : decode cX7_step 12 = .ok (.aload_n 0, 1) := by decide +kernel
theorem dX7_step_13 : decode cX7_step 13 = .ok (.getfield 15, 3) := by decide +kernel
theorem dX7_step_16 : decode cX7_step 16 = .ok (.if_icmp .ge 30, 3) := by decide +kernel
theorem dX7_step_19 : decode cX7_step 19 = .ok (.aload_n 0, 1) := by decide +kernel
theorem dX7_step_20 : decode cX7_step 20 = .ok (.aload_n 0, 1) := by decide +kernel
theorem dX7_step_21 : decode cX7_step 21 = .ok (.getfield 34, 3) := by decide +kernel
theorem dX7_step_24 : decode cX7_step 24 = .ok (.invokevirtual 98, 3) := by decide +kernel
theorem dX7_step_27 : decode cX7_step 27 = .ok (.invokestatic 102, 3) := by decide +kernel
theorem dX7_step_30 : decode cX7_step 30 = .ok (.ifCond .eq 16, 3) := by decide +kernel
theorem dX7_step_33 : decode cX7_step 33 = .ok (.aload_n 0, 1) := by decide +kernel
theorem dX7_step_34 : decode cX7_step 34 = .ok (.dup, 1) := by decide +kernel
theorem dX7_step_35 : decode cX7_step 35 = .ok (.getfield 34, 3) := by decide +kernel
theorem dX7_step_38 : decode cX7_step 38 = .ok (.iconst 1, 1) := by decide +kernel
theorem dX7_step_39 : decode cX7_step 39 = .ok (.iadd, 1) := by decide +kernel
theorem dX7_step_40 : decode cX7_step 40 = .ok (.putfield 34, 3) := by decide +kernel
theorem dX7_step_43 : decode cX7_step 43 = .ok (.goto (-35), 3) := by decide +kernel
theorem dX7_step_46 : decode cX7_step 46 = .ok (.aload_n 0, 1) := by decide +kernel
theorem dX7_step_47 : decode cX7_step 47 = .ok (.aload_n 0, 1) := by decide +kernel
theorem dX7_step_48 : decode cX7_step 48 = .ok (.getfield 34, 3) := by decide +kernel
theorem dX7_step_51 : decode cX7_step 51 = .ok (.iconst 1, 1) := by decide +kernel
theorem dX7_step_52 : decode cX7_step 52 = .ok (.iadd, 1) := by decide +kernel
theorem dX7_step_53 : decode cX7_step 53 = .ok (.putfield 37, 3) := by decide +kernel
theorem dX7_step_56 : decode cX7_step 56 = .ok (.aload_n 0, 1) := by decide +kernel
theorem dX7_step_57 : decode cX7_step 57 = .ok (.getfield 34, 3) := by decide +kernel
theorem dX7_step_60 : decode cX7_step 60 = .ok (.aload_n 0, 1) := by decide +kernel
theorem dX7_step_61 : decode cX7_step 61 = .ok (.getfield 15, 3) := by decide +kernel
theorem dX7_step_64 : decode cX7_step 64 = .ok (.if_icmp .lt 19, 3) := by decide +kernel
theorem dX7_step_67 : decode cX7_step 67 = .ok (.aload_n 0, 1) := by decide +kernel
theorem dX7_step_68 : decode cX7_step 68 = .ok (.aload_n 0, 1) := by decide +kernel
theorem dX7_step_69 : decode cX7_step 69 = .ok (.getfield 34, 3) := by decide +kernel
theorem dX7_step_72 : decode cX7_step 72 = .ok (.putfield 37, 3) := by decide +kernel
theorem dX7_step_75 : decode cX7_step 75 = .ok (.aload_n 0, 1) := by decide +kernel
theorem dX7_step_76 : decode cX7_step 76 = .ok (.iconst 0, 1) := by decide +kernel
theorem dX7_step_77 : decode cX7_step 77 = .ok (.putfield 31, 3) := by decide +kernel
theorem dX7_step_80 : decode cX7_step 80 = .ok (.goto 162, 3) := by decide +kernel
theorem dX7_step_83 : decode cX7_step 83 = .ok (.aload_n 0, 1) := by decide +kernel
theorem dX7_step_84 : decode cX7_step 84 = .ok (.aload_n 0, 1) := by decide +kernel
theorem dX7_step_85 : decode cX7_step 85 = .ok (.getfield 34, 3) := by decide +kernel
theorem dX7_step_88 : decode cX7_step 88 = .ok (.invokevirtual 98, 3) := by decide +kernel
theorem dX7_step_91 : decode cX7_step 91 = .ok (.invokestatic 105, 3) := by decide +kernel
theorem dX7_step_94 : decode cX7_step 94 = .ok (.ifCond .eq 49, 3) := by decide +kernel
theorem dX7_step_97 : decode cX7_step 97 = .ok (.aload_n 0, 1) := by decide +kernel
theorem dX7_step_98 : decode cX7_step 98 = .ok (.getfield 37, 3) := by decide +kernel
theorem dX7_step_101 : decode cX7_step 101 = .ok (.aload_n 0, 1) := by decide +kernel
theorem dX7_step_102 : decode cX7_step 102 = .ok (.getfield 15, 3) := by decide +kernel
theorem dX7_step_105 : decode cX7_step 105 = .ok (.if_icmp .ge 30, 3) := by decide +kernel
theorem dX7_step_108 : decode cX7_step 108 = .ok (.aload_n 0, 1) := by decide +kernel
theorem dX7_step_109 : decode cX7_step 109 = .ok (.aload_n 0, 1) := by decide +kernel
theorem dX7_step_110 : decode cX7_step 110 = .ok (.getfield 37, 3) := by decide +kernel
theorem dX7_step_113 : decode cX7_step 113 = .ok (.invokevirtual 98, 3) := by decide +kernel
theorem dX7_step_116 : decode cX7_step 116 = .ok (.invokestatic 105, 3) := by decide +kernel
theorem dX7_step_119 : decode cX7_step 119 = .ok (.ifCond .eq 16, 3) := by decide +kernel
theorem dX7_step_122 : decode cX7_step 122 = .ok (.aload_n 0, 1) := by decide +kernel
theorem dX7_step_123 : decode cX7_step 123 = .ok (.dup, 1) := by decide +kernel
theorem dX7_step_124 : decode cX7_step 124 = .ok (.getfield 37, 3) := by decide +kernel
theorem dX7_step_127 : decode cX7_step 127 = .ok (.iconst 1, 1) := by decide +kernel
theorem dX7_step_128 : decode cX7_step 128 = .ok (.iadd, 1) := by decide +kernel
theorem dX7_step_129 : decode cX7_step 129 = .ok (.putfield 37, 3) := by decide +kernel
theorem dX7_step_132 : decode cX7_step 132 = .ok (.goto (-35), 3) := by decide +kernel
theorem dX7_step_135 : decode cX7_step 135 = .ok (.aload_n 0, 1) := by decide +kernel
theorem dX7_step_136 : decode cX7_step 136 = .ok (.iconst 1, 1) := by decide +kernel
theorem dX7_step_137 : decode cX7_step 137 = .ok (.putfield 31, 3) := by decide +kernel
theorem dX7_step_140 : decode cX7_step 140 = .ok (.goto 102, 3) := by decide +kernel
theorem dX7_step_143 : decode cX7_step 143 = .ok (.aload_n 0, 1) := by decide +kernel
theorem dX7_step_144 : decode cX7_step 144 = .ok (.aload_n 0, 1) := by decide +kernel
theorem dX7_step_145 : decode cX7_step 145 = .ok (.getfield 34, 3) := by decide +kernel
theorem dX7_step_148 : decode cX7_step 148 = .ok (.invokevirtual 98, 3) := by decide +kernel
theorem dX7_step_151 : decode cX7_step 151 = .ok (.invokestatic 108, 3) := by decide +kernel
theorem dX7_step_154 : decode cX7_step 154 = .ok (.ifCond .eq 66, 3) := by decide +kernel
theorem dX7_step_157 : decode cX7_step 157 = .ok (.aload_n 0, 1) := by decide +kernel
theorem dX7_step_158 : decode cX7_step 158 = .ok (.getfield 37, 3) := by decide +kernel
theorem dX7_step_161 : decode cX7_step 161 = .ok (.aload_n 0, 1) := by decide +kernel
theorem dX7_step_162 : decode cX7_step 162 = .ok (.getfield 15, 3) := by decide +kernel
theorem dX7_step_165 : decode cX7_step 165 = .ok (.if_icmp .ge 30, 3) := by decide +kernel
theorem dX7_step_168 : decode cX7_step 168 = .ok (.aload_n 0, 1) := by decide +kernel
theorem dX7_step_169 : decode cX7_step 169 = .ok (.aload_n 0, 1) := by decide +kernel
theorem dX7_step_170 : decode cX7_step 170 = .ok (.getfield 37, 3) := by decide +kernel
theorem dX7_step_173 : decode cX7_step 173 = .ok (.invokevirtual 98, 3) := by decide +kernel
theorem dX7_step_176 : decode cX7_step 176 = .ok (.invokestatic 108, 3) := by decide +kernel
theorem dX7_step_179 : decode cX7_step 179 = .ok (.ifCond .eq 16, 3) := by decide +kernel
theorem dX7_step_182 : decode cX7_step 182 = .ok (.aload_n 0, 1) := by decide +kernel
theorem dX7_step_183 : decode cX7_step 183 = .ok (.dup, 1) := by decide +kernel
theorem dX7_step_184 : decode cX7_step 184 = .ok (.getfield 37, 3) := by decide +kernel
theorem dX7_step_187 : decode cX7_step 187 = .ok (.iconst 1, 1) := by decide +kernel
theorem dX7_step_188 : decode cX7_step 188 = .ok (.iadd, 1) := by decide +kernel
theorem dX7_step_189 : decode cX7_step 189 = .ok (.putfield 37, 3) := by decide +kernel
theorem dX7_step_192 : decode cX7_step 192 = .ok (.goto (-35), 3) := by decide +kernel
theorem dX7_step_195 : decode cX7_step 195 = .ok (.aload_n 0, 1) := by decide +kernel
theorem dX7_step_196 : decode cX7_step 196 = .ok (.aload_n 0, 1) := by decide +kernel
theorem dX7_step_197 : decode cX7_step 197 = .ok (.getfield 37, 3) := by decide +kernel
theorem dX7_step_200 : decode cX7_step 200 = .ok (.aload_n 0, 1) := by decide +kernel
theorem dX7_step_201 : decode cX7_step 201 = .ok (.getfield 34, 3) := by decide +kernel
theorem dX7_step_204 : decode cX7_step 204 = .ok (.isub, 1) := by decide +kernel
theorem dX7_step_205 : decode cX7_step 205 = .ok (.iconst 3, 1) := by decide +kernel
theorem dX7_step_206 : decode cX7_step 206 = .ok (.if_icmp .gt 7, 3) := by decide +kernel
theorem dX7_step_209 : decode cX7_step 209 = .ok (.iconst 2, 1) := by decide +kernel
theorem dX7_step_210 : decode cX7_step 210 = .ok (.goto 4, 3) := by decide +kernel
theorem dX7_step_213 : decode cX7_step 213 = .ok (.iconst 4, 1) := by decide +kernel
theorem dX7_step_214 : decode cX7_step 214 = .ok (.putfield 31, 3) := by decide +kernel
theorem dX7_step_217 : decode cX7_step 217 = .ok (.goto 25, 3) := by decide +kernel
theorem dX7_step_220 : decode cX7_step 220 = .ok (.aload_n 0, 1) := by decide +kernel
theorem dX7_step_221 : decode cX7_step 221 = .ok (.aload_n 0, 1) := by decide +kernel
theorem dX7_step_222 : decode cX7_step 222 = .ok (.aload_n 0, 1) := by decide +kernel
theorem dX7_step_223 : decode cX7_step 223 = .ok (.getfield 34, 3) := by decide +kernel
theorem dX7_step_226 : decode cX7_step 226 = .ok (.invokevirtual 98, 3) := by decide +kernel
theorem dX7_step_229 : decode cX7_step 229 = .ok (.bipush 59, 2) := by decide +kernel
theorem dX7_step_231 : decode cX7_step 231 = .ok (.if_icmp .ne 7, 3) := by decide +kernel
theorem dX7_step_234 : decode cX7_step 234 = .ok (.iconst 3, 1) := by decide +kernel
theorem dX7_step_235 : decode cX7_step 235 = .ok (.goto 4, 3) := by decide +kernel
theorem dX7_step_238 : decode cX7_step 238 = .ok (.iconst 4, 1) := by decide +kernel
theorem dX7_step_239 : decode cX7_step 239 = .ok (.putfield 31, 3) := by decide +kernel
theorem dX7_step_242 : decode cX7_step 242 = .ok (.return_, 1) := by decide +kernel
theorem dX7_isWord_0 : decode cX7_isWord 0 = .ok (.aload_n 0, 1) := by decide +kernel
theorem dX7_isWord_1 : decode cX7_isWord 1 = .ok (.getfield 31, 3) := by decide +kernel
theorem dX7_isWord_4 : decode cX7_isWord 4 = .ok (.iconst 1, 1) := by decide +kernel
theorem dX7_isWord_5 : decode cX7_isWord 5 = .ok (.if_icmp .ne 19, 3) := by decide +kernel
theorem dX7_isWord_8 : decode cX7_isWord 8 = .ok (.aload_n 0, 1) := by decide +kernel
theorem dX7_isWord_9 : decode cX7_isWord 9 = .ok (.getfield 37, 3) := by decide +kernel
theorem dX7_isWord_12 : decode cX7_isWord 12 = .ok (.aload_n 0, 1) := by decide +kernel
theorem dX7_isWord_13 : decode cX7_isWord 13 = .ok (.getfield 34, 3) := by decide +kernel
theorem dX7_isWord_16 : decode cX7_isWord 16 = .ok (.isub, 1) := by decide +kernel
theorem dX7_isWord_17 : decode cX7_isWord 17 = .ok (.aload_n 1, 1) := by decide +kernel
theorem dX7_isWord_18 : decode cX7_isWord 18 = .ok (.invokevirtual 111, 3) := by decide +kernel
theorem dX7_isWord_21 : decode cX7_isWord 21 = .ok (.if_icmp .eq 5, 3) := by decide +kernel
theorem dX7_isWord_24 : decode cX7_isWord 24 = .ok (.iconst 0, 1) := by decide +kernel
theorem dX7_isWord_25 : decode cX7_isWord 25 = .ok (.ireturn, 1) := by decide +kernel
theorem dX7_isWord_26 : decode cX7_isWord 26 = .ok (.iconst 0, 1) := by decide +kernel
theorem dX7_isWord_27 : decode cX7_isWord 27 = .ok (.istore_n 2, 1) := by decide +kernel
theorem dX7_isWord_28 : decode cX7_isWord 28 = .ok (.iload_n 2, 1) := by decide +kernel
theorem dX7_isWord_29 : decode cX7_isWord 29 = .ok (.aload_n 1, 1) := by decide +kernel
theorem dX7_isWord_30 : decode cX7_isWord 30 = .ok (.invokevirtual 111, 3) := by decide +kernel
theorem dX7_isWord_33 : decode cX7_isWord 33 = .ok (.if_icmp .ge 29, 3) := by decide +kernel
theorem dX7_isWord_36 : decode cX7_isWord 36 = .ok (.aload_n 0, 1) := by decide +kernel
theorem dX7_isWord_37 : decode cX7_isWord 37 = .ok (.aload_n 0, 1) := by decide +kernel
theorem dX7_isWord_38 : decode cX7_isWord 38 = .ok (.getfield 34, 3) := by decide +kernel
theorem dX7_isWord_41 : decode cX7_isWord 41 = .ok (.iload_n 2, 1) := by decide +kernel
theorem dX7_isWord_42 : decode cX7_isWord 42 = .ok (.iadd, 1) := by decide +kernel
theorem dX7_isWord_43 : decode cX7_isWord 43 = .ok (.invokevirtual 98, 3) := by decide +kernel
theorem dX7_isWord_46 : decode cX7_isWord 46 = .ok (.aload_n 1, 1) := by decide +kernel
theorem dX7_isWord_47 : decode cX7_isWord 47 = .ok (.iload_n 2, 1) := by decide +kernel
theorem dX7_isWord_48 : decode cX7_isWord 48 = .ok (.invokevirtual 115, 3) := by decide +kernel
theorem dX7_isWord_51 : decode cX7_isWord 51 = .ok (.if_icmp .eq 5, 3) := by decide +kernel
theorem dX7_isWord_54 : decode cX7_isWord 54 = .ok (.iconst 0, 1) := by decide +kernel
theorem dX7_isWord_55 : decode cX7_isWord 55 = .ok (.ireturn, 1) := by decide +kernel
theorem dX7_isWord_56 : decode cX7_isWord 56 = .ok (.iinc 2 1, 3) := by decide +kernel
theorem dX7_isWord_59 : decode cX7_isWord 59 = .ok (.goto (-31), 3) := by decide +kernel
theorem dX7_isWord_62 : decode cX7_isWord 62 = .ok (.iconst 1, 1) := by decide +kernel
theorem dX7_isWord_63 : decode cX7_isWord 63 = .ok (.ireturn, 1) := by decide +kernel
theorem dX7_numberAtHand_0 : decode cX7_numberAtHand 0 = .ok (.iconst 0, 1) := by decide +kernel
theorem dX7_numberAtHand_1 : decode cX7_numberAtHand 1 = .ok (.istore_n 1, 1) := by decide +kernel
theorem dX7_numberAtHand_2 : decode cX7_numberAtHand 2 = .ok (.aload_n 0, 1) := by decide +kernel
theorem dX7_numberAtHand_3 : decode cX7_numberAtHand 3 = .ok (.getfield 34, 3) := by decide +kernel
theorem dX7_numberAtHand_6 : decode cX7_numberAtHand 6 = .ok (.istore_n 2, 1) := by decide +kernel
theorem dX7_numberAtHand_7 : decode cX7_numberAtHand 7 = .ok (.iload_n 2, 1) := by decide +kernel
theorem dX7_numberAtHand_8 : decode cX7_numberAtHand 8 = .ok (.aload_n 0, 1) := by decide +kernel
theorem dX7_numberAtHand_9 : decode cX7_numberAtHand 9 = .ok (.getfield 37, 3) := by decide +kernel
theorem dX7_numberAtHand_12 : decode cX7_numberAtHand 12 = .ok (.if_icmp .ge 23, 3) := by decide +kernel
theorem dX7_numberAtHand_15 : decode cX7_numberAtHand 15 = .ok (.bipush 10, 2) := by decide +kernel
theorem dX7_numberAtHand_17 : decode cX7_numberAtHand 17 = .ok (.iload_n 1, 1) := by decide +kernel
theorem dX7_numberAtHand_18 : decode cX7_numberAtHand 18 = .ok (.imul, 1) := by decide +kernel
theorem dX7_numberAtHand_19 : decode cX7_numberAtHand 19 = .ok (.aload_n 0, 1) := by decide +kernel
theorem dX7_numberAtHand_20 : decode cX7_numberAtHand 20 = .ok (.iload_n 2, 1) := by decide +kernel
theorem dX7_numberAtHand_21 : decode cX7_numberAtHand 21 = .ok (.invokevirtual 98, 3) := by decide +kernel
theorem dX7_numberAtHand_24 : decode cX7_numberAtHand 24 = .ok (.bipush 48, 2) := by decide +kernel
theorem dX7_numberAtHand_26 : decode cX7_numberAtHand 26 = .ok (.isub, 1) := by decide +kernel
theorem dX7_numberAtHand_27 : decode cX7_numberAtHand 27 = .ok (.iadd, 1) := by decide +kernel
theorem dX7_numberAtHand_28 : decode cX7_numberAtHand 28 = .ok (.istore_n 1, 1) := by decide +kernel
theorem dX7_numberAtHand_29 : decode cX7_numberAtHand 29 = .ok (.iinc 2 1, 3) := by decide +kernel
theorem dX7_numberAtHand_32 : decode cX7_numberAtHand 32 = .ok (.goto (-25), 3) := by decide +kernel
theorem dX7_numberAtHand_35 : decode cX7_numberAtHand 35 = .ok (.iload_n 1, 1) := by decide +kernel
theorem dX7_numberAtHand_36 : decode cX7_numberAtHand 36 = .ok (.ireturn, 1) := by decide +kernel
theorem dX7_byteAt_0 : decode cX7_byteAt 0 = .ok (.iload_n 1, 1) := by decide +kernel
theorem dX7_byteAt_1 : decode cX7_byteAt 1 = .ok (.ifCond .lt 20, 3) := by decide +kernel
theorem dX7_byteAt_4 : decode cX7_byteAt 4 = .ok (.iload_n 1, 1) := by decide +kernel
theorem dX7_byteAt_5 : decode cX7_byteAt 5 = .ok (.aload_n 0, 1) := by decide +kernel
theorem dX7_byteAt_6 : decode cX7_byteAt 6 = .ok (.getfield 15, 3) := by decide +kernel
theorem dX7_byteAt_9 : decode cX7_byteAt 9 = .ok (.if_icmp .ge 12, 3) := by decide +kernel
theorem dX7_byteAt_12 : decode cX7_byteAt 12 = .ok (.iload_n 1, 1) := by decide +kernel
theorem dX7_byteAt_13 : decode cX7_byteAt 13 = .ok (.aload_n 0, 1) := by decide +kernel
theorem dX7_byteAt_14 : decode cX7_byteAt 14 = .ok (.getfield 11, 3) := by decide +kernel
theorem dX7_byteAt_17 : decode cX7_byteAt 17 = .ok (.arraylength, 1) := by decide +kernel
theorem dX7_byteAt_18 : decode cX7_byteAt 18 = .ok (.if_icmp .lt 7, 3) := by decide +kernel
theorem dX7_byteAt_21 : decode cX7_byteAt 21 = .ok (.iconst 0, 1) := by decide +kernel
theorem dX7_byteAt_22 : decode cX7_byteAt 22 = .ok (.goto 9, 3) := by decide +kernel
theorem dX7_byteAt_25 : decode cX7_byteAt 25 = .ok (.aload_n 0, 1) := by decide +kernel
theorem dX7_byteAt_26 : decode cX7_byteAt 26 = .ok (.getfield 11, 3) := by decide +kernel
theorem dX7_byteAt_29 : decode cX7_byteAt 29 = .ok (.iload_n 1, 1) := by decide +kernel
theorem dX7_byteAt_30 : decode cX7_byteAt 30 = .ok (.baload, 1) := by decide +kernel
theorem dX7_byteAt_31 : decode cX7_byteAt 31 = .ok (.ireturn, 1) := by decide +kernel
theorem dX7_isBlank_0 : decode cX7_isBlank 0 = .ok (.iload_n 0, 1) := by decide +kernel
theorem dX7_isBlank_1 : decode cX7_isBlank 1 = .ok (.bipush 32, 2) := by decide +kernel
theorem dX7_isBlank_3 : decode cX7_isBlank 3 = .ok (.if_icmp .eq 9, 3) := by decide +kernel
theorem dX7_isBlank_6 : decode cX7_isBlank 6 = .ok (.iload_n 0, 1) := by decide +kernel
theorem dX7_isBlank_7 : decode cX7_isBlank 7 = .ok (.bipush 10, 2) := by decide +kernel
theorem dX7_isBlank_9 : decode cX7_isBlank 9 = .ok (.if_icmp .ne 7, 3) := by decide +kernel
theorem dX7_isBlank_12 : decode cX7_isBlank 12 = .ok (.iconst 1, 1) := by decide +kernel
theorem dX7_isBlank_13 : decode cX7_isBlank 13 = .ok (.goto 4, 3) := by decide +kernel
theorem dX7_isBlank_16 : decode cX7_isBlank 16 = .ok (.iconst 0, 1) := by decide +kernel
theorem dX7_isBlank_17 : decode cX7_isBlank 17 = .ok (.ireturn, 1) := by decide +kernel
theorem dX7_isLetter_0 : decode cX7_isLetter 0 = .ok (.iload_n 0, 1) := by decide +kernel
theorem dX7_isLetter_1 : decode cX7_isLetter 1 = .ok (.bipush 97, 2) := by decide +kernel
theorem dX7_isLetter_3 : decode cX7_isLetter 3 = .ok (.if_icmp .lt 13, 3) := by decide +kernel
theorem dX7_isLetter_6 : decode cX7_isLetter 6 = .ok (.iload_n 0, 1) := by decide +kernel
theorem dX7_isLetter_7 : decode cX7_isLetter 7 = .ok (.bipush 122, 2) := by decide +kernel
theorem dX7_isLetter_9 : decode cX7_isLetter 9 = .ok (.if_icmp .gt 7, 3) := by decide +kernel
theorem dX7_isLetter_12 : decode cX7_isLetter 12 = .ok (.iconst 1, 1) := by decide +kernel
theorem dX7_isLetter_13 : decode cX7_isLetter 13 = .ok (.goto 4, 3) := by decide +kernel
theorem dX7_isLetter_16 : decode cX7_isLetter 16 = .ok (.iconst 0, 1) := by decide +kernel
theorem dX7_isLetter_17 : decode cX7_isLetter 17 = .ok (.ireturn, 1) := by decide +kernel
theorem dX7_isFigure_0 : decode cX7_isFigure 0 = .ok (.iload_n 0, 1) := by decide +kernel
theorem dX7_isFigure_1 : decode cX7_isFigure 1 = .ok (.bipush 48, 2) := by decide +kernel
theorem dX7_isFigure_3 : decode cX7_isFigure 3 = .ok (.if_icmp .lt 13, 3) := by decide +kernel
theorem dX7_isFigure_6 : decode cX7_isFigure 6 = .ok (.iload_n 0, 1) := by decide +kernel
theorem dX7_isFigure_7 : decode cX7_isFigure 7 = .ok (.bipush 57, 2) := by decide +kernel
theorem dX7_isFigure_9 : decode cX7_isFigure 9 = .ok (.if_icmp .gt 7, 3) := by decide +kernel
theorem dX7_isFigure_12 : decode cX7_isFigure 12 = .ok (.iconst 1, 1) := by decide +kernel
theorem dX7_isFigure_13 : decode cX7_isFigure 13 = .ok (.goto 4, 3) := by decide +kernel
theorem dX7_isFigure_16 : decode cX7_isFigure 16 = .ok (.iconst 0, 1) := by decide +kernel
theorem dX7_isFigure_17 : decode cX7_isFigure 17 = .ok (.ireturn, 1) := by decide +kernel
theorem dX8_init_0 : decode cX8_init 0 = .ok (.aload_n 0, 1) := by decide +kernel
theorem dX8_init_1 : decode cX8_init 1 = .ok (.invokespecial 3, 3) := by decide +kernel
theorem dX8_init_4 : decode cX8_init 4 = .ok (.aload_n 0, 1) := by decide +kernel
theorem dX8_init_5 : decode cX8_init 5 = .ok (.bipush 6, 2) := by decide +kernel
theorem dX8_init_7 : decode cX8_init 7 = .ok (.anewarray 9, 3) := by decide +kernel
theorem dX8_init_10 : decode cX8_init 10 = .ok (.putfield 11, 3) := by decide +kernel
theorem dX8_init_13 : decode cX8_init 13 = .ok (.aload_n 0, 1) := by decide +kernel
theorem dX8_init_14 : decode cX8_init 14 = .ok (.iconst 0, 1) := by decide +kernel
theorem dX8_init_15 : decode cX8_init 15 = .ok (.putfield 17, 3) := by decide +kernel
theorem dX8_init_18 : decode cX8_init 18 = .ok (.aload_n 0, 1) := by decide +kernel
theorem dX8_init_19 : decode cX8_init 19 = .ok (.iconst 0, 1) := by decide +kernel
theorem dX8_init_20 : decode cX8_init 20 = .ok (.putfield 21, 3) := by decide +kernel
theorem dX8_init_23 : decode cX8_init 23 = .ok (.aload_n 0, 1) := by decide +kernel
theorem dX8_init_24 : decode cX8_init 24 = .ok (.iconst 0, 1) := by decide +kernel
theorem dX8_init_25 : decode cX8_init 25 = .ok (.putfield 24, 3) := by decide +kernel
theorem dX8_init_28 : decode cX8_init 28 = .ok (.aload_n 0, 1) := by decide +kernel
theorem dX8_init_29 : decode cX8_init 29 = .ok (.bipush 64, 2) := by decide +kernel
theorem dX8_init_31 : decode cX8_init 31 = .ok (.newarray .int, 2) := by decide +kernel
theorem dX8_init_33 : decode cX8_init 33 = .ok (.putfield 27, 3) := by decide +kernel
theorem dX8_init_36 : decode cX8_init 36 = .ok (.aload_n 0, 1) := by decide +kernel
theorem dX8_init_37 : decode cX8_init 37 = .ok (.iconst 0, 1) := by decide +kernel
theorem dX8_init_38 : decode cX8_init 38 = .ok (.putfield 31, 3) := by decide +kernel
theorem dX8_init_41 : decode cX8_init 41 = .ok (.return_, 1) := by decide +kernel
theorem dX8_isNone_0 : decode cX8_isNone 0 = .ok (.aload_n 0, 1) := by decide +kernel
theorem dX8_isNone_1 : decode cX8_isNone 1 = .ok (.getfield 17, 3) := by decide +kernel
theorem dX8_isNone_4 : decode cX8_isNone 4 = .ok (.ifCond .ne 7, 3) := by decide +kernel
theorem dX8_isNone_7 : decode cX8_isNone 7 = .ok (.iconst 1, 1) := by decide +kernel
theorem dX8_isNone_8 : decode cX8_isNone 8 = .ok (.goto 4, 3) := by decide +kernel
theorem dX8_isNone_11 : decode cX8_isNone 11 = .ok (.iconst 0, 1) := by decide +kernel
theorem dX8_isNone_12 : decode cX8_isNone 12 = .ok (.ireturn, 1) := by decide +kernel
theorem dX8_size_0 : decode cX8_size 0 = .ok (.aload_n 0, 1) := by decide +kernel
theorem dX8_size_1 : decode cX8_size 1 = .ok (.getfield 17, 3) := by decide +kernel
theorem dX8_size_4 : decode cX8_size 4 = .ok (.ireturn, 1) := by decide +kernel
theorem dX8_day_0 : decode cX8_day 0 = .ok (.aload_n 0, 1) := by decide +kernel
theorem dX8_day_1 : decode cX8_day 1 = .ok (.getfield 21, 3) := by decide +kernel
theorem dX8_day_4 : decode cX8_day 4 = .ok (.ireturn, 1) := by decide +kernel
theorem dX8_before_0 : decode cX8_before 0 = .ok (.aload_n 0, 1) := by decide +kernel
theorem dX8_before_1 : decode cX8_before 1 = .ok (.getfield 24, 3) := by decide +kernel
theorem dX8_before_4 : decode cX8_before 4 = .ok (.ireturn, 1) := by decide +kernel
theorem dX8_letters_0 : decode cX8_letters 0 = .ok (.iconst 1, 1) := by decide +kernel
theorem dX8_letters_1 : decode cX8_letters 1 = .ok (.aload_n 0, 1) := by decide +kernel
theorem dX8_letters_2 : decode cX8_letters 2 = .ok (.getfield 17, 3) := by decide +kernel
theorem dX8_letters_5 : decode cX8_letters 5 = .ok (.ishl, 1) := by decide +kernel
theorem dX8_letters_6 : decode cX8_letters 6 = .ok (.ireturn, 1) := by decide +kernel
theorem dX8_isSet_0 : decode cX8_isSet 0 = .ok (.iload_n 1, 1) := by decide +kernel
theorem dX8_isSet_1 : decode cX8_isSet 1 = .ok (.ifCond .lt 15, 3) := by decide +kernel
theorem dX8_isSet_4 : decode cX8_isSet 4 = .ok (.iload_n 1, 1) := by decide +kernel
theorem dX8_isSet_5 : decode cX8_isSet 5 = .ok (.aload_n 0, 1) := by decide +kernel
theorem dX8_isSet_6 : decode cX8_isSet 6 = .ok (.invokevirtual 34, 3) := by decide +kernel
theorem dX8_isSet_9 : decode cX8_isSet 9 = .ok (.if_icmp .ge 7, 3) := by decide +kernel
theorem dX8_isSet_12 : decode cX8_isSet 12 = .ok (.iconst 1, 1) := by decide +kernel
theorem dX8_isSet_13 : decode cX8_isSet 13 = .ok (.goto 4, 3) := by decide +kernel
theorem dX8_isSet_16 : decode cX8_isSet 16 = .ok (.iconst 0, 1) := by decide +kernel
theorem dX8_isSet_17 : decode cX8_isSet 17 = .ok (.ireturn, 1) := by decide +kernel
theorem dX8_one_0 : decode cX8_one 0 = .ok (.iload_n 1, 1) := by decide +kernel
theorem dX8_one_1 : decode cX8_one 1 = .ok (.ifCond .lt 20, 3) := by decide +kernel
theorem dX8_one_4 : decode cX8_one 4 = .ok (.iload_n 1, 1) := by decide +kernel
theorem dX8_one_5 : decode cX8_one 5 = .ok (.aload_n 0, 1) := by decide +kernel
theorem dX8_one_6 : decode cX8_one 6 = .ok (.getfield 17, 3) := by decide +kernel
theorem dX8_one_9 : decode cX8_one 9 = .ok (.if_icmp .ge 12, 3) := by decide +kernel
theorem dX8_one_12 : decode cX8_one 12 = .ok (.iload_n 1, 1) := by decide +kernel
theorem dX8_one_13 : decode cX8_one 13 = .ok (.aload_n 0, 1) := by decide +kernel
theorem dX8_one_14 : decode cX8_one 14 = .ok (.getfield 11, 3) := by decide +kernel
theorem dX8_one_17 : decode cX8_one 17 = .ok (.arraylength, 1) := by decide +kernel
theorem dX8_one_18 : decode cX8_one 18 = .ok (.if_icmp .lt 7, 3) := by decide +kernel
theorem dX8_one_21 : decode cX8_one 21 = .ok (.aconst_null, 1) := by decide +kernel
theorem dX8_one_22 : decode cX8_one 22 = .ok (.goto 9, 3) := by decide +kernel
theorem dX8_one_25 : decode cX8_one 25 = .ok (.aload_n 0, 1) := by decide +kernel
theorem dX8_one_26 : decode cX8_one 26 = .ok (.getfield 11, 3) := by decide +kernel
theorem dX8_one_29 : decode cX8_one 29 = .ok (.iload_n 1, 1) := by decide +kernel
theorem dX8_one_30 : decode cX8_one 30 = .ok (.aaload, 1) := by decide +kernel
theorem dX8_one_31 : decode cX8_one 31 = .ok (.areturn, 1) := by decide +kernel
theorem dX8_settle_0 : decode cX8_settle 0 = .ok (.aload_n 0, 1) := by decide +kernel
theorem dX8_settle_1 : decode cX8_settle 1 = .ok (.aload_n 1, 1) := by decide +kernel
theorem dX8_settle_2 : decode cX8_settle 2 = .ok (.invokevirtual 38, 3) := by decide +kernel
theorem dX8_settle_5 : decode cX8_settle 5 = .ok (.aload_n 0, 1) := by decide +kernel
theorem dX8_settle_6 : decode cX8_settle 6 = .ok (.getfield 11, 3) := by decide +kernel
theorem dX8_settle_9 : decode cX8_settle 9 = .ok (.arraylength, 1) := by decide +kernel
theorem dX8_settle_10 : decode cX8_settle 10 = .ok (.invokestatic 43, 3) := by decide +kernel
theorem dX8_settle_13 : decode cX8_settle 13 = .ok (.putfield 17, 3) := by decide +kernel
theorem dX8_settle_16 : decode cX8_settle 16 = .ok (.iconst 0, 1) := by decide +kernel
theorem dX8_settle_17 : decode cX8_settle 17 = .ok (.istore_n 2, 1) := by decide +kernel
theorem dX8_settle_18 : decode cX8_settle 18 = .ok (.iload_n 2, 1) := by decide +kernel
theorem dX8_settle_19 : decode cX8_settle 19 = .ok (.aload_n 0, 1) := by decide +kernel
theorem dX8_settle_20 : decode cX8_settle 20 = .ok (.getfield 17, 3) := by decide +kernel
theorem dX8_settle_23 : decode cX8_settle 23 = .ok (.if_icmp .ge 20, 3) := by decide +kernel
theorem dX8_settle_26 : decode cX8_settle 26 = .ok (.aload_n 0, 1) := by decide +kernel
theorem dX8_settle_27 : decode cX8_settle 27 = .ok (.getfield 11, 3) := by decide +kernel
theorem dX8_settle_30 : decode cX8_settle 30 = .ok (.iload_n 2, 1) := by decide +kernel
theorem dX8_settle_31 : decode cX8_settle 31 = .ok (.aload_n 1, 1) := by decide +kernel
theorem dX8_settle_32 : decode cX8_settle 32 = .ok (.iload_n 2, 1) := by decide +kernel
theorem dX8_settle_33 : decode cX8_settle 33 = .ok (.invokevirtual 49, 3) := by decide +kernel
theorem dX8_settle_36 : decode cX8_settle 36 = .ok (.aastore, 1) := by decide +kernel
theorem dX8_settle_37 : decode cX8_settle 37 = .ok (.iinc 2 1, 3) := by decide +kernel
theorem dX8_settle_40 : decode cX8_settle 40 = .ok (.goto (-22), 3) := by decide +kernel
theorem dX8_settle_43 : decode cX8_settle 43 = .ok (.aload_n 0, 1) := by decide +kernel
theorem dX8_settle_44 : decode cX8_settle 44 = .ok (.iconst 0, 1) := by decide +kernel
theorem dX8_settle_45 : decode cX8_settle 45 = .ok (.putfield 21, 3) := by decide +kernel
theorem dX8_settle_48 : decode cX8_settle 48 = .ok (.aload_n 0, 1) := by decide +kernel
theorem dX8_settle_49 : decode cX8_settle 49 = .ok (.iconst 0, 1) := by decide +kernel
theorem dX8_settle_50 : decode cX8_settle 50 = .ok (.putfield 24, 3) := by decide +kernel
theorem dX8_settle_53 : decode cX8_settle 53 = .ok (.aload_n 0, 1) := by decide +kernel
theorem dX8_settle_54 : decode cX8_settle 54 = .ok (.invokevirtual 53, 3) := by decide +kernel
theorem dX8_settle_57 : decode cX8_settle 57 = .ok (.return_, 1) := by decide +kernel
theorem dX8_become_0 : decode cX8_become 0 = .ok (.iconst 0, 1) := by decide +kernel
theorem dX8_become_1 : decode cX8_become 1 = .ok (.istore_n 2, 1) := by decide +kernel
theorem dX8_become_2 : decode cX8_become 2 = .ok (.iload_n 2, 1) := by decide +kernel
theorem dX8_become_3 : decode cX8_become 3 = .ok (.aload_n 0, 1) := by decide +kernel
theorem dX8_become_4 : decode cX8_become 4 = .ok (.getfield 11, 3) := by decide +kernel
theorem dX8_become_7 : decode cX8_become 7 = .ok (.arraylength, 1) := by decide +kernel
theorem dX8_become_8 : decode cX8_become 8 = .ok (.if_icmp .ge 20, 3) := by decide +kernel
theorem dX8_become_11 : decode cX8_become 11 = .ok (.aload_n 0, 1) := by decide +kernel
theorem dX8_become_12 : decode cX8_become 12 = .ok (.getfield 11, 3) := by decide +kernel
theorem dX8_become_15 : decode cX8_become 15 = .ok (.iload_n 2, 1) := by decide +kernel
theorem dX8_become_16 : decode cX8_become 16 = .ok (.aload_n 1, 1) := by decide +kernel
theorem dX8_become_17 : decode cX8_become 17 = .ok (.iload_n 2, 1) := by decide +kernel
theorem dX8_become_18 : decode cX8_become 18 = .ok (.invokevirtual 56, 3) := by decide +kernel
theorem dX8_become_21 : decode cX8_become 21 = .ok (.aastore, 1) := by decide +kernel
theorem dX8_become_22 : decode cX8_become 22 = .ok (.iinc 2 1, 3) := by decide +kernel
theorem dX8_become_25 : decode cX8_become 25 = .ok (.goto (-23), 3) := by decide +kernel
theorem dX8_become_28 : decode cX8_become 28 = .ok (.aload_n 1, 1) := by decide +kernel
theorem dX8_become_29 : decode cX8_become 29 = .ok (.getfield 27, 3) := by decide +kernel
theorem dX8_become_32 : decode cX8_become 32 = .ok (.iconst 0, 1) := by decide +kernel
theorem dX8_become_33 : decode cX8_become 33 = .ok (.aload_n 0, 1) := by decide +kernel
theorem dX8_become_34 : decode cX8_become 34 = .ok (.getfield 27, 3) := by decide +kernel
theorem dX8_become_37 : decode cX8_become 37 = .ok (.iconst 0, 1) := by decide +kernel
theorem dX8_become_38 : decode cX8_become 38 = .ok (.aload_n 0, 1) := by decide +kernel
theorem dX8_become_39 : decode cX8_become 39 = .ok (.getfield 27, 3) := by decide +kernel
theorem dX8_become_42 : decode cX8_become 42 = .ok (.arraylength, 1) := by decide +kernel
theorem dX8_become_43 : decode cX8_become 43 = .ok (.invokestatic 59, 3) := by decide +kernel
theorem dX8_become_46 : decode cX8_become 46 = .ok (.aload_n 0, 1) := by decide +kernel
theorem dX8_become_47 : decode cX8_become 47 = .ok (.aload_n 1, 1) := by decide +kernel
theorem dX8_become_48 : decode cX8_become 48 = .ok (.getfield 17, 3) := by decide +kernel
theorem dX8_become_51 : decode cX8_become 51 = .ok (.putfield 17, 3) := by decide +kernel
theorem dX8_become_54 : decode cX8_become 54 = .ok (.aload_n 0, 1) := by decide +kernel
theorem dX8_become_55 : decode cX8_become 55 = .ok (.aload_n 1, 1) := by decide +kernel
theorem dX8_become_56 : decode cX8_become 56 = .ok (.getfield 21, 3) := by decide +kernel
theorem dX8_become_59 : decode cX8_become 59 = .ok (.putfield 21, 3) := by decide +kernel
theorem dX8_become_62 : decode cX8_become 62 = .ok (.aload_n 0, 1) := by decide +kernel
theorem dX8_become_63 : decode cX8_become 63 = .ok (.aload_n 1, 1) := by decide +kernel
theorem dX8_become_64 : decode cX8_become 64 = .ok (.getfield 24, 3) := by decide +kernel
theorem dX8_become_67 : decode cX8_become 67 = .ok (.putfield 24, 3) := by decide +kernel
theorem dX8_become_70 : decode cX8_become 70 = .ok (.aload_n 0, 1) := by decide +kernel
theorem dX8_become_71 : decode cX8_become 71 = .ok (.aload_n 1, 1) := by decide +kernel
theorem dX8_become_72 : decode cX8_become 72 = .ok (.getfield 31, 3) := by decide +kernel
theorem dX8_become_75 : decode cX8_become 75 = .ok (.putfield 31, 3) := by decide +kernel
theorem dX8_become_78 : decode cX8_become 78 = .ok (.return_, 1) := by decide +kernel
theorem dX8_goOn_0 : decode cX8_goOn 0 = .ok (.aload_n 0, 1) := by decide +kernel
theorem dX8_goOn_1 : decode cX8_goOn 1 = .ok (.dup, 1) := by decide +kernel
theorem dX8_goOn_2 : decode cX8_goOn 2 = .ok (.getfield 21, 3) := by decide +kernel
theorem dX8_goOn_5 : decode cX8_goOn 5 = .ok (.iconst 1, 1) := by decide +kernel
theorem dX8_goOn_6 : decode cX8_goOn 6 = .ok (.iadd, 1) := by decide +kernel
theorem dX8_goOn_7 : decode cX8_goOn 7 = .ok (.putfield 21, 3) := by decide +kernel
theorem dX8_goOn_10 : decode cX8_goOn 10 = .ok (.aload_n 0, 1) := by decide +kernel
theorem dX8_goOn_11 : decode cX8_goOn 11 = .ok (.iload_n 1, 1) := by decide +kernel
theorem dX8_goOn_12 : decode cX8_goOn 12 = .ok (.putfield 24, 3) := by decide +kernel
theorem dX8_goOn_15 : decode cX8_goOn 15 = .ok (.return_, 1) := by decide +kernel
theorem dX8_goBack_0 : decode cX8_goBack 0 = .ok (.aload_n 0, 1) := by decide +kernel
theorem dX8_goBack_1 : decode cX8_goBack 1 = .ok (.dup, 1) := by decide +kernel
theorem dX8_goBack_2 : decode cX8_goBack 2 = .ok (.getfield 21, 3) := by decide +kernel
theorem dX8_goBack_5 : decode cX8_goBack 5 = .ok (.iconst 1, 1) := by decide +kernel
theorem dX8_goBack_6 : decode cX8_goBack 6 = .ok (.isub, 1) := by decide +kernel
theorem dX8_goBack_7 : decode cX8_goBack 7 = .ok (.putfield 21, 3) := by decide +kernel
theorem dX8_goBack_10 : decode cX8_goBack 10 = .ok (.aload_n 0, 1) := by decide +kernel
theorem dX8_goBack_11 : decode cX8_goBack 11 = .ok (.iload_n 1, 1) := by decide +kernel
theorem dX8_goBack_12 : decode cX8_goBack 12 = .ok (.putfield 24, 3) := by decide +kernel
theorem dX8_goBack_15 : decode cX8_goBack 15 = .ok (.return_, 1) := by decide +kernel
theorem dX8_outcome_0 : decode cX8_outcome 0 = .ok (.aload_n 0, 1) := by decide +kernel
theorem dX8_outcome_1 : decode cX8_outcome 1 = .ok (.iload_n 1, 1) := by decide +kernel
theorem dX8_outcome_2 : decode cX8_outcome 2 = .ok (.aload_n 0, 1) := by decide +kernel
theorem dX8_outcome_3 : decode cX8_outcome 3 = .ok (.getfield 24, 3) := by decide +kernel
theorem dX8_outcome_6 : decode cX8_outcome 6 = .ok (.invokevirtual 65, 3) := by decide +kernel
theorem dX8_outcome_9 : decode cX8_outcome 9 = .ok (.ireturn, 1) := by decide +kernel
theorem dX8_agrees_0 : decode cX8_agrees 0 = .ok (.aload_n 0, 1) := by decide +kernel
theorem dX8_agrees_1 : decode cX8_agrees 1 = .ok (.iload_n 1, 1) := by decide +kernel
theorem dX8_agrees_2 : decode cX8_agrees 2 = .ok (.aload_n 0, 1) := by decide +kernel
theorem dX8_agrees_3 : decode cX8_agrees 3 = .ok (.getfield 24, 3) := by decide +kernel
theorem dX8_agrees_6 : decode cX8_agrees 6 = .ok (.invokevirtual 68, 3) := by decide +kernel
theorem dX8_agrees_9 : decode cX8_agrees 9 = .ok (.ireturn, 1) := by decide +kernel
theorem dX8_agreesAfter_0 : decode cX8_agreesAfter 0 = .ok (.aload_n 0, 1) := by decide +kernel
theorem dX8_agreesAfter_1 : decode cX8_agreesAfter 1 = .ok (.iload_n 1, 1) := by decide +kernel
theorem dX8_agreesAfter_2 : decode cX8_agreesAfter 2 = .ok (.iload_n 2, 1) := by decide +kernel
theorem dX8_agreesAfter_3 : decode cX8_agreesAfter 3 = .ok (.invokevirtual 65, 3) := by decide +kernel
theorem dX8_agreesAfter_6 : decode cX8_agreesAfter 6 = .ok (.iload_n 1, 1) := by decide +kernel
theorem dX8_agreesAfter_7 : decode cX8_agreesAfter 7 = .ok (.if_icmp .ne 7, 3) := by decide +kernel
theorem dX8_agreesAfter_10 : decode cX8_agreesAfter 10 = .ok (.iconst 1, 1) := by decide +kernel
theorem dX8_agreesAfter_11 : decode cX8_agreesAfter 11 = .ok (.goto 4, 3) := by decide +kernel
theorem dX8_agreesAfter_14 : decode cX8_agreesAfter 14 = .ok (.iconst 0, 1) := by decide +kernel
theorem dX8_agreesAfter_15 : decode cX8_agreesAfter 15 = .ok (.ireturn, 1) := by decide +kernel
theorem dX8_moodOf_0 : decode cX8_moodOf 0 = .ok (.aload_n 0, 1) := by decide +kernel
theorem dX8_moodOf_1 : decode cX8_moodOf 1 = .ok (.iload_n 1, 1) := by decide +kernel
theorem dX8_moodOf_2 : decode cX8_moodOf 2 = .ok (.iconst 0, 1) := by decide +kernel
theorem dX8_moodOf_3 : decode cX8_moodOf 3 = .ok (.invokevirtual 65, 3) := by decide +kernel
theorem dX8_moodOf_6 : decode cX8_moodOf 6 = .ok (.iload_n 1, 1) := by decide +kernel
theorem dX8_moodOf_7 : decode cX8_moodOf 7 = .ok (.ixor, 1) := by decide +kernel
theorem dX8_moodOf_8 : decode cX8_moodOf 8 = .ok (.ireturn, 1) := by decide +kernel
theorem dX8_moodyAmong_0 : decode cX8_moodyAmong 0 = .ok (.iload_n 1, 1) := by decide +kernel
theorem dX8_moodyAmong_1 : decode cX8_moodyAmong 1 = .ok (.aload_n 0, 1) := by decide +kernel
theorem dX8_moodyAmong_2 : decode cX8_moodyAmong 2 = .ok (.getfield 31, 3) := by decide +kernel
theorem dX8_moodyAmong_5 : decode cX8_moodyAmong 5 = .ok (.iand, 1) := by decide +kernel
theorem dX8_moodyAmong_6 : decode cX8_moodyAmong 6 = .ok (.ireturn, 1) := by decide +kernel
theorem dX8_outcomeByLots_0 : decode cX8_outcomeByLots 0 = .ok (.aload_n 0, 1) := by decide +kernel
theorem dX8_outcomeByLots_1 : decode cX8_outcomeByLots 1 = .ok (.iload_n 1, 1) := by decide +kernel
theorem dX8_outcomeByLots_2 : decode cX8_outcomeByLots 2 = .ok (.invokevirtual 72, 3) := by decide +kernel
theorem dX8_outcomeByLots_5 : decode cX8_outcomeByLots 5 = .ok (.istore_n 3, 1) := by decide +kernel
theorem dX8_outcomeByLots_6 : decode cX8_outcomeByLots 6 = .ok (.iload_n 2, 1) := by decide +kernel
theorem dX8_outcomeByLots_7 : decode cX8_outcomeByLots 7 = .ok (.i2l, 1) := by decide +kernel
theorem dX8_outcomeByLots_8 : decode cX8_outcomeByLots 8 = .ok (.lstore 4, 2) := by decide +kernel
theorem dX8_outcomeByLots_10 : decode cX8_outcomeByLots 10 = .ok (.iconst 0, 1) := by decide +kernel
theorem dX8_outcomeByLots_11 : decode cX8_outcomeByLots 11 = .ok (.istore 6, 2) := by decide +kernel
theorem dX8_outcomeByLots_13 : decode cX8_outcomeByLots 13 = .ok (.iload 6, 2) := by decide +kernel
theorem dX8_outcomeByLots_15 : decode cX8_outcomeByLots 15 = .ok (.aload_n 0, 1) := by decide +kernel
theorem dX8_outcomeByLots_16 : decode cX8_outcomeByLots 16 = .ok (.getfield 17, 3) := by decide +kernel
theorem dX8_outcomeByLots_19 : decode cX8_outcomeByLots 19 = .ok (.if_icmp .ge 65, 3) := by decide +kernel
theorem dX8_outcomeByLots_22 : decode cX8_outcomeByLots 22 = .ok (.aload_n 0, 1) := by decide +kernel
theorem dX8_outcomeByLots_23 : decode cX8_outcomeByLots 23 = .ok (.iload 6, 2) := by decide +kernel
theorem dX8_outcomeByLots_25 : decode cX8_outcomeByLots 25 = .ok (.invokevirtual 56, 3) := by decide +kernel
theorem dX8_outcomeByLots_28 : decode cX8_outcomeByLots 28 = .ok (.astore 8, 2) := by decide +kernel
theorem dX8_outcomeByLots_30 : decode cX8_outcomeByLots 30 = .ok (.aload 8, 2) := by decide +kernel
theorem dX8_outcomeByLots_32 : decode cX8_outcomeByLots 32 = .ok (.instanceof 76, 3) := by decide +kernel
theorem dX8_outcomeByLots_35 : decode cX8_outcomeByLots 35 = .ok (.ifCond .eq 43, 3) := by decide +kernel
theorem dX8_outcomeByLots_38 : decode cX8_outcomeByLots 38 = .ok (.aload 8, 2) := by decide +kernel
theorem dX8_outcomeByLots_40 : decode cX8_outcomeByLots 40 = .ok (.checkcast 76, 3) := by decide +kernel
theorem dX8_outcomeByLots_43 : decode cX8_outcomeByLots 43 = .ok (.astore 7, 2) := by decide +kernel
theorem dX8_outcomeByLots_45 : decode cX8_outcomeByLots 45 = .ok (.lload 4, 2) := by decide +kernel
theorem dX8_outcomeByLots_47 : decode cX8_outcomeByLots 47 = .ok (.ldc2_w 78, 3) := by decide +kernel
theorem dX8_outcomeByLots_50 : decode cX8_outcomeByLots 50 = .ok (.lmul, 1) := by decide +kernel
theorem dX8_outcomeByLots_51 : decode cX8_outcomeByLots 51 = .ok (.ldc2_w 80, 3) := by decide +kernel
theorem dX8_outcomeByLots_54 : decode cX8_outcomeByLots 54 = .ok (.lrem, 1) := by decide +kernel
theorem dX8_outcomeByLots_55 : decode cX8_outcomeByLots 55 = .ok (.lstore 4, 2) := by decide +kernel
theorem dX8_outcomeByLots_57 : decode cX8_outcomeByLots 57 = .ok (.iload_n 3, 1) := by decide +kernel
theorem dX8_outcomeByLots_58 : decode cX8_outcomeByLots 58 = .ok (.aload 7, 2) := by decide +kernel
theorem dX8_outcomeByLots_60 : decode cX8_outcomeByLots 60 = .ok (.lload 4, 2) := by decide +kernel
theorem dX8_outcomeByLots_62 : decode cX8_outcomeByLots 62 = .ok (.invokevirtual 82, 3) := by decide +kernel
theorem dX8_outcomeByLots_65 : decode cX8_outcomeByLots 65 = .ok (.ifCond .eq 10, 3) := by decide +kernel
theorem dX8_outcomeByLots_68 : decode cX8_outcomeByLots 68 = .ok (.iconst 1, 1) := by decide +kernel
theorem dX8_outcomeByLots_69 : decode cX8_outcomeByLots 69 = .ok (.iload 6, 2) := by decide +kernel
theorem dX8_outcomeByLots_71 : decode cX8_outcomeByLots 71 = .ok (.ishl, 1) := by decide +kernel
theorem dX8_outcomeByLots_72 : decode cX8_outcomeByLots 72 = .ok (.goto 4, 3) := by decide +kernel
theorem dX8_outcomeByLots_75 : decode cX8_outcomeByLots 75 = .ok (.iconst 0, 1) := by decide +kernel
theorem dX8_outcomeByLots_76 : decode cX8_outcomeByLots 76 = .ok (.ixor, 1) := by decide +kernel
theorem dX8_outcomeByLots_77 : decode cX8_outcomeByLots 77 = .ok (.istore_n 3, 1) := by decide +kernel
theorem dX8_outcomeByLots_78 : decode cX8_outcomeByLots 78 = .ok (.iinc 6 1, 3) := by decide +kernel
theorem dX8_outcomeByLots_81 : decode cX8_outcomeByLots 81 = .ok (.goto (-68), 3) := by decide +kernel
theorem dX8_outcomeByLots_84 : decode cX8_outcomeByLots 84 = .ok (.iload_n 3, 1) := by decide +kernel
theorem dX8_outcomeByLots_85 : decode cX8_outcomeByLots 85 = .ok (.ireturn, 1) := by decide +kernel
theorem dX8_chances_0 : decode cX8_chances 0 = .ok (.iconst 1, 1) := by decide +kernel
theorem dX8_chances_1 : decode cX8_chances 1 = .ok (.istore_n 3, 1) := by decide +kernel
theorem dX8_chances_2 : decode cX8_chances 2 = .ok (.iconst 0, 1) := by decide +kernel
theorem dX8_chances_3 : decode cX8_chances 3 = .ok (.istore 4, 2) := by decide +kernel
theorem dX8_chances_5 : decode cX8_chances 5 = .ok (.iload 4, 2) := by decide +kernel
theorem dX8_chances_7 : decode cX8_chances 7 = .ok (.aload_n 0, 1) := by decide +kernel
theorem dX8_chances_8 : decode cX8_chances 8 = .ok (.getfield 17, 3) := by decide +kernel
theorem dX8_chances_11 : decode cX8_chances 11 = .ok (.if_icmp .ge 45, 3) := by decide +kernel
theorem dX8_chances_14 : decode cX8_chances 14 = .ok (.aload_n 0, 1) := by decide +kernel
theorem dX8_chances_15 : decode cX8_chances 15 = .ok (.iload 4, 2) := by decide +kernel
theorem dX8_chances_17 : decode cX8_chances 17 = .ok (.invokevirtual 56, 3) := by decide +kernel
theorem dX8_chances_20 : decode cX8_chances 20 = .ok (.astore 5, 2) := by decide +kernel
theorem dX8_chances_22 : decode cX8_chances 22 = .ok (.iload_n 3, 1) := by decide +kernel
theorem dX8_chances_23 : decode cX8_chances 23 = .ok (.aload 5, 2) := by decide +kernel
theorem dX8_chances_25 : decode cX8_chances 25 = .ok (.ifnonnull 7, 3) := by decide +kernel
theorem dX8_chances_28 : decode cX8_chances 28 = .ok (.iconst 0, 1) := by decide +kernel
theorem dX8_chances_29 : decode cX8_chances 29 = .ok (.goto 19, 3) := by decide +kernel
theorem dX8_chances_32 : decode cX8_chances 32 = .ok (.aload 5, 2) := by decide +kernel
theorem dX8_chances_34 : decode cX8_chances 34 = .ok (.iload_n 1, 1) := by decide +kernel
theorem dX8_chances_35 : decode cX8_chances 35 = .ok (.aload_n 0, 1) := by decide +kernel
theorem dX8_chances_36 : decode cX8_chances 36 = .ok (.getfield 24, 3) := by decide +kernel
theorem dX8_chances_39 : decode cX8_chances 39 = .ok (.iload_n 2, 1) := by decide +kernel
theorem dX8_chances_40 : decode cX8_chances 40 = .ok (.iload 4, 2) := by decide +kernel
theorem dX8_chances_42 : decode cX8_chances 42 = .ok (.invokestatic 86, 3) := by decide +kernel
theorem dX8_chances_45 : decode cX8_chances 45 = .ok (.invokevirtual 89, 3) := by decide +kernel
theorem dX8_chances_48 : decode cX8_chances 48 = .ok (.imul, 1) := by decide +kernel
theorem dX8_chances_49 : decode cX8_chances 49 = .ok (.istore_n 3, 1) := by decide +kernel
theorem dX8_chances_50 : decode cX8_chances 50 = .ok (.iinc 4 1, 3) := by decide +kernel
theorem dX8_chances_53 : decode cX8_chances 53 = .ok (.goto (-48), 3) := by decide +kernel
theorem dX8_chances_56 : decode cX8_chances 56 = .ok (.iload_n 3, 1) := by decide +kernel
theorem dX8_chances_57 : decode cX8_chances 57 = .ok (.ireturn, 1) := by decide +kernel
theorem dX8_allChances_0 : decode cX8_allChances 0 = .ok (.iconst 1, 1) := by decide +kernel
theorem dX8_allChances_1 : decode cX8_allChances 1 = .ok (.istore_n 1, 1) := by decide +kernel
theorem dX8_allChances_2 : decode cX8_allChances 2 = .ok (.iconst 0, 1) := by decide +kernel
theorem dX8_allChances_3 : decode cX8_allChances 3 = .ok (.istore_n 2, 1) := by decide +kernel
theorem dX8_allChances_4 : decode cX8_allChances 4 = .ok (.iload_n 2, 1) := by decide +kernel
theorem dX8_allChances_5 : decode cX8_allChances 5 = .ok (.aload_n 0, 1) := by decide +kernel
theorem dX8_allChances_6 : decode cX8_allChances 6 = .ok (.getfield 17, 3) := by decide +kernel
theorem dX8_allChances_9 : decode cX8_allChances 9 = .ok (.if_icmp .ge 14, 3) := by decide +kernel
theorem dX8_allChances_12 : decode cX8_allChances 12 = .ok (.iload_n 1, 1) := by decide +kernel
theorem dX8_allChances_13 : decode cX8_allChances 13 = .ok (.bipush 10, 2) := by decide +kernel
theorem dX8_allChances_15 : decode cX8_allChances 15 = .ok (.imul, 1) := by decide +kernel
theorem dX8_allChances_16 : decode cX8_allChances 16 = .ok (.istore_n 1, 1) := by decide +kernel
theorem dX8_allChances_17 : decode cX8_allChances 17 = .ok (.iinc 2 1, 3) := by decide +kernel
theorem dX8_allChances_20 : decode cX8_allChances 20 = .ok (.goto (-16), 3) := by decide +kernel
theorem dX8_allChances_23 : decode cX8_allChances 23 = .ok (.iload_n 1, 1) := by decide +kernel
theorem dX8_allChances_24 : decode cX8_allChances 24 = .ok (.ireturn, 1) := by decide +kernel
theorem dX8_outcomeAfter_0 : decode cX8_outcomeAfter 0 = .ok (.iload_n 1, 1) := by decide +kernel
theorem dX8_outcomeAfter_1 : decode cX8_outcomeAfter 1 = .ok (.ifCond .lt 12, 3) := by decide +kernel
theorem dX8_outcomeAfter_4 : decode cX8_outcomeAfter 4 = .ok (.iload_n 1, 1) := by decide +kernel
theorem dX8_outcomeAfter_5 : decode cX8_outcomeAfter 5 = .ok (.aload_n 0, 1) := by decide +kernel
theorem dX8_outcomeAfter_6 : decode cX8_outcomeAfter 6 = .ok (.getfield 27, 3) := by decide +kernel
theorem dX8_outcomeAfter_9 : decode cX8_outcomeAfter 9 = .ok (.arraylength, 1) := by decide +kernel
theorem dX8_outcomeAfter_10 : decode cX8_outcomeAfter 10 = .ok (.if_icmp .lt 6, 3) := by decide +kernel
theorem dX8_outcomeAfter_13 : decode cX8_outcomeAfter 13 = .ok (.ldc 93, 2) := by decide +kernel
theorem dX8_outcomeAfter_15 : decode cX8_outcomeAfter 15 = .ok (.ireturn, 1) := by decide +kernel
theorem dX8_outcomeAfter_16 : decode cX8_outcomeAfter 16 = .ok (.aload_n 0, 1) := by decide +kernel
theorem dX8_outcomeAfter_17 : decode cX8_outcomeAfter 17 = .ok (.getfield 27, 3) := by decide +kernel
theorem dX8_outcomeAfter_20 : decode cX8_outcomeAfter 20 = .ok (.iload_n 1, 1) := by decide +kernel
theorem dX8_outcomeAfter_21 : decode cX8_outcomeAfter 21 = .ok (.iaload, 1) := by decide +kernel
theorem dX8_outcomeAfter_22 : decode cX8_outcomeAfter 22 = .ok (.aload_n 0, 1) := by decide +kernel
theorem dX8_outcomeAfter_23 : decode cX8_outcomeAfter 23 = .ok (.iload_n 2, 1) := by decide +kernel
theorem dX8_outcomeAfter_24 : decode cX8_outcomeAfter 24 = .ok (.invokevirtual 94, 3) := by decide +kernel
theorem dX8_outcomeAfter_27 : decode cX8_outcomeAfter 27 = .ok (.ixor, 1) := by decide +kernel
theorem dX8_outcomeAfter_28 : decode cX8_outcomeAfter 28 = .ok (.ireturn, 1) := by decide +kernel
theorem dX8_learn_0 : decode cX8_learn 0 = .ok (.aload_n 0, 1) := by decide +kernel
theorem dX8_learn_1 : decode cX8_learn 1 = .ok (.iconst 0, 1) := by decide +kernel
theorem dX8_learn_2 : decode cX8_learn 2 = .ok (.putfield 31, 3) := by decide +kernel
theorem dX8_learn_5 : decode cX8_learn 5 = .ok (.iconst 0, 1) := by decide +kernel
theorem dX8_learn_6 : decode cX8_learn 6 = .ok (.istore_n 1, 1) := by decide +kernel
theorem dX8_learn_7 : decode cX8_learn 7 = .ok (.iload_n 1, 1) := by decide +kernel
theorem dX8_learn_8 : decode cX8_learn 8 = .ok (.aload_n 0, 1) := by decide +kernel
theorem dX8_learn_9 : decode cX8_learn 9 = .ok (.getfield 17, 3) := by decide +kernel
theorem dX8_learn_12 : decode cX8_learn 12 = .ok (.if_icmp .ge 36, 3) := by decide +kernel
theorem dX8_learn_15 : decode cX8_learn 15 = .ok (.aload_n 0, 1) := by decide +kernel
theorem dX8_learn_16 : decode cX8_learn 16 = .ok (.dup, 1) := by decide +kernel
theorem dX8_learn_17 : decode cX8_learn 17 = .ok (.getfield 31, 3) := by decide +kernel
theorem dX8_learn_20 : decode cX8_learn 20 = .ok (.aload_n 0, 1) := by decide +kernel
theorem dX8_learn_21 : decode cX8_learn 21 = .ok (.iload_n 1, 1) := by decide +kernel
theorem dX8_learn_22 : decode cX8_learn 22 = .ok (.invokevirtual 56, 3) := by decide +kernel
theorem dX8_learn_25 : decode cX8_learn 25 = .ok (.instanceof 97, 3) := by decide +kernel
theorem dX8_learn_28 : decode cX8_learn 28 = .ok (.ifCond .eq 9, 3) := by decide +kernel
theorem dX8_learn_31 : decode cX8_learn 31 = .ok (.iconst 1, 1) := by decide +kernel
theorem dX8_learn_32 : decode cX8_learn 32 = .ok (.iload_n 1, 1) := by decide +kernel
theorem dX8_learn_33 : decode cX8_learn 33 = .ok (.ishl, 1) := by decide +kernel
theorem dX8_learn_34 : decode cX8_learn 34 = .ok (.goto 4, 3) := by decide +kernel
theorem dX8_learn_37 : decode cX8_learn 37 = .ok (.iconst 0, 1) := by decide +kernel
theorem dX8_learn_38 : decode cX8_learn 38 = .ok (.ior, 1) := by decide +kernel
theorem dX8_learn_39 : decode cX8_learn 39 = .ok (.putfield 31, 3) := by decide +kernel
theorem dX8_learn_42 : decode cX8_learn 42 = .ok (.iinc 1 1, 3) := by decide +kernel
theorem dX8_learn_45 : decode cX8_learn 45 = .ok (.goto (-38), 3) := by decide +kernel
theorem dX8_learn_48 : decode cX8_learn 48 = .ok (.iconst 0, 1) := by decide +kernel
theorem dX8_learn_49 : decode cX8_learn 49 = .ok (.istore_n 1, 1) := by decide +kernel
theorem dX8_learn_50 : decode cX8_learn 50 = .ok (.iload_n 1, 1) := by decide +kernel
theorem dX8_learn_51 : decode cX8_learn 51 = .ok (.aload_n 0, 1) := by decide +kernel
theorem dX8_learn_52 : decode cX8_learn 52 = .ok (.invokevirtual 34, 3) := by decide +kernel
theorem dX8_learn_55 : decode cX8_learn 55 = .ok (.if_icmp .ge 29, 3) := by decide +kernel
theorem dX8_learn_58 : decode cX8_learn 58 = .ok (.iload_n 1, 1) := by decide +kernel
theorem dX8_learn_59 : decode cX8_learn 59 = .ok (.aload_n 0, 1) := by decide +kernel
theorem dX8_learn_60 : decode cX8_learn 60 = .ok (.getfield 27, 3) := by decide +kernel
theorem dX8_learn_63 : decode cX8_learn 63 = .ok (.arraylength, 1) := by decide +kernel
theorem dX8_learn_64 : decode cX8_learn 64 = .ok (.if_icmp .ge 20, 3) := by decide +kernel
theorem dX8_learn_67 : decode cX8_learn 67 = .ok (.aload_n 0, 1) := by decide +kernel
theorem dX8_learn_68 : decode cX8_learn 68 = .ok (.getfield 27, 3) := by decide +kernel
theorem dX8_learn_71 : decode cX8_learn 71 = .ok (.iload_n 1, 1) := by decide +kernel
theorem dX8_learn_72 : decode cX8_learn 72 = .ok (.aload_n 0, 1) := by decide +kernel
theorem dX8_learn_73 : decode cX8_learn 73 = .ok (.iload_n 1, 1) := by decide +kernel
theorem dX8_learn_74 : decode cX8_learn 74 = .ok (.invokevirtual 99, 3) := by decide +kernel
theorem dX8_learn_77 : decode cX8_learn 77 = .ok (.iastore, 1) := by decide +kernel
theorem dX8_learn_78 : decode cX8_learn 78 = .ok (.iinc 1 1, 3) := by decide +kernel
theorem dX8_learn_81 : decode cX8_learn 81 = .ok (.goto (-31), 3) := by decide +kernel
theorem dX8_learn_84 : decode cX8_learn 84 = .ok (.return_, 1) := by decide +kernel
theorem dX8_freshOutcome_0 : decode cX8_freshOutcome 0 = .ok (.iconst 0, 1) := by decide +kernel
theorem dX8_freshOutcome_1 : decode cX8_freshOutcome 1 = .ok (.istore_n 2, 1) := by decide +kernel
theorem dX8_freshOutcome_2 : decode cX8_freshOutcome 2 = .ok (.iconst 0, 1) := by decide +kernel
theorem dX8_freshOutcome_3 : decode cX8_freshOutcome 3 = .ok (.istore_n 3, 1) := by decide +kernel
theorem dX8_freshOutcome_4 : decode cX8_freshOutcome 4 = .ok (.iload_n 3, 1) := by decide +kernel
theorem dX8_freshOutcome_5 : decode cX8_freshOutcome 5 = .ok (.aload_n 0, 1) := by decide +kernel
theorem dX8_freshOutcome_6 : decode cX8_freshOutcome 6 = .ok (.getfield 17, 3) := by decide +kernel
theorem dX8_freshOutcome_9 : decode cX8_freshOutcome 9 = .ok (.if_icmp .ge 37, 3) := by decide +kernel
theorem dX8_freshOutcome_12 : decode cX8_freshOutcome 12 = .ok (.aload_n 0, 1) := by decide +kernel
theorem dX8_freshOutcome_13 : decode cX8_freshOutcome 13 = .ok (.iload_n 3, 1) := by decide +kernel
theorem dX8_freshOutcome_14 : decode cX8_freshOutcome 14 = .ok (.invokevirtual 56, 3) := by decide +kernel
theorem dX8_freshOutcome_17 : decode cX8_freshOutcome 17 = .ok (.astore 4, 2) := by decide +kernel
theorem dX8_freshOutcome_19 : decode cX8_freshOutcome 19 = .ok (.aload 4, 2) := by decide +kernel
theorem dX8_freshOutcome_21 : decode cX8_freshOutcome 21 = .ok (.ifnull 19, 3) := by decide +kernel
theorem dX8_freshOutcome_24 : decode cX8_freshOutcome 24 = .ok (.aload 4, 2) := by decide +kernel
theorem dX8_freshOutcome_26 : decode cX8_freshOutcome 26 = .ok (.iload_n 1, 1) := by decide +kernel
theorem dX8_freshOutcome_27 : decode cX8_freshOutcome 27 = .ok (.iconst 0, 1) := by decide +kernel
theorem dX8_freshOutcome_28 : decode cX8_freshOutcome 28 = .ok (.invokevirtual 102, 3) := by decide +kernel
theorem dX8_freshOutcome_31 : decode cX8_freshOutcome 31 = .ok (.ifCond .eq 9, 3) := by decide +kernel
theorem dX8_freshOutcome_34 : decode cX8_freshOutcome 34 = .ok (.iload_n 2, 1) := by decide +kernel
theorem dX8_freshOutcome_35 : decode cX8_freshOutcome 35 = .ok (.iconst 1, 1) := by decide +kernel
theorem dX8_freshOutcome_36 : decode cX8_freshOutcome 36 = .ok (.iload_n 3, 1) := by decide +kernel
theorem dX8_freshOutcome_37 : decode cX8_freshOutcome 37 = .ok (.ishl, 1) := by decide +kernel
theorem dX8_freshOutcome_38 : decode cX8_freshOutcome 38 = .ok (.ior, 1) := by decide +kernel
theorem dX8_freshOutcome_39 : decode cX8_freshOutcome 39 = .ok (.istore_n 2, 1) := by decide +kernel
theorem dX8_freshOutcome_40 : decode cX8_freshOutcome 40 = .ok (.iinc 3 1, 3) := by decide +kernel
theorem dX8_freshOutcome_43 : decode cX8_freshOutcome 43 = .ok (.goto (-39), 3) := by decide +kernel
theorem dX8_freshOutcome_46 : decode cX8_freshOutcome 46 = .ok (.iload_n 2, 1) := by decide +kernel
theorem dX8_freshOutcome_47 : decode cX8_freshOutcome 47 = .ok (.ireturn, 1) := by decide +kernel
theorem dX9_init_0 : decode cX9_init 0 = .ok (.aload_n 0, 1) := by decide +kernel
theorem dX9_init_1 : decode cX9_init 1 = .ok (.invokespecial 3, 3) := by decide +kernel
theorem dX9_init_4 : decode cX9_init 4 = .ok (.aload_n 0, 1) := by decide +kernel
theorem dX9_init_5 : decode cX9_init 5 = .ok (.bipush 16, 2) := by decide +kernel
theorem dX9_init_7 : decode cX9_init 7 = .ok (.newarray .int, 2) := by decide +kernel
theorem dX9_init_9 : decode cX9_init 9 = .ok (.putfield 11, 3) := by decide +kernel
theorem dX9_init_12 : decode cX9_init 12 = .ok (.aload_n 0, 1) := by decide +kernel
theorem dX9_init_13 : decode cX9_init 13 = .ok (.iconst 0, 1) := by decide +kernel
theorem dX9_init_14 : decode cX9_init 14 = .ok (.putfield 15, 3) := by decide +kernel
theorem dX9_init_17 : decode cX9_init 17 = .ok (.return_, 1) := by decide +kernel
theorem dX9_clear_0 : decode cX9_clear 0 = .ok (.aload_n 0, 1) := by decide +kernel
theorem dX9_clear_1 : decode cX9_clear 1 = .ok (.iconst 0, 1) := by decide +kernel
theorem dX9_clear_2 : decode cX9_clear 2 = .ok (.putfield 15, 3) := by decide +kernel
theorem dX9_clear_5 : decode cX9_clear 5 = .ok (.return_, 1) := by decide +kernel
theorem dX9_leave_0 : decode cX9_leave 0 = .ok (.aload_n 0, 1) := by decide +kernel
theorem dX9_leave_1 : decode cX9_leave 1 = .ok (.getfield 15, 3) := by decide +kernel
theorem dX9_leave_4 : decode cX9_leave 4 = .ok (.aload_n 0, 1) := by decide +kernel
theorem dX9_leave_5 : decode cX9_leave 5 = .ok (.getfield 11, 3) := by decide +kernel
theorem dX9_leave_8 : decode cX9_leave 8 = .ok (.arraylength, 1) := by decide +kernel
theorem dX9_leave_9 : decode cX9_leave 9 = .ok (.if_icmp .ge 23, 3) := by decide +kernel
theorem dX9_leave_12 : decode cX9_leave 12 = .ok (.aload_n 0, 1) := by decide +kernel
theorem dX9_leave_13 : decode cX9_leave 13 = .ok (.getfield 11, 3) := by decide +kernel
theorem dX9_leave_16 : decode cX9_leave 16 = .ok (.aload_n 0, 1) := by decide +kernel
theorem dX9_leave_17 : decode cX9_leave 17 = .ok (.getfield 15, 3) := by decide +kernel
theorem dX9_leave_20 : decode cX9_leave 20 = .ok (.iload_n 1, 1) := by decide +kernel
theorem dX9_leave_21 : decode cX9_leave 21 = .ok (.iastore, 1) := by decide +kernel
theorem dX9_leave_22 : decode cX9_leave 22 = .ok (.aload_n 0, 1) := by decide +kernel
theorem dX9_leave_23 : decode cX9_leave 23 = .ok (.dup, 1) := by decide +kernel
theorem dX9_leave_24 : decode cX9_leave 24 = .ok (.getfield 15, 3) := by decide +kernel
theorem dX9_leave_27 : decode cX9_leave 27 = .ok (.iconst 1, 1) := by decide +kernel
theorem dX9_leave_28 : decode cX9_leave 28 = .ok (.iadd, 1) := by decide +kernel
theorem dX9_leave_29 : decode cX9_leave 29 = .ok (.putfield 15, 3) := by decide +kernel
theorem dX9_leave_32 : decode cX9_leave 32 = .ok (.return_, 1) := by decide +kernel
theorem dX9_at_0 : decode cX9_at 0 = .ok (.iload_n 1, 1) := by decide +kernel
theorem dX9_at_1 : decode cX9_at 1 = .ok (.ifCond .lt 20, 3) := by decide +kernel
theorem dX9_at_4 : decode cX9_at 4 = .ok (.iload_n 1, 1) := by decide +kernel
theorem dX9_at_5 : decode cX9_at 5 = .ok (.aload_n 0, 1) := by decide +kernel
theorem dX9_at_6 : decode cX9_at 6 = .ok (.getfield 15, 3) := by decide +kernel
theorem dX9_at_9 : decode cX9_at 9 = .ok (.if_icmp .ge 12, 3) := by decide +kernel
theorem dX9_at_12 : decode cX9_at 12 = .ok (.iload_n 1, 1) := by decide +kernel
theorem dX9_at_13 : decode cX9_at 13 = .ok (.aload_n 0, 1) := by decide +kernel
theorem dX9_at_14 : decode cX9_at 14 = .ok (.getfield 11, 3) := by decide +kernel
theorem dX9_at_17 : decode cX9_at 17 = .ok (.arraylength, 1) := by decide +kernel
theorem dX9_at_18 : decode cX9_at 18 = .ok (.if_icmp .lt 8, 3) := by decide +kernel
theorem dX9_at_21 : decode cX9_at 21 = .ok (.ldc 19, 2) := by decide +kernel
theorem dX9_at_23 : decode cX9_at 23 = .ok (.goto 9, 3) := by decide +kernel
theorem dX9_at_26 : decode cX9_at 26 = .ok (.aload_n 0, 1) := by decide +kernel
theorem dX9_at_27 : decode cX9_at 27 = .ok (.getfield 11, 3) := by decide +kernel
theorem dX9_at_30 : decode cX9_at 30 = .ok (.iload_n 1, 1) := by decide +kernel
theorem dX9_at_31 : decode cX9_at 31 = .ok (.iaload, 1) := by decide +kernel
theorem dX9_at_32 : decode cX9_at 32 = .ok (.ireturn, 1) := by decide +kernel
theorem dX10_init_0 : decode cX10_init 0 = .ok (.aload_n 0, 1) := by decide +kernel
theorem dX10_init_1 : decode cX10_init 1 = .ok (.iload_n 1, 1) := by decide +kernel
theorem dX10_init_2 : decode cX10_init 2 = .ok (.iload_n 2, 1) := by decide +kernel
theorem dX10_init_3 : decode cX10_init 3 = .ok (.iload_n 3, 1) := by decide +kernel
theorem dX10_init_4 : decode cX10_init 4 = .ok (.invokespecial 1, 3) := by decide +kernel
theorem dX10_init_7 : decode cX10_init 7 = .ok (.return_, 1) := by decide +kernel
theorem dX10_ownKind_0 : decode cX10_ownKind 0 = .ok (.iconst 1, 1) := by decide +kernel
theorem dX10_ownKind_1 : decode cX10_ownKind 1 = .ok (.ireturn, 1) := by decide +kernel
theorem dX10_doesIt_0 : decode cX10_doesIt 0 = .ok (.iload_n 1, 1) := by decide +kernel
theorem dX10_doesIt_1 : decode cX10_doesIt 1 = .ok (.aload_n 0, 1) := by decide +kernel
theorem dX10_doesIt_2 : decode cX10_doesIt 2 = .ok (.getfield 7, 3) := by decide +kernel
theorem dX10_doesIt_5 : decode cX10_doesIt 5 = .ok (.invokestatic 13, 3) := by decide +kernel
theorem dX10_doesIt_8 : decode cX10_doesIt 8 = .ok (.ireturn, 1) := by decide +kernel
theorem dX10_size_0 : decode cX10_size 0 = .ok (.aload_n 1, 1) := by decide +kernel
theorem dX10_size_1 : decode cX10_size 1 = .ok (.bipush 11, 2) := by decide +kernel
theorem dX10_size_3 : decode cX10_size 3 = .ok (.invokevirtual 19, 3) := by decide +kernel
theorem dX10_size_6 : decode cX10_size 6 = .ok (.aload_n 0, 1) := by decide +kernel
theorem dX10_size_7 : decode cX10_size 7 = .ok (.aload_n 1, 1) := by decide +kernel
theorem dX10_size_8 : decode cX10_size 8 = .ok (.invokespecial 25, 3) := by decide +kernel
theorem dX10_size_11 : decode cX10_size 11 = .ok (.istore_n 2, 1) := by decide +kernel
theorem dX10_size_12 : decode cX10_size 12 = .ok (.iload_n 2, 1) := by decide +kernel
theorem dX10_size_13 : decode cX10_size 13 = .ok (.aload_n 0, 1) := by decide +kernel
theorem dX10_size_14 : decode cX10_size 14 = .ok (.aload_n 1, 1) := by decide +kernel
theorem dX10_size_15 : decode cX10_size 15 = .ok (.invokevirtual 29, 3) := by decide +kernel
theorem dX10_size_18 : decode cX10_size 18 = .ok (.iadd, 1) := by decide +kernel
theorem dX10_size_19 : decode cX10_size 19 = .ok (.ireturn, 1) := by decide +kernel
theorem dX10_mark_0 : decode cX10_mark 0 = .ok (.aload_n 1, 1) := by decide +kernel
theorem dX10_mark_1 : decode cX10_mark 1 = .ok (.bipush 21, 2) := by decide +kernel
theorem dX10_mark_3 : decode cX10_mark 3 = .ok (.invokevirtual 19, 3) := by decide +kernel
theorem dX10_mark_6 : decode cX10_mark 6 = .ok (.aload_n 0, 1) := by decide +kernel
theorem dX10_mark_7 : decode cX10_mark 7 = .ok (.aload_n 1, 1) := by decide +kernel
theorem dX10_mark_8 : decode cX10_mark 8 = .ok (.invokespecial 32, 3) := by decide +kernel
theorem dX10_mark_11 : decode cX10_mark 11 = .ok (.aload_n 0, 1) := by decide +kernel
theorem dX10_mark_12 : decode cX10_mark 12 = .ok (.getfield 7, 3) := by decide +kernel
theorem dX10_mark_15 : decode cX10_mark 15 = .ok (.iadd, 1) := by decide +kernel
theorem dX10_mark_16 : decode cX10_mark 16 = .ok (.ireturn, 1) := by decide +kernel
theorem dX11_init_0 : decode cX11_init 0 = .ok (.aload_n 0, 1) := by decide +kernel
theorem dX11_init_1 : decode cX11_init 1 = .ok (.invokespecial 3, 3) := by decide +kernel
theorem dX11_init_4 : decode cX11_init 4 = .ok (.aload_n 0, 1) := by decide +kernel
theorem dX11_init_5 : decode cX11_init 5 = .ok (.new 9, 3) := by decide +kernel
theorem dX11_init_8 : decode cX11_init 8 = .ok (.dup, 1) := by decide +kernel
theorem dX11_init_9 : decode cX11_init 9 = .ok (.invokespecial 11, 3) := by decide +kernel
theorem dX11_init_12 : decode cX11_init 12 = .ok (.putfield 12, 3) := by decide +kernel
theorem dX11_init_15 : decode cX11_init 15 = .ok (.aload_n 0, 1) := by decide +kernel
theorem dX11_init_16 : decode cX11_init 16 = .ok (.new 16, 3) := by decide +kernel
theorem dX11_init_19 : decode cX11_init 19 = .ok (.dup, 1) := by decide +kernel
theorem dX11_init_20 : decode cX11_init 20 = .ok (.invokespecial 18, 3) := by decide +kernel
theorem dX11_init_23 : decode cX11_init 23 = .ok (.putfield 19, 3) := by decide +kernel
theorem dX11_init_26 : decode cX11_init 26 = .ok (.aload_n 0, 1) := by decide +kernel
theorem dX11_init_27 : decode cX11_init 27 = .ok (.new 23, 3) := by decide +kernel
theorem dX11_init_30 : decode cX11_init 30 = .ok (.dup, 1) := by decide +kernel
theorem dX11_init_31 : decode cX11_init 31 = .ok (.invokespecial 25, 3) := by decide +kernel
theorem dX11_init_34 : decode cX11_init 34 = .ok (.putfield 26, 3) := by decide +kernel
theorem dX11_init_37 : decode cX11_init 37 = .ok (.aload_n 0, 1) := by decide +kernel
theorem dX11_init_38 : decode cX11_init 38 = .ok (.iconst 2, 1) := by decide +kernel
theorem dX11_init_39 : decode cX11_init 39 = .ok (.anewarray 23, 3) := by decide +kernel
theorem dX11_init_42 : decode cX11_init 42 = .ok (.putfield 30, 3) := by decide +kernel
theorem dX11_init_45 : decode cX11_init 45 = .ok (.aload_n 0, 1) := by decide +kernel
theorem dX11_init_46 : decode cX11_init 46 = .ok (.new 34, 3) := by decide +kernel
theorem dX11_init_49 : decode cX11_init 49 = .ok (.dup, 1) := by decide +kernel
theorem dX11_init_50 : decode cX11_init 50 = .ok (.invokespecial 36, 3) := by decide +kernel
theorem dX11_init_53 : decode cX11_init 53 = .ok (.putfield 37, 3) := by decide +kernel
theorem dX11_init_56 : decode cX11_init 56 = .ok (.aload_n 0, 1) := by decide +kernel
theorem dX11_init_57 : decode cX11_init 57 = .ok (.new 41, 3) := by decide +kernel
theorem dX11_init_60 : decode cX11_init 60 = .ok (.dup, 1) := by decide +kernel
theorem dX11_init_61 : decode cX11_init 61 = .ok (.invokespecial 43, 3) := by decide +kernel
theorem dX11_init_64 : decode cX11_init 64 = .ok (.putfield 44, 3) := by decide +kernel
theorem dX11_init_67 : decode cX11_init 67 = .ok (.aload_n 0, 1) := by decide +kernel
theorem dX11_init_68 : decode cX11_init 68 = .ok (.bipush 24, 2) := by decide +kernel
theorem dX11_init_70 : decode cX11_init 70 = .ok (.newarray .int, 2) := by decide +kernel
theorem dX11_init_72 : decode cX11_init 72 = .ok (.putfield 48, 3) := by decide +kernel
theorem dX11_init_75 : decode cX11_init 75 = .ok (.aload_n 0, 1) := by decide +kernel
theorem dX11_init_76 : decode cX11_init 76 = .ok (.iconst 0, 1) := by decide +kernel
theorem dX11_init_77 : decode cX11_init 77 = .ok (.putfield 52, 3) := by decide +kernel
theorem dX11_init_80 : decode cX11_init 80 = .ok (.aload_n 0, 1) := by decide +kernel
theorem dX11_init_81 : decode cX11_init 81 = .ok (.iconst 0, 1) := by decide +kernel
theorem dX11_init_82 : decode cX11_init 82 = .ok (.putfield 56, 3) := by decide +kernel
theorem dX11_init_85 : decode cX11_init 85 = .ok (.iconst 0, 1) := by decide +kernel
theorem dX11_init_86 : decode cX11_init 86 = .ok (.istore_n 1, 1) := by decide +kernel
theorem dX11_init_87 : decode cX11_init 87 = .ok (.iload_n 1, 1) := by decide +kernel
theorem dX11_init_88 : decode cX11_init 88 = .ok (.aload_n 0, 1) := by decide +kernel
theorem dX11_init_89 : decode cX11_init 89 = .ok (.getfield 30, 3) := by decide +kernel
theorem dX11_init_92 : decode cX11_init 92 = .ok (.arraylength, 1) := by decide +kernel
theorem dX11_init_93 : decode cX11_init 93 = .ok (.if_icmp .ge 22, 3) := by decide +kernel
theorem dX11_init_96 : decode cX11_init 96 = .ok (.aload_n 0, 1) := by decide +kernel
theorem dX11_init_97 : decode cX11_init 97 = .ok (.getfield 30, 3) := by decide +kernel
theorem dX11_init_100 : decode cX11_init 100 = .ok (.iload_n 1, 1) := by decide +kernel
theorem dX11_init_101 : decode cX11_init 101 = .ok (.new 23, 3) := by decide +kernel
theorem dX11_init_104 : decode cX11_init 104 = .ok (.dup, 1) := by decide +kernel
theorem dX11_init_105 : decode cX11_init 105 = .ok (.invokespecial 25, 3) := by decide +kernel
theorem dX11_init_108 : decode cX11_init 108 = .ok (.aastore, 1) := by decide +kernel
theorem dX11_init_109 : decode cX11_init 109 = .ok (.iinc 1 1, 3) := by decide +kernel
theorem dX11_init_112 : decode cX11_init 112 = .ok (.goto (-25), 3) := by decide +kernel
theorem dX11_init_115 : decode cX11_init 115 = .ok (.return_, 1) := by decide +kernel
theorem dX11_row_0 : decode cX11_row 0 = .ok (.aload_n 0, 1) := by decide +kernel
theorem dX11_row_1 : decode cX11_row 1 = .ok (.getfield 12, 3) := by decide +kernel
theorem dX11_row_4 : decode cX11_row 4 = .ok (.iload_n 1, 1) := by decide +kernel
theorem dX11_row_5 : decode cX11_row 5 = .ok (.invokevirtual 59, 3) := by decide +kernel
theorem dX11_row_8 : decode cX11_row 8 = .ok (.ifCond .eq 20, 3) := by decide +kernel
theorem dX11_row_11 : decode cX11_row 11 = .ok (.aload_n 0, 1) := by decide +kernel
theorem dX11_row_12 : decode cX11_row 12 = .ok (.getfield 12, 3) := by decide +kernel
theorem dX11_row_15 : decode cX11_row 15 = .ok (.iload_n 2, 1) := by decide +kernel
theorem dX11_row_16 : decode cX11_row 16 = .ok (.invokevirtual 63, 3) := by decide +kernel
theorem dX11_row_19 : decode cX11_row 19 = .ok (.ifCond .eq 9, 3) := by decide +kernel
theorem dX11_row_22 : decode cX11_row 22 = .ok (.iload_n 3, 1) := by decide +kernel
theorem dX11_row_23 : decode cX11_row 23 = .ok (.bipush 40, 2) := by decide +kernel
theorem dX11_row_25 : decode cX11_row 25 = .ok (.if_icmp .le 6, 3) := by decide +kernel
theorem dX11_row_28 : decode cX11_row 28 = .ok (.ldc 66, 2) := by decide +kernel
theorem dX11_row_30 : decode cX11_row 30 = .ok (.ireturn, 1) := by decide +kernel
theorem dX11_row_31 : decode cX11_row 31 = .ok (.iload_n 3, 1) := by decide +kernel
theorem dX11_row_32 : decode cX11_row 32 = .ok (.ifCond .ge 9, 3) := by decide +kernel
theorem dX11_row_35 : decode cX11_row 35 = .ok (.aload_n 0, 1) := by decide +kernel
theorem dX11_row_36 : decode cX11_row 36 = .ok (.iconst 4, 1) := by decide +kernel
theorem dX11_row_37 : decode cX11_row 37 = .ok (.invokevirtual 67, 3) := by decide +kernel
theorem dX11_row_40 : decode cX11_row 40 = .ok (.ireturn, 1) := by decide +kernel
theorem dX11_row_41 : decode cX11_row 41 = .ok (.aload_n 0, 1) := by decide +kernel
theorem dX11_row_42 : decode cX11_row 42 = .ok (.getfield 12, 3) := by decide +kernel
theorem dX11_row_45 : decode cX11_row 45 = .ok (.iload_n 1, 1) := by decide +kernel
theorem dX11_row_46 : decode cX11_row 46 = .ok (.iload_n 2, 1) := by decide +kernel
theorem dX11_row_47 : decode cX11_row 47 = .ok (.iload_n 3, 1) := by decide +kernel
theorem dX11_row_48 : decode cX11_row 48 = .ok (.invokevirtual 71, 3) := by decide +kernel
theorem dX11_row_51 : decode cX11_row 51 = .ok (.aload_n 0, 1) := by decide +kernel
theorem dX11_row_52 : decode cX11_row 52 = .ok (.iload_n 3, 1) := by decide +kernel
theorem dX11_row_53 : decode cX11_row 53 = .ok (.invokevirtual 75, 3) := by decide +kernel
theorem dX11_row_56 : decode cX11_row 56 = .ok (.ireturn, 1) := by decide +kernel
theorem dX11_set_0 : decode cX11_set 0 = .ok (.aload_n 0, 1) := by decide +kernel
theorem dX11_set_1 : decode cX11_set 1 = .ok (.getfield 12, 3) := by decide +kernel
theorem dX11_set_4 : decode cX11_set 4 = .ok (.iload_n 1, 1) := by decide +kernel
theorem dX11_set_5 : decode cX11_set 5 = .ok (.invokevirtual 59, 3) := by decide +kernel
theorem dX11_set_8 : decode cX11_set 8 = .ok (.ifCond .ne 6, 3) := by decide +kernel
theorem dX11_set_11 : decode cX11_set 11 = .ok (.ldc 66, 2) := by decide +kernel
theorem dX11_set_13 : decode cX11_set 13 = .ok (.ireturn, 1) := by decide +kernel
theorem dX11_set_14 : decode cX11_set 14 = .ok (.aload_n 0, 1) := by decide +kernel
theorem dX11_set_15 : decode cX11_set 15 = .ok (.getfield 12, 3) := by decide +kernel
theorem dX11_set_18 : decode cX11_set 18 = .ok (.iload_n 1, 1) := by decide +kernel
theorem dX11_set_19 : decode cX11_set 19 = .ok (.invokevirtual 78, 3) := by decide +kernel
theorem dX11_set_22 : decode cX11_set 22 = .ok (.ifCond .eq 9, 3) := by decide +kernel
theorem dX11_set_25 : decode cX11_set 25 = .ok (.aload_n 0, 1) := by decide +kernel
theorem dX11_set_26 : decode cX11_set 26 = .ok (.iconst 1, 1) := by decide +kernel
theorem dX11_set_27 : decode cX11_set 27 = .ok (.invokevirtual 67, 3) := by decide +kernel
theorem dX11_set_30 : decode cX11_set 30 = .ok (.ireturn, 1) := by decide +kernel
theorem dX11_set_31 : decode cX11_set 31 = .ok (.aload_n 0, 1) := by decide +kernel
theorem dX11_set_32 : decode cX11_set 32 = .ok (.getfield 12, 3) := by decide +kernel
theorem dX11_set_35 : decode cX11_set 35 = .ok (.iload_n 1, 1) := by decide +kernel
theorem dX11_set_36 : decode cX11_set 36 = .ok (.iload_n 2, 1) := by decide +kernel
theorem dX11_set_37 : decode cX11_set 37 = .ok (.iconst 1, 1) := by decide +kernel
theorem dX11_set_38 : decode cX11_set 38 = .ok (.invokevirtual 81, 3) := by decide +kernel
theorem dX11_set_41 : decode cX11_set 41 = .ok (.ifCond .ne 9, 3) := by decide +kernel
theorem dX11_set_44 : decode cX11_set 44 = .ok (.aload_n 0, 1) := by decide +kernel
theorem dX11_set_45 : decode cX11_set 45 = .ok (.iconst 2, 1) := by decide +kernel
theorem dX11_set_46 : decode cX11_set 46 = .ok (.invokevirtual 67, 3) := by decide +kernel
theorem dX11_set_49 : decode cX11_set 49 = .ok (.ireturn, 1) := by decide +kernel
theorem dX11_set_50 : decode cX11_set 50 = .ok (.aload_n 0, 1) := by decide +kernel
theorem dX11_set_51 : decode cX11_set 51 = .ok (.aload_n 0, 1) := by decide +kernel
theorem dX11_set_52 : decode cX11_set 52 = .ok (.getfield 12, 3) := by decide +kernel
theorem dX11_set_55 : decode cX11_set 55 = .ok (.iload_n 1, 1) := by decide +kernel
theorem dX11_set_56 : decode cX11_set 56 = .ok (.iload_n 2, 1) := by decide +kernel
theorem dX11_set_57 : decode cX11_set 57 = .ok (.iload_n 3, 1) := by decide +kernel
theorem dX11_set_58 : decode cX11_set 58 = .ok (.invokevirtual 85, 3) := by decide +kernel
theorem dX11_set_61 : decode cX11_set 61 = .ok (.invokevirtual 75, 3) := by decide +kernel
theorem dX11_set_64 : decode cX11_set 64 = .ok (.ireturn, 1) := by decide +kernel
theorem dX11_copy_0 : decode cX11_copy 0 = .ok (.aload_n 0, 1) := by decide +kernel
theorem dX11_copy_1 : decode cX11_copy 1 = .ok (.getfield 12, 3) := by decide +kernel
theorem dX11_copy_4 : decode cX11_copy 4 = .ok (.iload_n 1, 1) := by decide +kernel
theorem dX11_copy_5 : decode cX11_copy 5 = .ok (.invokevirtual 59, 3) := by decide +kernel
theorem dX11_copy_8 : decode cX11_copy 8 = .ok (.ifCond .eq 14, 3) := by decide +kernel
theorem dX11_copy_11 : decode cX11_copy 11 = .ok (.aload_n 0, 1) := by decide +kernel
theorem dX11_copy_12 : decode cX11_copy 12 = .ok (.getfield 12, 3) := by decide +kernel
theorem dX11_copy_15 : decode cX11_copy 15 = .ok (.iload_n 3, 1) := by decide +kernel
theorem dX11_copy_16 : decode cX11_copy 16 = .ok (.invokevirtual 59, 3) := by decide +kernel
theorem dX11_copy_19 : decode cX11_copy 19 = .ok (.ifCond .ne 6, 3) := by decide +kernel
theorem dX11_copy_22 : decode cX11_copy 22 = .ok (.ldc 66, 2) := by decide +kernel
theorem dX11_copy_24 : decode cX11_copy 24 = .ok (.ireturn, 1) := by decide +kernel
theorem dX11_copy_25 : decode cX11_copy 25 = .ok (.aload_n 0, 1) := by decide +kernel
theorem dX11_copy_26 : decode cX11_copy 26 = .ok (.getfield 12, 3) := by decide +kernel
theorem dX11_copy_29 : decode cX11_copy 29 = .ok (.iload_n 1, 1) := by decide +kernel
theorem dX11_copy_30 : decode cX11_copy 30 = .ok (.invokevirtual 78, 3) := by decide +kernel
theorem dX11_copy_33 : decode cX11_copy 33 = .ok (.ifCond .ne 14, 3) := by decide +kernel
theorem dX11_copy_36 : decode cX11_copy 36 = .ok (.aload_n 0, 1) := by decide +kernel
theorem dX11_copy_37 : decode cX11_copy 37 = .ok (.getfield 12, 3) := by decide +kernel
theorem dX11_copy_40 : decode cX11_copy 40 = .ok (.iload_n 3, 1) := by decide +kernel
theorem dX11_copy_41 : decode cX11_copy 41 = .ok (.invokevirtual 78, 3) := by decide +kernel
theorem dX11_copy_44 : decode cX11_copy 44 = .ok (.ifCond .eq 9, 3) := by decide +kernel
theorem dX11_copy_47 : decode cX11_copy 47 = .ok (.aload_n 0, 1) := by decide +kernel
theorem dX11_copy_48 : decode cX11_copy 48 = .ok (.iconst 1, 1) := by decide +kernel
theorem dX11_copy_49 : decode cX11_copy 49 = .ok (.invokevirtual 67, 3) := by decide +kernel
theorem dX11_copy_52 : decode cX11_copy 52 = .ok (.ireturn, 1) := by decide +kernel
theorem dX11_copy_53 : decode cX11_copy 53 = .ok (.aload_n 0, 1) := by decide +kernel
theorem dX11_copy_54 : decode cX11_copy 54 = .ok (.getfield 12, 3) := by decide +kernel
theorem dX11_copy_57 : decode cX11_copy 57 = .ok (.iload_n 1, 1) := by decide +kernel
theorem dX11_copy_58 : decode cX11_copy 58 = .ok (.iload_n 3, 1) := by decide +kernel
theorem dX11_copy_59 : decode cX11_copy 59 = .ok (.invokevirtual 89, 3) := by decide +kernel
theorem dX11_copy_62 : decode cX11_copy 62 = .ok (.ifCond .ne 9, 3) := by decide +kernel
theorem dX11_copy_65 : decode cX11_copy 65 = .ok (.aload_n 0, 1) := by decide +kernel
theorem dX11_copy_66 : decode cX11_copy 66 = .ok (.iconst 5, 1) := by decide +kernel
theorem dX11_copy_67 : decode cX11_copy 67 = .ok (.invokevirtual 67, 3) := by decide +kernel
theorem dX11_copy_70 : decode cX11_copy 70 = .ok (.ireturn, 1) := by decide +kernel
theorem dX11_copy_71 : decode cX11_copy 71 = .ok (.aload_n 0, 1) := by decide +kernel
theorem dX11_copy_72 : decode cX11_copy 72 = .ok (.getfield 12, 3) := by decide +kernel
theorem dX11_copy_75 : decode cX11_copy 75 = .ok (.iload_n 1, 1) := by decide +kernel
theorem dX11_copy_76 : decode cX11_copy 76 = .ok (.iload_n 2, 1) := by decide +kernel
theorem dX11_copy_77 : decode cX11_copy 77 = .ok (.iload 5, 2) := by decide +kernel
theorem dX11_copy_79 : decode cX11_copy 79 = .ok (.invokevirtual 81, 3) := by decide +kernel
theorem dX11_copy_82 : decode cX11_copy 82 = .ok (.ifCond .eq 18, 3) := by decide +kernel
theorem dX11_copy_85 : decode cX11_copy 85 = .ok (.aload_n 0, 1) := by decide +kernel
theorem dX11_copy_86 : decode cX11_copy 86 = .ok (.getfield 12, 3) := by decide +kernel
theorem dX11_copy_89 : decode cX11_copy 89 = .ok (.iload_n 3, 1) := by decide +kernel
theorem dX11_copy_90 : decode cX11_copy 90 = .ok (.iload 4, 2) := by decide +kernel
theorem dX11_copy_92 : decode cX11_copy 92 = .ok (.iload 5, 2) := by decide +kernel
theorem dX11_copy_94 : decode cX11_copy 94 = .ok (.invokevirtual 81, 3) := by decide +kernel
theorem dX11_copy_97 : decode cX11_copy 97 = .ok (.ifCond .ne 9, 3) := by decide +kernel
theorem dX11_copy_100 : decode cX11_copy 100 = .ok (.aload_n 0, 1) := by decide +kernel
theorem dX11_copy_101 : decode cX11_copy 101 = .ok (.iconst 2, 1) := by decide +kernel
theorem dX11_copy_102 : decode cX11_copy 102 = .ok (.invokevirtual 67, 3) := by decide +kernel
theorem dX11_copy_105 : decode cX11_copy 105 = .ok (.ireturn, 1) := by decide +kernel
theorem dX11_copy_106 : decode cX11_copy 106 = .ok (.aload_n 0, 1) := by decide +kernel
theorem dX11_copy_107 : decode cX11_copy 107 = .ok (.getfield 12, 3) := by decide +kernel
theorem dX11_copy_110 : decode cX11_copy 110 = .ok (.iload_n 1, 1) := by decide +kernel
theorem dX11_copy_111 : decode cX11_copy 111 = .ok (.iload_n 2, 1) := by decide +kernel
theorem dX11_copy_112 : decode cX11_copy 112 = .ok (.iload_n 3, 1) := by decide +kernel
theorem dX11_copy_113 : decode cX11_copy 113 = .ok (.iload 4, 2) := by decide +kernel
theorem dX11_copy_115 : decode cX11_copy 115 = .ok (.iload 5, 2) := by decide +kernel
theorem dX11_copy_117 : decode cX11_copy 117 = .ok (.invokevirtual 93, 3) := by decide +kernel
theorem dX11_copy_120 : decode cX11_copy 120 = .ok (.aload_n 0, 1) := by decide +kernel
theorem dX11_copy_121 : decode cX11_copy 121 = .ok (.iload 5, 2) := by decide +kernel
theorem dX11_copy_123 : decode cX11_copy 123 = .ok (.invokevirtual 75, 3) := by decide +kernel
theorem dX11_copy_126 : decode cX11_copy 126 = .ok (.ireturn, 1) := by decide +kernel
theorem dX11_drop_0 : decode cX11_drop 0 = .ok (.aload_n 0, 1) := by decide +kernel
theorem dX11_drop_1 : decode cX11_drop 1 = .ok (.getfield 12, 3) := by decide +kernel
theorem dX11_drop_4 : decode cX11_drop 4 = .ok (.iload_n 1, 1) := by decide +kernel
theorem dX11_drop_5 : decode cX11_drop 5 = .ok (.invokevirtual 59, 3) := by decide +kernel
theorem dX11_drop_8 : decode cX11_drop 8 = .ok (.ifCond .ne 6, 3) := by decide +kernel
theorem dX11_drop_11 : decode cX11_drop 11 = .ok (.ldc 66, 2) := by decide +kernel
theorem dX11_drop_13 : decode cX11_drop 13 = .ok (.ireturn, 1) := by decide +kernel
theorem dX11_drop_14 : decode cX11_drop 14 = .ok (.aload_n 0, 1) := by decide +kernel
theorem dX11_drop_15 : decode cX11_drop 15 = .ok (.getfield 12, 3) := by decide +kernel
theorem dX11_drop_18 : decode cX11_drop 18 = .ok (.iload_n 1, 1) := by decide +kernel
theorem dX11_drop_19 : decode cX11_drop 19 = .ok (.invokevirtual 78, 3) := by decide +kernel
theorem dX11_drop_22 : decode cX11_drop 22 = .ok (.ifCond .eq 9, 3) := by decide +kernel
theorem dX11_drop_25 : decode cX11_drop 25 = .ok (.aload_n 0, 1) := by decide +kernel
theorem dX11_drop_26 : decode cX11_drop 26 = .ok (.iconst 1, 1) := by decide +kernel
theorem dX11_drop_27 : decode cX11_drop 27 = .ok (.invokevirtual 67, 3) := by decide +kernel
theorem dX11_drop_30 : decode cX11_drop 30 = .ok (.ireturn, 1) := by decide +kernel
theorem dX11_drop_31 : decode cX11_drop 31 = .ok (.aload_n 0, 1) := by decide +kernel
theorem dX11_drop_32 : decode cX11_drop 32 = .ok (.aload_n 0, 1) := by decide +kernel
theorem dX11_drop_33 : decode cX11_drop 33 = .ok (.getfield 12, 3) := by decide +kernel
theorem dX11_drop_36 : decode cX11_drop 36 = .ok (.iload_n 1, 1) := by decide +kernel
theorem dX11_drop_37 : decode cX11_drop 37 = .ok (.invokevirtual 97, 3) := by decide +kernel
theorem dX11_drop_40 : decode cX11_drop 40 = .ok (.invokevirtual 75, 3) := by decide +kernel
theorem dX11_drop_43 : decode cX11_drop 43 = .ok (.ireturn, 1) := by decide +kernel
theorem dX11_feed_0 : decode cX11_feed 0 = .ok (.iload_n 3, 1) := by decide +kernel
theorem dX11_feed_1 : decode cX11_feed 1 = .ok (.iconst 1, 1) := by decide +kernel
theorem dX11_feed_2 : decode cX11_feed 2 = .ok (.if_icmp .lt 9, 3) := by decide +kernel
theorem dX11_feed_5 : decode cX11_feed 5 = .ok (.iload_n 3, 1) := by decide +kernel
theorem dX11_feed_6 : decode cX11_feed 6 = .ok (.bipush 8, 2) := by decide +kernel
theorem dX11_feed_8 : decode cX11_feed 8 = .ok (.if_icmp .le 6, 3) := by decide +kernel
theorem dX11_feed_11 : decode cX11_feed 11 = .ok (.ldc 66, 2) := by decide +kernel
theorem dX11_feed_13 : decode cX11_feed 13 = .ok (.ireturn, 1) := by decide +kernel
theorem dX11_feed_14 : decode cX11_feed 14 = .ok (.aload_n 0, 1) := by decide +kernel
theorem dX11_feed_15 : decode cX11_feed 15 = .ok (.getfield 19, 3) := by decide +kernel
theorem dX11_feed_18 : decode cX11_feed 18 = .ok (.iload_n 3, 1) := by decide +kernel
theorem dX11_feed_19 : decode cX11_feed 19 = .ok (.invokevirtual 100, 3) := by decide +kernel
theorem dX11_feed_22 : decode cX11_feed 22 = .ok (.ifCond .eq 15, 3) := by decide +kernel
theorem dX11_feed_25 : decode cX11_feed 25 = .ok (.aload_n 0, 1) := by decide +kernel
theorem dX11_feed_26 : decode cX11_feed 26 = .ok (.getfield 19, 3) := by decide +kernel
theorem dX11_feed_29 : decode cX11_feed 29 = .ok (.lload_n 1, 1) := by decide +kernel
theorem dX11_feed_30 : decode cX11_feed 30 = .ok (.iload_n 3, 1) := by decide +kernel
theorem dX11_feed_31 : decode cX11_feed 31 = .ok (.invokevirtual 103, 3) := by decide +kernel
theorem dX11_feed_34 : decode cX11_feed 34 = .ok (.goto 5, 3) := by decide +kernel
theorem dX11_feed_37 : decode cX11_feed 37 = .ok (.ldc 107, 2) := by decide +kernel
theorem dX11_feed_39 : decode cX11_feed 39 = .ok (.ireturn, 1) := by decide +kernel
theorem dX11_town_0 : decode cX11_town 0 = .ok (.aload_n 0, 1) := by decide +kernel
theorem dX11_town_1 : decode cX11_town 1 = .ok (.getfield 19, 3) := by decide +kernel
theorem dX11_town_4 : decode cX11_town 4 = .ok (.invokevirtual 108, 3) := by decide +kernel
theorem dX11_town_7 : decode cX11_town 7 = .ok (.istore_n 1, 1) := by decide +kernel
theorem dX11_town_8 : decode cX11_town 8 = .ok (.iload_n 1, 1) := by decide +kernel
theorem dX11_town_9 : decode cX11_town 9 = .ok (.iconst (-1), 1) := by decide +kernel
theorem dX11_town_10 : decode cX11_town 10 = .ok (.if_icmp .eq 8, 3) := by decide +kernel
theorem dX11_town_13 : decode cX11_town 13 = .ok (.ldc 112, 2) := by decide +kernel
theorem dX11_town_15 : decode cX11_town 15 = .ok (.iload_n 1, 1) := by decide +kernel
theorem dX11_town_16 : decode cX11_town 16 = .ok (.isub, 1) := by decide +kernel
theorem dX11_town_17 : decode cX11_town 17 = .ok (.ireturn, 1) := by decide +kernel
theorem dX11_town_18 : decode cX11_town 18 = .ok (.aload_n 0, 1) := by decide +kernel
theorem dX11_town_19 : decode cX11_town 19 = .ok (.getfield 26, 3) := by decide +kernel
theorem dX11_town_22 : decode cX11_town 22 = .ok (.aload_n 0, 1) := by decide +kernel
theorem dX11_town_23 : decode cX11_town 23 = .ok (.getfield 19, 3) := by decide +kernel
theorem dX11_town_26 : decode cX11_town 26 = .ok (.invokevirtual 113, 3) := by decide +kernel
theorem dX11_town_29 : decode cX11_town 29 = .ok (.aload_n 0, 1) := by decide +kernel
theorem dX11_town_30 : decode cX11_town 30 = .ok (.iconst 0, 1) := by decide +kernel
theorem dX11_town_31 : decode cX11_town 31 = .ok (.putfield 52, 3) := by decide +kernel
theorem dX11_town_34 : decode cX11_town 34 = .ok (.aload_n 0, 1) := by decide +kernel
theorem dX11_town_35 : decode cX11_town 35 = .ok (.getfield 26, 3) := by decide +kernel
theorem dX11_town_38 : decode cX11_town 38 = .ok (.invokevirtual 117, 3) := by decide +kernel
theorem dX11_town_41 : decode cX11_town 41 = .ok (.ireturn, 1) := by decide +kernel
theorem dX11_fault_0 : decode cX11_fault 0 = .ok (.aload_n 0, 1) := by decide +kernel
theorem dX11_fault_1 : decode cX11_fault 1 = .ok (.getfield 19, 3) := by decide +kernel
theorem dX11_fault_4 : decode cX11_fault 4 = .ok (.invokevirtual 120, 3) := by decide +kernel
theorem dX11_fault_7 : decode cX11_fault 7 = .ok (.ireturn, 1) := by decide +kernel
theorem dX11_post_0 : decode cX11_post 0 = .ok (.aload_n 0, 1) := by decide +kernel
theorem dX11_post_1 : decode cX11_post 1 = .ok (.getfield 26, 3) := by decide +kernel
theorem dX11_post_4 : decode cX11_post 4 = .ok (.invokevirtual 123, 3) := by decide +kernel
theorem dX11_post_7 : decode cX11_post 7 = .ok (.ifCond .eq 6, 3) := by decide +kernel
theorem dX11_post_10 : decode cX11_post 10 = .ok (.ldc 127, 2) := by decide +kernel
theorem dX11_post_12 : decode cX11_post 12 = .ok (.ireturn, 1) := by decide +kernel
theorem dX11_post_13 : decode cX11_post 13 = .ok (.aload_n 0, 1) := by decide +kernel
theorem dX11_post_14 : decode cX11_post 14 = .ok (.getfield 26, 3) := by decide +kernel
theorem dX11_post_17 : decode cX11_post 17 = .ok (.iload_n 1, 1) := by decide +kernel
theorem dX11_post_18 : decode cX11_post 18 = .ok (.invokevirtual 128, 3) := by decide +kernel
theorem dX11_post_21 : decode cX11_post 21 = .ok (.ifCond .ne 6, 3) := by decide +kernel
theorem dX11_post_24 : decode cX11_post 24 = .ok (.ldc 66, 2) := by decide +kernel
theorem dX11_post_26 : decode cX11_post 26 = .ok (.ireturn, 1) := by decide +kernel
theorem dX11_post_27 : decode cX11_post 27 = .ok (.aload_n 0, 1) := by decide +kernel
theorem dX11_post_28 : decode cX11_post 28 = .ok (.getfield 26, 3) := by decide +kernel
theorem dX11_post_31 : decode cX11_post 31 = .ok (.iload_n 1, 1) := by decide +kernel
theorem dX11_post_32 : decode cX11_post 32 = .ok (.invokevirtual 131, 3) := by decide +kernel
theorem dX11_post_35 : decode cX11_post 35 = .ok (.ifCond .ne 6, 3) := by decide +kernel
theorem dX11_post_38 : decode cX11_post 38 = .ok (.ldc 127, 2) := by decide +kernel
theorem dX11_post_40 : decode cX11_post 40 = .ok (.ireturn, 1) := by decide +kernel
theorem dX11_post_41 : decode cX11_post 41 = .ok (.aload_n 0, 1) := by decide +kernel
theorem dX11_post_42 : decode cX11_post 42 = .ok (.getfield 26, 3) := by decide +kernel
theorem dX11_post_45 : decode cX11_post 45 = .ok (.invokevirtual 134, 3) := by decide +kernel
theorem dX11_post_48 : decode cX11_post 48 = .ok (.sipush 9999, 3) := by decide +kernel
theorem dX11_post_51 : decode cX11_post 51 = .ok (.if_icmp .lt 6, 3) := by decide +kernel
theorem dX11_post_54 : decode cX11_post 54 = .ok (.ldc 107, 2) := by decide +kernel
theorem dX11_post_56 : decode cX11_post 56 = .ok (.ireturn, 1) := by decide +kernel
theorem dX11_post_57 : decode cX11_post 57 = .ok (.aload_n 0, 1) := by decide +kernel
theorem dX11_post_58 : decode cX11_post 58 = .ok (.iload_n 1, 1) := by decide +kernel
theorem dX11_post_59 : decode cX11_post 59 = .ok (.invokevirtual 137, 3) := by decide +kernel
theorem dX11_post_62 : decode cX11_post 62 = .ok (.aload_n 0, 1) := by decide +kernel
theorem dX11_post_63 : decode cX11_post 63 = .ok (.getfield 26, 3) := by decide +kernel
theorem dX11_post_66 : decode cX11_post 66 = .ok (.invokevirtual 134, 3) := by decide +kernel
theorem dX11_post_69 : decode cX11_post 69 = .ok (.ireturn, 1) := by decide +kernel
theorem dX11_posts_0 : decode cX11_posts 0 = .ok (.aload_n 0, 1) := by decide +kernel
theorem dX11_posts_1 : decode cX11_posts 1 = .ok (.iload_n 1, 1) := by decide +kernel
theorem dX11_posts_2 : decode cX11_posts 2 = .ok (.iload_n 2, 1) := by decide +kernel
theorem dX11_posts_3 : decode cX11_posts 3 = .ok (.iload_n 3, 1) := by decide +kernel
theorem dX11_posts_4 : decode cX11_posts 4 = .ok (.iconst 1, 1) := by decide +kernel
theorem dX11_posts_5 : decode cX11_posts 5 = .ok (.bipush 24, 2) := by decide +kernel
theorem dX11_posts_7 : decode cX11_posts 7 = .ok (.invokevirtual 141, 3) := by decide +kernel
theorem dX11_posts_10 : decode cX11_posts 10 = .ok (.istore 4, 2) := by decide +kernel
theorem dX11_posts_12 : decode cX11_posts 12 = .ok (.iload 4, 2) := by decide +kernel
theorem dX11_posts_14 : decode cX11_posts 14 = .ok (.ifCond .eq 6, 3) := by decide +kernel
theorem dX11_posts_17 : decode cX11_posts 17 = .ok (.iload 4, 2) := by decide +kernel
theorem dX11_posts_19 : decode cX11_posts 19 = .ok (.ireturn, 1) := by decide +kernel
theorem dX11_posts_20 : decode cX11_posts 20 = .ok (.aload_n 0, 1) := by decide +kernel
theorem dX11_posts_21 : decode cX11_posts 21 = .ok (.getfield 26, 3) := by decide +kernel
theorem dX11_posts_24 : decode cX11_posts 24 = .ok (.invokevirtual 134, 3) := by decide +kernel
theorem dX11_posts_27 : decode cX11_posts 27 = .ok (.sipush 9999, 3) := by decide +kernel
theorem dX11_posts_30 : decode cX11_posts 30 = .ok (.iload_n 3, 1) := by decide +kernel
theorem dX11_posts_31 : decode cX11_posts 31 = .ok (.isub, 1) := by decide +kernel
theorem dX11_posts_32 : decode cX11_posts 32 = .ok (.if_icmp .le 6, 3) := by decide +kernel
theorem dX11_posts_35 : decode cX11_posts 35 = .ok (.ldc 107, 2) := by decide +kernel
theorem dX11_posts_37 : decode cX11_posts 37 = .ok (.ireturn, 1) := by decide +kernel
theorem dX11_posts_38 : decode cX11_posts 38 = .ok (.iconst 0, 1) := by decide +kernel
theorem dX11_posts_39 : decode cX11_posts 39 = .ok (.istore 5, 2) := by decide +kernel
theorem dX11_posts_41 : decode cX11_posts 41 = .ok (.iload 5, 2) := by decide +kernel
theorem dX11_posts_43 : decode cX11_posts 43 = .ok (.iload_n 3, 1) := by decide +kernel
theorem dX11_posts_44 : decode cX11_posts 44 = .ok (.if_icmp .ge 47, 3) := by decide +kernel
theorem dX11_posts_47 : decode cX11_posts 47 = .ok (.aload_n 0, 1) := by decide +kernel
theorem dX11_posts_48 : decode cX11_posts 48 = .ok (.getfield 26, 3) := by decide +kernel
theorem dX11_posts_51 : decode cX11_posts 51 = .ok (.aload_n 0, 1) := by decide +kernel
theorem dX11_posts_52 : decode cX11_posts 52 = .ok (.getfield 12, 3) := by decide +kernel
theorem dX11_posts_55 : decode cX11_posts 55 = .ok (.iload_n 1, 1) := by decide +kernel
theorem dX11_posts_56 : decode cX11_posts 56 = .ok (.iload_n 2, 1) := by decide +kernel
theorem dX11_posts_57 : decode cX11_posts 57 = .ok (.iload 5, 2) := by decide +kernel
theorem dX11_posts_59 : decode cX11_posts 59 = .ok (.iadd, 1) := by decide +kernel
theorem dX11_posts_60 : decode cX11_posts 60 = .ok (.invokevirtual 145, 3) := by decide +kernel
theorem dX11_posts_63 : decode cX11_posts 63 = .ok (.invokevirtual 131, 3) := by decide +kernel
theorem dX11_posts_66 : decode cX11_posts 66 = .ok (.ifCond .eq 25, 3) := by decide +kernel
theorem dX11_posts_69 : decode cX11_posts 69 = .ok (.aload_n 0, 1) := by decide +kernel
theorem dX11_posts_70 : decode cX11_posts 70 = .ok (.aload_n 0, 1) := by decide +kernel
