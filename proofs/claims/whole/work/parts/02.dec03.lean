theorem dX12_drop_21 : decode cX12_drop 21 = .ok (.getfield 7, 3) := by decide +kernel
theorem dX12_drop_24 : decode cX12_drop 24 = .ok (.iload_n 1, 1) := by decide +kernel
theorem dX12_drop_25 : decode cX12_drop 25 = .ok (.iaload, 1) := by decide +kernel
theorem dX12_drop_26 : decode cX12_drop 26 = .ok (.ifCond .ge 9, 3) := by decide +kernel
theorem dX12_drop_29 : decode cX12_drop 29 = .ok (.aload_n 0, 1) := by decide +kernel
theorem dX12_drop_30 : decode cX12_drop 30 = .ok (.iconst 1, 1) := by decide +kernel
theorem dX12_drop_31 : decode cX12_drop 31 = .ok (.invokevirtual 65, 3) := by decide +kernel
theorem dX12_drop_34 : decode cX12_drop 34 = .ok (.ireturn, 1) := by decide +kernel
theorem dX12_drop_35 : decode cX12_drop 35 = .ok (.aload_n 0, 1) := by decide +kernel
theorem dX12_drop_36 : decode cX12_drop 36 = .ok (.getfield 7, 3) := by decide +kernel
theorem dX12_drop_39 : decode cX12_drop 39 = .ok (.iload_n 1, 1) := by decide +kernel
theorem dX12_drop_40 : decode cX12_drop 40 = .ok (.iconst (-1), 1) := by decide +kernel
theorem dX12_drop_41 : decode cX12_drop 41 = .ok (.iastore, 1) := by decide +kernel
theorem dX12_drop_42 : decode cX12_drop 42 = .ok (.aload_n 0, 1) := by decide +kernel
theorem dX12_drop_43 : decode cX12_drop 43 = .ok (.getfield 13, 3) := by decide +kernel
theorem dX12_drop_46 : decode cX12_drop 46 = .ok (.iload_n 1, 1) := by decide +kernel
theorem dX12_drop_47 : decode cX12_drop 47 = .ok (.iaload, 1) := by decide +kernel
theorem dX12_drop_48 : decode cX12_drop 48 = .ok (.ireturn, 1) := by decide +kernel
theorem dX12_feed_0 : decode cX12_feed 0 = .ok (.aload_n 0, 1) := by decide +kernel
theorem dX12_feed_1 : decode cX12_feed 1 = .ok (.iconst 0, 1) := by decide +kernel
theorem dX12_feed_2 : decode cX12_feed 2 = .ok (.putfield 44, 3) := by decide +kernel
theorem dX12_feed_5 : decode cX12_feed 5 = .ok (.iload_n 3, 1) := by decide +kernel
theorem dX12_feed_6 : decode cX12_feed 6 = .ok (.i2l, 1) := by decide +kernel
theorem dX12_feed_7 : decode cX12_feed 7 = .ok (.lconst 1, 1) := by decide +kernel
theorem dX12_feed_8 : decode cX12_feed 8 = .ok (.ldc2_w 69, 3) := by decide +kernel
theorem dX12_feed_11 : decode cX12_feed 11 = .ok (.invokestatic 54, 3) := by decide +kernel
theorem dX12_feed_14 : decode cX12_feed 14 = .ok (.ifCond .ne 6, 3) := by decide +kernel
theorem dX12_feed_17 : decode cX12_feed 17 = .ok (.ldc 64, 2) := by decide +kernel
theorem dX12_feed_19 : decode cX12_feed 19 = .ok (.ireturn, 1) := by decide +kernel
theorem dX12_feed_20 : decode cX12_feed 20 = .ok (.aload_n 0, 1) := by decide +kernel
theorem dX12_feed_21 : decode cX12_feed 21 = .ok (.getfield 71, 3) := by decide +kernel
theorem dX12_feed_24 : decode cX12_feed 24 = .ok (.iload_n 3, 1) := by decide +kernel
theorem dX12_feed_25 : decode cX12_feed 25 = .ok (.iadd, 1) := by decide +kernel
theorem dX12_feed_26 : decode cX12_feed 26 = .ok (.sipush 300, 3) := by decide +kernel
theorem dX12_feed_29 : decode cX12_feed 29 = .ok (.if_icmp .le 6, 3) := by decide +kernel
theorem dX12_feed_32 : decode cX12_feed 32 = .ok (.ldc 74, 2) := by decide +kernel
theorem dX12_feed_34 : decode cX12_feed 34 = .ok (.ireturn, 1) := by decide +kernel
theorem dX12_feed_35 : decode cX12_feed 35 = .ok (.iload_n 3, 1) := by decide +kernel
theorem dX12_feed_36 : decode cX12_feed 36 = .ok (.iconst 1, 1) := by decide +kernel
theorem dX12_feed_37 : decode cX12_feed 37 = .ok (.isub, 1) := by decide +kernel
theorem dX12_feed_38 : decode cX12_feed 38 = .ok (.istore 4, 2) := by decide +kernel
theorem dX12_feed_40 : decode cX12_feed 40 = .ok (.iload 4, 2) := by decide +kernel
theorem dX12_feed_42 : decode cX12_feed 42 = .ok (.ifCond .lt 40, 3) := by decide +kernel
theorem dX12_feed_45 : decode cX12_feed 45 = .ok (.aload_n 0, 1) := by decide +kernel
theorem dX12_feed_46 : decode cX12_feed 46 = .ok (.getfield 28, 3) := by decide +kernel
theorem dX12_feed_49 : decode cX12_feed 49 = .ok (.aload_n 0, 1) := by decide +kernel
theorem dX12_feed_50 : decode cX12_feed 50 = .ok (.getfield 71, 3) := by decide +kernel
theorem dX12_feed_53 : decode cX12_feed 53 = .ok (.lload_n 1, 1) := by decide +kernel
theorem dX12_feed_54 : decode cX12_feed 54 = .ok (.bipush 8, 2) := by decide +kernel
theorem dX12_feed_56 : decode cX12_feed 56 = .ok (.iload 4, 2) := by decide +kernel
theorem dX12_feed_58 : decode cX12_feed 58 = .ok (.imul, 1) := by decide +kernel
theorem dX12_feed_59 : decode cX12_feed 59 = .ok (.lshr, 1) := by decide +kernel
theorem dX12_feed_60 : decode cX12_feed 60 = .ok (.ldc2_w 75, 3) := by decide +kernel
theorem dX12_feed_63 : decode cX12_feed 63 = .ok (.land, 1) := by decide +kernel
theorem dX12_feed_64 : decode cX12_feed 64 = .ok (.l2i, 1) := by decide +kernel
theorem dX12_feed_65 : decode cX12_feed 65 = .ok (.iastore, 1) := by decide +kernel
theorem dX12_feed_66 : decode cX12_feed 66 = .ok (.aload_n 0, 1) := by decide +kernel
theorem dX12_feed_67 : decode cX12_feed 67 = .ok (.dup, 1) := by decide +kernel
theorem dX12_feed_68 : decode cX12_feed 68 = .ok (.getfield 71, 3) := by decide +kernel
theorem dX12_feed_71 : decode cX12_feed 71 = .ok (.iconst 1, 1) := by decide +kernel
theorem dX12_feed_72 : decode cX12_feed 72 = .ok (.iadd, 1) := by decide +kernel
theorem dX12_feed_73 : decode cX12_feed 73 = .ok (.putfield 71, 3) := by decide +kernel
theorem dX12_feed_76 : decode cX12_feed 76 = .ok (.iinc 4 (-1), 3) := by decide +kernel
theorem dX12_feed_79 : decode cX12_feed 79 = .ok (.goto (-39), 3) := by decide +kernel
theorem dX12_feed_82 : decode cX12_feed 82 = .ok (.aload_n 0, 1) := by decide +kernel
theorem dX12_feed_83 : decode cX12_feed 83 = .ok (.getfield 71, 3) := by decide +kernel
theorem dX12_feed_86 : decode cX12_feed 86 = .ok (.ireturn, 1) := by decide +kernel
theorem dX12_byteAt_0 : decode cX12_byteAt 0 = .ok (.iload_n 1, 1) := by decide +kernel
theorem dX12_byteAt_1 : decode cX12_byteAt 1 = .ok (.aload_n 0, 1) := by decide +kernel
theorem dX12_byteAt_2 : decode cX12_byteAt 2 = .ok (.getfield 77, 3) := by decide +kernel
theorem dX12_byteAt_5 : decode cX12_byteAt 5 = .ok (.if_icmp .ge 12, 3) := by decide +kernel
theorem dX12_byteAt_8 : decode cX12_byteAt 8 = .ok (.aload_n 0, 1) := by decide +kernel
theorem dX12_byteAt_9 : decode cX12_byteAt 9 = .ok (.getfield 28, 3) := by decide +kernel
theorem dX12_byteAt_12 : decode cX12_byteAt 12 = .ok (.iload_n 1, 1) := by decide +kernel
theorem dX12_byteAt_13 : decode cX12_byteAt 13 = .ok (.iaload, 1) := by decide +kernel
theorem dX12_byteAt_14 : decode cX12_byteAt 14 = .ok (.goto 5, 3) := by decide +kernel
theorem dX12_byteAt_17 : decode cX12_byteAt 17 = .ok (.ldc 80, 2) := by decide +kernel
theorem dX12_byteAt_19 : decode cX12_byteAt 19 = .ok (.ireturn, 1) := by decide +kernel
theorem dX12_isLetter_0 : decode cX12_isLetter 0 = .ok (.iload_n 0, 1) := by decide +kernel
theorem dX12_isLetter_1 : decode cX12_isLetter 1 = .ok (.bipush 97, 2) := by decide +kernel
theorem dX12_isLetter_3 : decode cX12_isLetter 3 = .ok (.if_icmp .lt 13, 3) := by decide +kernel
theorem dX12_isLetter_6 : decode cX12_isLetter 6 = .ok (.iload_n 0, 1) := by decide +kernel
theorem dX12_isLetter_7 : decode cX12_isLetter 7 = .ok (.bipush 122, 2) := by decide +kernel
theorem dX12_isLetter_9 : decode cX12_isLetter 9 = .ok (.if_icmp .gt 7, 3) := by decide +kernel
theorem dX12_isLetter_12 : decode cX12_isLetter 12 = .ok (.iconst 1, 1) := by decide +kernel
theorem dX12_isLetter_13 : decode cX12_isLetter 13 = .ok (.goto 4, 3) := by decide +kernel
theorem dX12_isLetter_16 : decode cX12_isLetter 16 = .ok (.iconst 0, 1) := by decide +kernel
theorem dX12_isLetter_17 : decode cX12_isLetter 17 = .ok (.ireturn, 1) := by decide +kernel
theorem dX12_isFigure_0 : decode cX12_isFigure 0 = .ok (.iload_n 0, 1) := by decide +kernel
theorem dX12_isFigure_1 : decode cX12_isFigure 1 = .ok (.bipush 48, 2) := by decide +kernel
theorem dX12_isFigure_3 : decode cX12_isFigure 3 = .ok (.if_icmp .lt 13, 3) := by decide +kernel
theorem dX12_isFigure_6 : decode cX12_isFigure 6 = .ok (.iload_n 0, 1) := by decide +kernel
theorem dX12_isFigure_7 : decode cX12_isFigure 7 = .ok (.bipush 57, 2) := by decide +kernel
theorem dX12_isFigure_9 : decode cX12_isFigure 9 = .ok (.if_icmp .gt 7, 3) := by decide +kernel
theorem dX12_isFigure_12 : decode cX12_isFigure 12 = .ok (.iconst 1, 1) := by decide +kernel
theorem dX12_isFigure_13 : decode cX12_isFigure 13 = .ok (.goto 4, 3) := by decide +kernel
theorem dX12_isFigure_16 : decode cX12_isFigure 16 = .ok (.iconst 0, 1) := by decide +kernel
theorem dX12_isFigure_17 : decode cX12_isFigure 17 = .ok (.ireturn, 1) := by decide +kernel
theorem dX12_next_0 : decode cX12_next 0 = .ok (.aload_n 0, 1) := by decide +kernel
theorem dX12_next_1 : decode cX12_next 1 = .ok (.aload_n 0, 1) := by decide +kernel
theorem dX12_next_2 : decode cX12_next 2 = .ok (.getfield 81, 3) := by decide +kernel
theorem dX12_next_5 : decode cX12_next 5 = .ok (.invokevirtual 84, 3) := by decide +kernel
theorem dX12_next_8 : decode cX12_next 8 = .ok (.bipush 32, 2) := by decide +kernel
theorem dX12_next_10 : decode cX12_next 10 = .ok (.if_icmp .eq 16, 3) := by decide +kernel
theorem dX12_next_13 : decode cX12_next 13 = .ok (.aload_n 0, 1) := by decide +kernel
theorem dX12_next_14 : decode cX12_next 14 = .ok (.aload_n 0, 1) := by decide +kernel
theorem dX12_next_15 : decode cX12_next 15 = .ok (.getfield 81, 3) := by decide +kernel
theorem dX12_next_18 : decode cX12_next 18 = .ok (.invokevirtual 84, 3) := by decide +kernel
theorem dX12_next_21 : decode cX12_next 21 = .ok (.bipush 10, 2) := by decide +kernel
theorem dX12_next_23 : decode cX12_next 23 = .ok (.if_icmp .ne 16, 3) := by decide +kernel
theorem dX12_next_26 : decode cX12_next 26 = .ok (.aload_n 0, 1) := by decide +kernel
theorem dX12_next_27 : decode cX12_next 27 = .ok (.dup, 1) := by decide +kernel
theorem dX12_next_28 : decode cX12_next 28 = .ok (.getfield 81, 3) := by decide +kernel
theorem dX12_next_31 : decode cX12_next 31 = .ok (.iconst 1, 1) := by decide +kernel
theorem dX12_next_32 : decode cX12_next 32 = .ok (.iadd, 1) := by decide +kernel
theorem dX12_next_33 : decode cX12_next 33 = .ok (.putfield 81, 3) := by decide +kernel
theorem dX12_next_36 : decode cX12_next 36 = .ok (.goto (-36), 3) := by decide +kernel
theorem dX12_next_39 : decode cX12_next 39 = .ok (.aload_n 0, 1) := by decide +kernel
theorem dX12_next_40 : decode cX12_next 40 = .ok (.aload_n 0, 1) := by decide +kernel
theorem dX12_next_41 : decode cX12_next 41 = .ok (.getfield 81, 3) := by decide +kernel
theorem dX12_next_44 : decode cX12_next 44 = .ok (.putfield 87, 3) := by decide +kernel
theorem dX12_next_47 : decode cX12_next 47 = .ok (.aload_n 0, 1) := by decide +kernel
theorem dX12_next_48 : decode cX12_next 48 = .ok (.aload_n 0, 1) := by decide +kernel
theorem dX12_next_49 : decode cX12_next 49 = .ok (.getfield 81, 3) := by decide +kernel
theorem dX12_next_52 : decode cX12_next 52 = .ok (.invokevirtual 84, 3) := by decide +kernel
theorem dX12_next_55 : decode cX12_next 55 = .ok (.istore_n 1, 1) := by decide +kernel
theorem dX12_next_56 : decode cX12_next 56 = .ok (.iload_n 1, 1) := by decide +kernel
theorem dX12_next_57 : decode cX12_next 57 = .ok (.ldc 80, 2) := by decide +kernel
theorem dX12_next_59 : decode cX12_next 59 = .ok (.if_icmp .ne 11, 3) := by decide +kernel
theorem dX12_next_62 : decode cX12_next 62 = .ok (.aload_n 0, 1) := by decide +kernel
theorem dX12_next_63 : decode cX12_next 63 = .ok (.iconst 1, 1) := by decide +kernel
theorem dX12_next_64 : decode cX12_next 64 = .ok (.putfield 90, 3) := by decide +kernel
theorem dX12_next_67 : decode cX12_next 67 = .ok (.goto 129, 3) := by decide +kernel
theorem dX12_next_70 : decode cX12_next 70 = .ok (.iload_n 1, 1) := by decide +kernel
theorem dX12_next_71 : decode cX12_next 71 = .ok (.invokestatic 93, 3) := by decide +kernel
theorem dX12_next_74 : decode cX12_next 74 = .ok (.ifCond .eq 38, 3) := by decide +kernel
theorem dX12_next_77 : decode cX12_next 77 = .ok (.aload_n 0, 1) := by decide +kernel
theorem dX12_next_78 : decode cX12_next 78 = .ok (.aload_n 0, 1) := by decide +kernel
theorem dX12_next_79 : decode cX12_next 79 = .ok (.getfield 81, 3) := by decide +kernel
theorem dX12_next_82 : decode cX12_next 82 = .ok (.invokevirtual 84, 3) := by decide +kernel
theorem dX12_next_85 : decode cX12_next 85 = .ok (.invokestatic 93, 3) := by decide +kernel
theorem dX12_next_88 : decode cX12_next 88 = .ok (.ifCond .eq 16, 3) := by decide +kernel
theorem dX12_next_91 : decode cX12_next 91 = .ok (.aload_n 0, 1) := by decide +kernel
theorem dX12_next_92 : decode cX12_next 92 = .ok (.dup, 1) := by decide +kernel
theorem dX12_next_93 : decode cX12_next 93 = .ok (.getfield 81, 3) := by decide +kernel
theorem dX12_next_96 : decode cX12_next 96 = .ok (.iconst 1, 1) := by decide +kernel
theorem dX12_next_97 : decode cX12_next 97 = .ok (.iadd, 1) := by decide +kernel
theorem dX12_next_98 : decode cX12_next 98 = .ok (.putfield 81, 3) := by decide +kernel
theorem dX12_next_101 : decode cX12_next 101 = .ok (.goto (-24), 3) := by decide +kernel
theorem dX12_next_104 : decode cX12_next 104 = .ok (.aload_n 0, 1) := by decide +kernel
theorem dX12_next_105 : decode cX12_next 105 = .ok (.iconst 2, 1) := by decide +kernel
theorem dX12_next_106 : decode cX12_next 106 = .ok (.putfield 90, 3) := by decide +kernel
theorem dX12_next_109 : decode cX12_next 109 = .ok (.goto 87, 3) := by decide +kernel
theorem dX12_next_112 : decode cX12_next 112 = .ok (.iload_n 1, 1) := by decide +kernel
theorem dX12_next_113 : decode cX12_next 113 = .ok (.invokestatic 96, 3) := by decide +kernel
theorem dX12_next_116 : decode cX12_next 116 = .ok (.ifCond .eq 55, 3) := by decide +kernel
theorem dX12_next_119 : decode cX12_next 119 = .ok (.aload_n 0, 1) := by decide +kernel
theorem dX12_next_120 : decode cX12_next 120 = .ok (.aload_n 0, 1) := by decide +kernel
theorem dX12_next_121 : decode cX12_next 121 = .ok (.getfield 81, 3) := by decide +kernel
theorem dX12_next_124 : decode cX12_next 124 = .ok (.invokevirtual 84, 3) := by decide +kernel
theorem dX12_next_127 : decode cX12_next 127 = .ok (.invokestatic 96, 3) := by decide +kernel
theorem dX12_next_130 : decode cX12_next 130 = .ok (.ifCond .eq 16, 3) := by decide +kernel
theorem dX12_next_133 : decode cX12_next 133 = .ok (.aload_n 0, 1) := by decide +kernel
theorem dX12_next_134 : decode cX12_next 134 = .ok (.dup, 1) := by decide +kernel
theorem dX12_next_135 : decode cX12_next 135 = .ok (.getfield 81, 3) := by decide +kernel
theorem dX12_next_138 : decode cX12_next 138 = .ok (.iconst 1, 1) := by decide +kernel
theorem dX12_next_139 : decode cX12_next 139 = .ok (.iadd, 1) := by decide +kernel
theorem dX12_next_140 : decode cX12_next 140 = .ok (.putfield 81, 3) := by decide +kernel
theorem dX12_next_143 : decode cX12_next 143 = .ok (.goto (-24), 3) := by decide +kernel
theorem dX12_next_146 : decode cX12_next 146 = .ok (.aload_n 0, 1) := by decide +kernel
theorem dX12_next_147 : decode cX12_next 147 = .ok (.aload_n 0, 1) := by decide +kernel
theorem dX12_next_148 : decode cX12_next 148 = .ok (.getfield 81, 3) := by decide +kernel
theorem dX12_next_151 : decode cX12_next 151 = .ok (.aload_n 0, 1) := by decide +kernel
theorem dX12_next_152 : decode cX12_next 152 = .ok (.getfield 87, 3) := by decide +kernel
theorem dX12_next_155 : decode cX12_next 155 = .ok (.isub, 1) := by decide +kernel
theorem dX12_next_156 : decode cX12_next 156 = .ok (.iconst 3, 1) := by decide +kernel
theorem dX12_next_157 : decode cX12_next 157 = .ok (.if_icmp .le 7, 3) := by decide +kernel
theorem dX12_next_160 : decode cX12_next 160 = .ok (.iconst 0, 1) := by decide +kernel
theorem dX12_next_161 : decode cX12_next 161 = .ok (.goto 4, 3) := by decide +kernel
theorem dX12_next_164 : decode cX12_next 164 = .ok (.iconst 3, 1) := by decide +kernel
theorem dX12_next_165 : decode cX12_next 165 = .ok (.putfield 90, 3) := by decide +kernel
theorem dX12_next_168 : decode cX12_next 168 = .ok (.goto 28, 3) := by decide +kernel
theorem dX12_next_171 : decode cX12_next 171 = .ok (.aload_n 0, 1) := by decide +kernel
theorem dX12_next_172 : decode cX12_next 172 = .ok (.dup, 1) := by decide +kernel
theorem dX12_next_173 : decode cX12_next 173 = .ok (.getfield 81, 3) := by decide +kernel
theorem dX12_next_176 : decode cX12_next 176 = .ok (.iconst 1, 1) := by decide +kernel
theorem dX12_next_177 : decode cX12_next 177 = .ok (.iadd, 1) := by decide +kernel
theorem dX12_next_178 : decode cX12_next 178 = .ok (.putfield 81, 3) := by decide +kernel
theorem dX12_next_181 : decode cX12_next 181 = .ok (.aload_n 0, 1) := by decide +kernel
theorem dX12_next_182 : decode cX12_next 182 = .ok (.iload_n 1, 1) := by decide +kernel
theorem dX12_next_183 : decode cX12_next 183 = .ok (.bipush 59, 2) := by decide +kernel
theorem dX12_next_185 : decode cX12_next 185 = .ok (.if_icmp .ne 7, 3) := by decide +kernel
theorem dX12_next_188 : decode cX12_next 188 = .ok (.iconst 4, 1) := by decide +kernel
theorem dX12_next_189 : decode cX12_next 189 = .ok (.goto 4, 3) := by decide +kernel
theorem dX12_next_192 : decode cX12_next 192 = .ok (.iconst 0, 1) := by decide +kernel
theorem dX12_next_193 : decode cX12_next 193 = .ok (.putfield 90, 3) := by decide +kernel
theorem dX12_next_196 : decode cX12_next 196 = .ok (.aload_n 0, 1) := by decide +kernel
theorem dX12_next_197 : decode cX12_next 197 = .ok (.aload_n 0, 1) := by decide +kernel
theorem dX12_next_198 : decode cX12_next 198 = .ok (.getfield 81, 3) := by decide +kernel
theorem dX12_next_201 : decode cX12_next 201 = .ok (.putfield 99, 3) := by decide +kernel
theorem dX12_next_204 : decode cX12_next 204 = .ok (.return_, 1) := by decide +kernel
theorem dX12_begin_0 : decode cX12_begin 0 = .ok (.aload_n 0, 1) := by decide +kernel
theorem dX12_begin_1 : decode cX12_begin 1 = .ok (.aload_n 0, 1) := by decide +kernel
theorem dX12_begin_2 : decode cX12_begin 2 = .ok (.getfield 71, 3) := by decide +kernel
theorem dX12_begin_5 : decode cX12_begin 5 = .ok (.putfield 77, 3) := by decide +kernel
theorem dX12_begin_8 : decode cX12_begin 8 = .ok (.aload_n 0, 1) := by decide +kernel
theorem dX12_begin_9 : decode cX12_begin 9 = .ok (.iconst 0, 1) := by decide +kernel
theorem dX12_begin_10 : decode cX12_begin 10 = .ok (.putfield 71, 3) := by decide +kernel
theorem dX12_begin_13 : decode cX12_begin 13 = .ok (.aload_n 0, 1) := by decide +kernel
theorem dX12_begin_14 : decode cX12_begin 14 = .ok (.iconst 0, 1) := by decide +kernel
theorem dX12_begin_15 : decode cX12_begin 15 = .ok (.putfield 81, 3) := by decide +kernel
theorem dX12_begin_18 : decode cX12_begin 18 = .ok (.aload_n 0, 1) := by decide +kernel
theorem dX12_begin_19 : decode cX12_begin 19 = .ok (.iconst 0, 1) := by decide +kernel
theorem dX12_begin_20 : decode cX12_begin 20 = .ok (.putfield 102, 3) := by decide +kernel
theorem dX12_begin_23 : decode cX12_begin 23 = .ok (.aload_n 0, 1) := by decide +kernel
theorem dX12_begin_24 : decode cX12_begin 24 = .ok (.invokevirtual 105, 3) := by decide +kernel
theorem dX12_begin_27 : decode cX12_begin 27 = .ok (.return_, 1) := by decide +kernel
theorem dX12_bad_0 : decode cX12_bad 0 = .ok (.aload_n 0, 1) := by decide +kernel
theorem dX12_bad_1 : decode cX12_bad 1 = .ok (.getfield 102, 3) := by decide +kernel
theorem dX12_bad_4 : decode cX12_bad 4 = .ok (.ifCond .ne 16, 3) := by decide +kernel
theorem dX12_bad_7 : decode cX12_bad 7 = .ok (.aload_n 0, 1) := by decide +kernel
theorem dX12_bad_8 : decode cX12_bad 8 = .ok (.iload_n 1, 1) := by decide +kernel
theorem dX12_bad_9 : decode cX12_bad 9 = .ok (.putfield 102, 3) := by decide +kernel
theorem dX12_bad_12 : decode cX12_bad 12 = .ok (.aload_n 0, 1) := by decide +kernel
theorem dX12_bad_13 : decode cX12_bad 13 = .ok (.aload_n 0, 1) := by decide +kernel
theorem dX12_bad_14 : decode cX12_bad 14 = .ok (.getfield 87, 3) := by decide +kernel
theorem dX12_bad_17 : decode cX12_bad 17 = .ok (.putfield 108, 3) := by decide +kernel
theorem dX12_bad_20 : decode cX12_bad 20 = .ok (.return_, 1) := by decide +kernel
theorem dX12_must_0 : decode cX12_must 0 = .ok (.iload_n 1, 1) := by decide +kernel
theorem dX12_must_1 : decode cX12_must 1 = .ok (.ifCond .ne 8, 3) := by decide +kernel
theorem dX12_must_4 : decode cX12_must 4 = .ok (.aload_n 0, 1) := by decide +kernel
theorem dX12_must_5 : decode cX12_must 5 = .ok (.iconst 1, 1) := by decide +kernel
theorem dX12_must_6 : decode cX12_must 6 = .ok (.invokevirtual 111, 3) := by decide +kernel
theorem dX12_must_9 : decode cX12_must 9 = .ok (.aload_n 0, 1) := by decide +kernel
theorem dX12_must_10 : decode cX12_must 10 = .ok (.getfield 102, 3) := by decide +kernel
theorem dX12_must_13 : decode cX12_must 13 = .ok (.ifCond .ne 7, 3) := by decide +kernel
theorem dX12_must_16 : decode cX12_must 16 = .ok (.aload_n 0, 1) := by decide +kernel
theorem dX12_must_17 : decode cX12_must 17 = .ok (.invokevirtual 105, 3) := by decide +kernel
theorem dX12_must_20 : decode cX12_must 20 = .ok (.return_, 1) := by decide +kernel
theorem dX12_name_0 : decode cX12_name 0 = .ok (.lconst 0, 1) := by decide +kernel
theorem dX12_name_1 : decode cX12_name 1 = .ok (.lstore_n 1, 1) := by decide +kernel
theorem dX12_name_2 : decode cX12_name 2 = .ok (.aload_n 0, 1) := by decide +kernel
theorem dX12_name_3 : decode cX12_name 3 = .ok (.getfield 87, 3) := by decide +kernel
theorem dX12_name_6 : decode cX12_name 6 = .ok (.istore_n 3, 1) := by decide +kernel
theorem dX12_name_7 : decode cX12_name 7 = .ok (.iload_n 3, 1) := by decide +kernel
theorem dX12_name_8 : decode cX12_name 8 = .ok (.aload_n 0, 1) := by decide +kernel
theorem dX12_name_9 : decode cX12_name 9 = .ok (.getfield 99, 3) := by decide +kernel
theorem dX12_name_12 : decode cX12_name 12 = .ok (.if_icmp .ge 44, 3) := by decide +kernel
theorem dX12_name_15 : decode cX12_name 15 = .ok (.aload_n 0, 1) := by decide +kernel
theorem dX12_name_16 : decode cX12_name 16 = .ok (.getfield 90, 3) := by decide +kernel
theorem dX12_name_19 : decode cX12_name 19 = .ok (.iconst 2, 1) := by decide +kernel
theorem dX12_name_20 : decode cX12_name 20 = .ok (.if_icmp .ne 36, 3) := by decide +kernel
theorem dX12_name_23 : decode cX12_name 23 = .ok (.aload_n 0, 1) := by decide +kernel
theorem dX12_name_24 : decode cX12_name 24 = .ok (.getfield 99, 3) := by decide +kernel
theorem dX12_name_27 : decode cX12_name 27 = .ok (.aload_n 0, 1) := by decide +kernel
theorem dX12_name_28 : decode cX12_name 28 = .ok (.getfield 87, 3) := by decide +kernel
theorem dX12_name_31 : decode cX12_name 31 = .ok (.isub, 1) := by decide +kernel
theorem dX12_name_32 : decode cX12_name 32 = .ok (.bipush 8, 2) := by decide +kernel
theorem dX12_name_34 : decode cX12_name 34 = .ok (.if_icmp .ge 22, 3) := by decide +kernel
theorem dX12_name_37 : decode cX12_name 37 = .ok (.lload_n 1, 1) := by decide +kernel
theorem dX12_name_38 : decode cX12_name 38 = .ok (.bipush 8, 2) := by decide +kernel
theorem dX12_name_40 : decode cX12_name 40 = .ok (.lshl, 1) := by decide +kernel
theorem dX12_name_41 : decode cX12_name 41 = .ok (.aload_n 0, 1) := by decide +kernel
theorem dX12_name_42 : decode cX12_name 42 = .ok (.getfield 28, 3) := by decide +kernel
theorem dX12_name_45 : decode cX12_name 45 = .ok (.iload_n 3, 1) := by decide +kernel
theorem dX12_name_46 : decode cX12_name 46 = .ok (.iaload, 1) := by decide +kernel
theorem dX12_name_47 : decode cX12_name 47 = .ok (.i2l, 1) := by decide +kernel
theorem dX12_name_48 : decode cX12_name 48 = .ok (.lor, 1) := by decide +kernel
theorem dX12_name_49 : decode cX12_name 49 = .ok (.lstore_n 1, 1) := by decide +kernel
theorem dX12_name_50 : decode cX12_name 50 = .ok (.iinc 3 1, 3) := by decide +kernel
theorem dX12_name_53 : decode cX12_name 53 = .ok (.goto (-46), 3) := by decide +kernel
theorem dX12_name_56 : decode cX12_name 56 = .ok (.aload_n 0, 1) := by decide +kernel
theorem dX12_name_57 : decode cX12_name 57 = .ok (.getfield 102, 3) := by decide +kernel
theorem dX12_name_60 : decode cX12_name 60 = .ok (.ifCond .ne 7, 3) := by decide +kernel
theorem dX12_name_63 : decode cX12_name 63 = .ok (.lload_n 1, 1) := by decide +kernel
theorem dX12_name_64 : decode cX12_name 64 = .ok (.goto 4, 3) := by decide +kernel
theorem dX12_name_67 : decode cX12_name 67 = .ok (.lconst 0, 1) := by decide +kernel
theorem dX12_name_68 : decode cX12_name 68 = .ok (.lreturn, 1) := by decide +kernel
theorem dX12_figures_0 : decode cX12_figures 0 = .ok (.iconst 0, 1) := by decide +kernel
theorem dX12_figures_1 : decode cX12_figures 1 = .ok (.istore_n 1, 1) := by decide +kernel
theorem dX12_figures_2 : decode cX12_figures 2 = .ok (.aload_n 0, 1) := by decide +kernel
theorem dX12_figures_3 : decode cX12_figures 3 = .ok (.getfield 87, 3) := by decide +kernel
theorem dX12_figures_6 : decode cX12_figures 6 = .ok (.istore_n 2, 1) := by decide +kernel
theorem dX12_figures_7 : decode cX12_figures 7 = .ok (.iload_n 2, 1) := by decide +kernel
theorem dX12_figures_8 : decode cX12_figures 8 = .ok (.aload_n 0, 1) := by decide +kernel
theorem dX12_figures_9 : decode cX12_figures 9 = .ok (.getfield 99, 3) := by decide +kernel
theorem dX12_figures_12 : decode cX12_figures 12 = .ok (.if_icmp .ge 32, 3) := by decide +kernel
theorem dX12_figures_15 : decode cX12_figures 15 = .ok (.aload_n 0, 1) := by decide +kernel
theorem dX12_figures_16 : decode cX12_figures 16 = .ok (.getfield 90, 3) := by decide +kernel
theorem dX12_figures_19 : decode cX12_figures 19 = .ok (.iconst 3, 1) := by decide +kernel
theorem dX12_figures_20 : decode cX12_figures 20 = .ok (.if_icmp .ne 24, 3) := by decide +kernel
theorem dX12_figures_23 : decode cX12_figures 23 = .ok (.bipush 10, 2) := by decide +kernel
theorem dX12_figures_25 : decode cX12_figures 25 = .ok (.iload_n 1, 1) := by decide +kernel
theorem dX12_figures_26 : decode cX12_figures 26 = .ok (.imul, 1) := by decide +kernel
theorem dX12_figures_27 : decode cX12_figures 27 = .ok (.aload_n 0, 1) := by decide +kernel
theorem dX12_figures_28 : decode cX12_figures 28 = .ok (.getfield 28, 3) := by decide +kernel
theorem dX12_figures_31 : decode cX12_figures 31 = .ok (.iload_n 2, 1) := by decide +kernel
theorem dX12_figures_32 : decode cX12_figures 32 = .ok (.iaload, 1) := by decide +kernel
theorem dX12_figures_33 : decode cX12_figures 33 = .ok (.iadd, 1) := by decide +kernel
theorem dX12_figures_34 : decode cX12_figures 34 = .ok (.bipush 48, 2) := by decide +kernel
theorem dX12_figures_36 : decode cX12_figures 36 = .ok (.isub, 1) := by decide +kernel
theorem dX12_figures_37 : decode cX12_figures 37 = .ok (.istore_n 1, 1) := by decide +kernel
theorem dX12_figures_38 : decode cX12_figures 38 = .ok (.iinc 2 1, 3) := by decide +kernel
theorem dX12_figures_41 : decode cX12_figures 41 = .ok (.goto (-34), 3) := by decide +kernel
theorem dX12_figures_44 : decode cX12_figures 44 = .ok (.iload_n 1, 1) := by decide +kernel
theorem dX12_figures_45 : decode cX12_figures 45 = .ok (.ireturn, 1) := by decide +kernel
theorem dX12_number_0 : decode cX12_number 0 = .ok (.aload_n 0, 1) := by decide +kernel
theorem dX12_number_1 : decode cX12_number 1 = .ok (.getfield 102, 3) := by decide +kernel
theorem dX12_number_4 : decode cX12_number 4 = .ok (.ifCond .le 5, 3) := by decide +kernel
theorem dX12_number_7 : decode cX12_number 7 = .ok (.iconst 0, 1) := by decide +kernel
theorem dX12_number_8 : decode cX12_number 8 = .ok (.ireturn, 1) := by decide +kernel
theorem dX12_number_9 : decode cX12_number 9 = .ok (.aload_n 0, 1) := by decide +kernel
theorem dX12_number_10 : decode cX12_number 10 = .ok (.invokevirtual 115, 3) := by decide +kernel
theorem dX12_number_13 : decode cX12_number 13 = .ok (.istore_n 3, 1) := by decide +kernel
theorem dX12_number_14 : decode cX12_number 14 = .ok (.aload_n 0, 1) := by decide +kernel
theorem dX12_number_15 : decode cX12_number 15 = .ok (.getfield 90, 3) := by decide +kernel
theorem dX12_number_18 : decode cX12_number 18 = .ok (.iconst 3, 1) := by decide +kernel
theorem dX12_number_19 : decode cX12_number 19 = .ok (.if_icmp .ne 20, 3) := by decide +kernel
theorem dX12_number_22 : decode cX12_number 22 = .ok (.iload_n 3, 1) := by decide +kernel
theorem dX12_number_23 : decode cX12_number 23 = .ok (.i2l, 1) := by decide +kernel
theorem dX12_number_24 : decode cX12_number 24 = .ok (.iload_n 1, 1) := by decide +kernel
theorem dX12_number_25 : decode cX12_number 25 = .ok (.i2l, 1) := by decide +kernel
theorem dX12_number_26 : decode cX12_number 26 = .ok (.iload_n 2, 1) := by decide +kernel
theorem dX12_number_27 : decode cX12_number 27 = .ok (.i2l, 1) := by decide +kernel
theorem dX12_number_28 : decode cX12_number 28 = .ok (.invokestatic 54, 3) := by decide +kernel
theorem dX12_number_31 : decode cX12_number 31 = .ok (.ifCond .ne 8, 3) := by decide +kernel
theorem dX12_number_34 : decode cX12_number 34 = .ok (.aload_n 0, 1) := by decide +kernel
theorem dX12_number_35 : decode cX12_number 35 = .ok (.iconst 2, 1) := by decide +kernel
theorem dX12_number_36 : decode cX12_number 36 = .ok (.invokevirtual 111, 3) := by decide +kernel
theorem dX12_number_39 : decode cX12_number 39 = .ok (.aload_n 0, 1) := by decide +kernel
theorem dX12_number_40 : decode cX12_number 40 = .ok (.aload_n 0, 1) := by decide +kernel
theorem dX12_number_41 : decode cX12_number 41 = .ok (.getfield 90, 3) := by decide +kernel
theorem dX12_number_44 : decode cX12_number 44 = .ok (.iconst 3, 1) := by decide +kernel
theorem dX12_number_45 : decode cX12_number 45 = .ok (.if_icmp .ne 7, 3) := by decide +kernel
theorem dX12_number_48 : decode cX12_number 48 = .ok (.iconst 1, 1) := by decide +kernel
theorem dX12_number_49 : decode cX12_number 49 = .ok (.goto 4, 3) := by decide +kernel
theorem dX12_number_52 : decode cX12_number 52 = .ok (.iconst 0, 1) := by decide +kernel
theorem dX12_number_53 : decode cX12_number 53 = .ok (.invokevirtual 119, 3) := by decide +kernel
theorem dX12_number_56 : decode cX12_number 56 = .ok (.iload_n 3, 1) := by decide +kernel
theorem dX12_number_57 : decode cX12_number 57 = .ok (.ireturn, 1) := by decide +kernel
theorem dX12_kindBy_0 : decode cX12_kindBy 0 = .ok (.lload_n 0, 1) := by decide +kernel
theorem dX12_kindBy_1 : decode cX12_kindBy 1 = .ok (.ldc2_w 123, 3) := by decide +kernel
theorem dX12_kindBy_4 : decode cX12_kindBy 4 = .ok (.lcmp, 1) := by decide +kernel
theorem dX12_kindBy_5 : decode cX12_kindBy 5 = .ok (.ifCond .ne 7, 3) := by decide +kernel
theorem dX12_kindBy_8 : decode cX12_kindBy 8 = .ok (.iconst 1, 1) := by decide +kernel
theorem dX12_kindBy_9 : decode cX12_kindBy 9 = .ok (.goto 53, 3) := by decide +kernel
theorem dX12_kindBy_12 : decode cX12_kindBy 12 = .ok (.lload_n 0, 1) := by decide +kernel
theorem dX12_kindBy_13 : decode cX12_kindBy 13 = .ok (.ldc2_w 125, 3) := by decide +kernel
theorem dX12_kindBy_16 : decode cX12_kindBy 16 = .ok (.lcmp, 1) := by decide +kernel
theorem dX12_kindBy_17 : decode cX12_kindBy 17 = .ok (.ifCond .ne 7, 3) := by decide +kernel
theorem dX12_kindBy_20 : decode cX12_kindBy 20 = .ok (.iconst 2, 1) := by decide +kernel
theorem dX12_kindBy_21 : decode cX12_kindBy 21 = .ok (.goto 41, 3) := by decide +kernel
theorem dX12_kindBy_24 : decode cX12_kindBy 24 = .ok (.lload_n 0, 1) := by decide +kernel
theorem dX12_kindBy_25 : decode cX12_kindBy 25 = .ok (.ldc2_w 127, 3) := by decide +kernel
theorem dX12_kindBy_28 : decode cX12_kindBy 28 = .ok (.lcmp, 1) := by decide +kernel
theorem dX12_kindBy_29 : decode cX12_kindBy 29 = .ok (.ifCond .ne 7, 3) := by decide +kernel
theorem dX12_kindBy_32 : decode cX12_kindBy 32 = .ok (.iconst 4, 1) := by decide +kernel
theorem dX12_kindBy_33 : decode cX12_kindBy 33 = .ok (.goto 29, 3) := by decide +kernel
theorem dX12_kindBy_36 : decode cX12_kindBy 36 = .ok (.lload_n 0, 1) := by decide +kernel
theorem dX12_kindBy_37 : decode cX12_kindBy 37 = .ok (.ldc2_w 129, 3) := by decide +kernel
theorem dX12_kindBy_40 : decode cX12_kindBy 40 = .ok (.lcmp, 1) := by decide +kernel
theorem dX12_kindBy_41 : decode cX12_kindBy 41 = .ok (.ifCond .ne 7, 3) := by decide +kernel
theorem dX12_kindBy_44 : decode cX12_kindBy 44 = .ok (.iconst 5, 1) := by decide +kernel
theorem dX12_kindBy_45 : decode cX12_kindBy 45 = .ok (.goto 17, 3) := by decide +kernel
theorem dX12_kindBy_48 : decode cX12_kindBy 48 = .ok (.lload_n 0, 1) := by decide +kernel
theorem dX12_kindBy_49 : decode cX12_kindBy 49 = .ok (.ldc2_w 131, 3) := by decide +kernel
theorem dX12_kindBy_52 : decode cX12_kindBy 52 = .ok (.lcmp, 1) := by decide +kernel
theorem dX12_kindBy_53 : decode cX12_kindBy 53 = .ok (.ifCond .ne 7, 3) := by decide +kernel
theorem dX12_kindBy_56 : decode cX12_kindBy 56 = .ok (.iconst 3, 1) := by decide +kernel
theorem dX12_kindBy_57 : decode cX12_kindBy 57 = .ok (.goto 5, 3) := by decide +kernel
theorem dX12_kindBy_60 : decode cX12_kindBy 60 = .ok (.ldc 80, 2) := by decide +kernel
theorem dX12_kindBy_62 : decode cX12_kindBy 62 = .ok (.ireturn, 1) := by decide +kernel
theorem dX12_readPerson_0 : decode cX12_readPerson 0 = .ok (.aload_n 0, 1) := by decide +kernel
theorem dX12_readPerson_1 : decode cX12_readPerson 1 = .ok (.getfield 22, 3) := by decide +kernel
theorem dX12_readPerson_4 : decode cX12_readPerson 4 = .ok (.iconst 0, 1) := by decide +kernel
theorem dX12_readPerson_5 : decode cX12_readPerson 5 = .ok (.iaload, 1) := by decide +kernel
theorem dX12_readPerson_6 : decode cX12_readPerson 6 = .ok (.bipush 6, 2) := by decide +kernel
theorem dX12_readPerson_8 : decode cX12_readPerson 8 = .ok (.if_icmp .ne 8, 3) := by decide +kernel
theorem dX12_readPerson_11 : decode cX12_readPerson 11 = .ok (.aload_n 0, 1) := by decide +kernel
theorem dX12_readPerson_12 : decode cX12_readPerson 12 = .ok (.iconst 3, 1) := by decide +kernel
theorem dX12_readPerson_13 : decode cX12_readPerson 13 = .ok (.invokevirtual 111, 3) := by decide +kernel
theorem dX12_readPerson_16 : decode cX12_readPerson 16 = .ok (.aload_n 0, 1) := by decide +kernel
theorem dX12_readPerson_17 : decode cX12_readPerson 17 = .ok (.iconst 1, 1) := by decide +kernel
theorem dX12_readPerson_18 : decode cX12_readPerson 18 = .ok (.invokevirtual 119, 3) := by decide +kernel
theorem dX12_readPerson_21 : decode cX12_readPerson 21 = .ok (.aload_n 0, 1) := by decide +kernel
theorem dX12_readPerson_22 : decode cX12_readPerson 22 = .ok (.invokevirtual 133, 3) := by decide +kernel
theorem dX12_readPerson_25 : decode cX12_readPerson 25 = .ok (.invokestatic 137, 3) := by decide +kernel
theorem dX12_readPerson_28 : decode cX12_readPerson 28 = .ok (.istore_n 1, 1) := by decide +kernel
theorem dX12_readPerson_29 : decode cX12_readPerson 29 = .ok (.aload_n 0, 1) := by decide +kernel
theorem dX12_readPerson_30 : decode cX12_readPerson 30 = .ok (.getfield 102, 3) := by decide +kernel
theorem dX12_readPerson_33 : decode cX12_readPerson 33 = .ok (.ifCond .ne 18, 3) := by decide +kernel
theorem dX12_readPerson_36 : decode cX12_readPerson 36 = .ok (.aload_n 0, 1) := by decide +kernel
theorem dX12_readPerson_37 : decode cX12_readPerson 37 = .ok (.iload_n 1, 1) := by decide +kernel
theorem dX12_readPerson_38 : decode cX12_readPerson 38 = .ok (.ldc 80, 2) := by decide +kernel
theorem dX12_readPerson_40 : decode cX12_readPerson 40 = .ok (.if_icmp .eq 7, 3) := by decide +kernel
theorem dX12_readPerson_43 : decode cX12_readPerson 43 = .ok (.iconst 1, 1) := by decide +kernel
theorem dX12_readPerson_44 : decode cX12_readPerson 44 = .ok (.goto 4, 3) := by decide +kernel
theorem dX12_readPerson_47 : decode cX12_readPerson 47 = .ok (.iconst 0, 1) := by decide +kernel
theorem dX12_readPerson_48 : decode cX12_readPerson 48 = .ok (.invokevirtual 119, 3) := by decide +kernel
theorem dX12_readPerson_51 : decode cX12_readPerson 51 = .ok (.aload_n 0, 1) := by decide +kernel
theorem dX12_readPerson_52 : decode cX12_readPerson 52 = .ok (.iconst 0, 1) := by decide +kernel
theorem dX12_readPerson_53 : decode cX12_readPerson 53 = .ok (.iconst 5, 1) := by decide +kernel
theorem dX12_readPerson_54 : decode cX12_readPerson 54 = .ok (.invokevirtual 141, 3) := by decide +kernel
theorem dX12_readPerson_57 : decode cX12_readPerson 57 = .ok (.istore_n 2, 1) := by decide +kernel
theorem dX12_readPerson_58 : decode cX12_readPerson 58 = .ok (.aload_n 0, 1) := by decide +kernel
theorem dX12_readPerson_59 : decode cX12_readPerson 59 = .ok (.iconst 0, 1) := by decide +kernel
theorem dX12_readPerson_60 : decode cX12_readPerson 60 = .ok (.bipush 9, 2) := by decide +kernel
theorem dX12_readPerson_62 : decode cX12_readPerson 62 = .ok (.invokevirtual 141, 3) := by decide +kernel
theorem dX12_readPerson_65 : decode cX12_readPerson 65 = .ok (.istore_n 3, 1) := by decide +kernel
theorem dX12_readPerson_66 : decode cX12_readPerson 66 = .ok (.aload_n 0, 1) := by decide +kernel
theorem dX12_readPerson_67 : decode cX12_readPerson 67 = .ok (.getfield 102, 3) := by decide +kernel
theorem dX12_readPerson_70 : decode cX12_readPerson 70 = .ok (.ifCond .ne 20, 3) := by decide +kernel
theorem dX12_readPerson_73 : decode cX12_readPerson 73 = .ok (.aload_n 0, 1) := by decide +kernel
theorem dX12_readPerson_74 : decode cX12_readPerson 74 = .ok (.aload_n 0, 1) := by decide +kernel
theorem dX12_readPerson_75 : decode cX12_readPerson 75 = .ok (.getfield 90, 3) := by decide +kernel
theorem dX12_readPerson_78 : decode cX12_readPerson 78 = .ok (.iconst 4, 1) := by decide +kernel
theorem dX12_readPerson_79 : decode cX12_readPerson 79 = .ok (.if_icmp .ne 7, 3) := by decide +kernel
theorem dX12_readPerson_82 : decode cX12_readPerson 82 = .ok (.iconst 1, 1) := by decide +kernel
theorem dX12_readPerson_83 : decode cX12_readPerson 83 = .ok (.goto 4, 3) := by decide +kernel
theorem dX12_readPerson_86 : decode cX12_readPerson 86 = .ok (.iconst 0, 1) := by decide +kernel
theorem dX12_readPerson_87 : decode cX12_readPerson 87 = .ok (.invokevirtual 119, 3) := by decide +kernel
theorem dX12_readPerson_90 : decode cX12_readPerson 90 = .ok (.aload_n 0, 1) := by decide +kernel
theorem dX12_readPerson_91 : decode cX12_readPerson 91 = .ok (.getfield 102, 3) := by decide +kernel
theorem dX12_readPerson_94 : decode cX12_readPerson 94 = .ok (.ifCond .ne 53, 3) := by decide +kernel
theorem dX12_readPerson_97 : decode cX12_readPerson 97 = .ok (.iconst 3, 1) := by decide +kernel
theorem dX12_readPerson_98 : decode cX12_readPerson 98 = .ok (.iconst 3, 1) := by decide +kernel
theorem dX12_readPerson_99 : decode cX12_readPerson 99 = .ok (.aload_n 0, 1) := by decide +kernel
theorem dX12_readPerson_100 : decode cX12_readPerson 100 = .ok (.getfield 22, 3) := by decide +kernel
theorem dX12_readPerson_103 : decode cX12_readPerson 103 = .ok (.iconst 0, 1) := by decide +kernel
theorem dX12_readPerson_104 : decode cX12_readPerson 104 = .ok (.iaload, 1) := by decide +kernel
theorem dX12_readPerson_105 : decode cX12_readPerson 105 = .ok (.imul, 1) := by decide +kernel
theorem dX12_readPerson_106 : decode cX12_readPerson 106 = .ok (.iadd, 1) := by decide +kernel
theorem dX12_readPerson_107 : decode cX12_readPerson 107 = .ok (.istore 4, 2) := by decide +kernel
theorem dX12_readPerson_109 : decode cX12_readPerson 109 = .ok (.aload_n 0, 1) := by decide +kernel
theorem dX12_readPerson_110 : decode cX12_readPerson 110 = .ok (.getfield 22, 3) := by decide +kernel
theorem dX12_readPerson_113 : decode cX12_readPerson 113 = .ok (.iload 4, 2) := by decide +kernel
theorem dX12_readPerson_115 : decode cX12_readPerson 115 = .ok (.iload_n 1, 1) := by decide +kernel
theorem dX12_readPerson_116 : decode cX12_readPerson 116 = .ok (.iastore, 1) := by decide +kernel
theorem dX12_readPerson_117 : decode cX12_readPerson 117 = .ok (.aload_n 0, 1) := by decide +kernel
theorem dX12_readPerson_118 : decode cX12_readPerson 118 = .ok (.getfield 22, 3) := by decide +kernel
theorem dX12_readPerson_121 : decode cX12_readPerson 121 = .ok (.iload 4, 2) := by decide +kernel
theorem dX12_readPerson_123 : decode cX12_readPerson 123 = .ok (.iconst 1, 1) := by decide +kernel
theorem dX12_readPerson_124 : decode cX12_readPerson 124 = .ok (.iadd, 1) := by decide +kernel
theorem dX12_readPerson_125 : decode cX12_readPerson 125 = .ok (.iload_n 2, 1) := by decide +kernel
theorem dX12_readPerson_126 : decode cX12_readPerson 126 = .ok (.iastore, 1) := by decide +kernel
theorem dX12_readPerson_127 : decode cX12_readPerson 127 = .ok (.aload_n 0, 1) := by decide +kernel
theorem dX12_readPerson_128 : decode cX12_readPerson 128 = .ok (.getfield 22, 3) := by decide +kernel
theorem dX12_readPerson_131 : decode cX12_readPerson 131 = .ok (.iload 4, 2) := by decide +kernel
theorem dX12_readPerson_133 : decode cX12_readPerson 133 = .ok (.iconst 2, 1) := by decide +kernel
theorem dX12_readPerson_134 : decode cX12_readPerson 134 = .ok (.iadd, 1) := by decide +kernel
theorem dX12_readPerson_135 : decode cX12_readPerson 135 = .ok (.iload_n 3, 1) := by decide +kernel
theorem dX12_readPerson_136 : decode cX12_readPerson 136 = .ok (.iastore, 1) := by decide +kernel
theorem dX12_readPerson_137 : decode cX12_readPerson 137 = .ok (.aload_n 0, 1) := by decide +kernel
theorem dX12_readPerson_138 : decode cX12_readPerson 138 = .ok (.getfield 22, 3) := by decide +kernel
theorem dX12_readPerson_141 : decode cX12_readPerson 141 = .ok (.iconst 0, 1) := by decide +kernel
theorem dX12_readPerson_142 : decode cX12_readPerson 142 = .ok (.dup2, 1) := by decide +kernel
theorem dX12_readPerson_143 : decode cX12_readPerson 143 = .ok (.iaload, 1) := by decide +kernel
theorem dX12_readPerson_144 : decode cX12_readPerson 144 = .ok (.iconst 1, 1) := by decide +kernel
theorem dX12_readPerson_145 : decode cX12_readPerson 145 = .ok (.iadd, 1) := by decide +kernel
theorem dX12_readPerson_146 : decode cX12_readPerson 146 = .ok (.iastore, 1) := by decide +kernel
theorem dX12_readPerson_147 : decode cX12_readPerson 147 = .ok (.return_, 1) := by decide +kernel
theorem dX12_town_0 : decode cX12_town 0 = .ok (.aload_n 0, 1) := by decide +kernel
theorem dX12_town_1 : decode cX12_town 1 = .ok (.iconst 0, 1) := by decide +kernel
theorem dX12_town_2 : decode cX12_town 2 = .ok (.putfield 44, 3) := by decide +kernel
theorem dX12_town_5 : decode cX12_town 5 = .ok (.aload_n 0, 1) := by decide +kernel
theorem dX12_town_6 : decode cX12_town 6 = .ok (.invokevirtual 145, 3) := by decide +kernel
theorem dX12_town_9 : decode cX12_town 9 = .ok (.iconst 0, 1) := by decide +kernel
theorem dX12_town_10 : decode cX12_town 10 = .ok (.istore_n 1, 1) := by decide +kernel
theorem dX12_town_11 : decode cX12_town 11 = .ok (.iload_n 1, 1) := by decide +kernel
theorem dX12_town_12 : decode cX12_town 12 = .ok (.bipush 21, 2) := by decide +kernel
theorem dX12_town_14 : decode cX12_town 14 = .ok (.if_icmp .ge 16, 3) := by decide +kernel
theorem dX12_town_17 : decode cX12_town 17 = .ok (.aload_n 0, 1) := by decide +kernel
theorem dX12_town_18 : decode cX12_town 18 = .ok (.getfield 22, 3) := by decide +kernel
theorem dX12_town_21 : decode cX12_town 21 = .ok (.iload_n 1, 1) := by decide +kernel
theorem dX12_town_22 : decode cX12_town 22 = .ok (.iconst 0, 1) := by decide +kernel
theorem dX12_town_23 : decode cX12_town 23 = .ok (.iastore, 1) := by decide +kernel
theorem dX12_town_24 : decode cX12_town 24 = .ok (.iinc 1 1, 3) := by decide +kernel
theorem dX12_town_27 : decode cX12_town 27 = .ok (.goto (-16), 3) := by decide +kernel
theorem dX12_town_30 : decode cX12_town 30 = .ok (.aload_n 0, 1) := by decide +kernel
theorem dX12_town_31 : decode cX12_town 31 = .ok (.invokevirtual 133, 3) := by decide +kernel
theorem dX12_town_34 : decode cX12_town 34 = .ok (.ldc2_w 148, 3) := by decide +kernel
theorem dX12_town_37 : decode cX12_town 37 = .ok (.lcmp, 1) := by decide +kernel
theorem dX12_town_38 : decode cX12_town 38 = .ok (.ifCond .eq 8, 3) := by decide +kernel
theorem dX12_town_41 : decode cX12_town 41 = .ok (.aload_n 0, 1) := by decide +kernel
theorem dX12_town_42 : decode cX12_town 42 = .ok (.iconst 1, 1) := by decide +kernel
theorem dX12_town_43 : decode cX12_town 43 = .ok (.invokevirtual 111, 3) := by decide +kernel
theorem dX12_town_46 : decode cX12_town 46 = .ok (.aload_n 0, 1) := by decide +kernel
theorem dX12_town_47 : decode cX12_town 47 = .ok (.invokevirtual 133, 3) := by decide +kernel
theorem dX12_town_50 : decode cX12_town 50 = .ok (.ldc2_w 148, 3) := by decide +kernel
theorem dX12_town_53 : decode cX12_town 53 = .ok (.lcmp, 1) := by decide +kernel
theorem dX12_town_54 : decode cX12_town 54 = .ok (.ifCond .ne 10, 3) := by decide +kernel
theorem dX12_town_57 : decode cX12_town 57 = .ok (.aload_n 0, 1) := by decide +kernel
theorem dX12_town_58 : decode cX12_town 58 = .ok (.invokevirtual 150, 3) := by decide +kernel
theorem dX12_town_61 : decode cX12_town 61 = .ok (.goto (-15), 3) := by decide +kernel
theorem dX12_town_64 : decode cX12_town 64 = .ok (.aload_n 0, 1) := by decide +kernel
theorem dX12_town_65 : decode cX12_town 65 = .ok (.getfield 102, 3) := by decide +kernel
theorem dX12_town_68 : decode cX12_town 68 = .ok (.ifCond .ne 16, 3) := by decide +kernel
theorem dX12_town_71 : decode cX12_town 71 = .ok (.aload_n 0, 1) := by decide +kernel
theorem dX12_town_72 : decode cX12_town 72 = .ok (.getfield 90, 3) := by decide +kernel
theorem dX12_town_75 : decode cX12_town 75 = .ok (.iconst 1, 1) := by decide +kernel
theorem dX12_town_76 : decode cX12_town 76 = .ok (.if_icmp .eq 8, 3) := by decide +kernel
theorem dX12_town_79 : decode cX12_town 79 = .ok (.aload_n 0, 1) := by decide +kernel
theorem dX12_town_80 : decode cX12_town 80 = .ok (.iconst 1, 1) := by decide +kernel
theorem dX12_town_81 : decode cX12_town 81 = .ok (.invokevirtual 111, 3) := by decide +kernel
theorem dX12_town_84 : decode cX12_town 84 = .ok (.aload_n 0, 1) := by decide +kernel
theorem dX12_town_85 : decode cX12_town 85 = .ok (.getfield 102, 3) := by decide +kernel
theorem dX12_town_88 : decode cX12_town 88 = .ok (.ifCond .le 19, 3) := by decide +kernel
theorem dX12_town_91 : decode cX12_town 91 = .ok (.aload_n 0, 1) := by decide +kernel
theorem dX12_town_92 : decode cX12_town 92 = .ok (.aload_n 0, 1) := by decide +kernel
theorem dX12_town_93 : decode cX12_town 93 = .ok (.getfield 102, 3) := by decide +kernel
theorem dX12_town_96 : decode cX12_town 96 = .ok (.putfield 153, 3) := by decide +kernel
theorem dX12_town_99 : decode cX12_town 99 = .ok (.ldc 156, 2) := by decide +kernel
theorem dX12_town_101 : decode cX12_town 101 = .ok (.aload_n 0, 1) := by decide +kernel
theorem dX12_town_102 : decode cX12_town 102 = .ok (.getfield 108, 3) := by decide +kernel
theorem dX12_town_105 : decode cX12_town 105 = .ok (.isub, 1) := by decide +kernel
theorem dX12_town_106 : decode cX12_town 106 = .ok (.ireturn, 1) := by decide +kernel
theorem dX12_town_107 : decode cX12_town 107 = .ok (.aload_n 0, 1) := by decide +kernel
theorem dX12_town_108 : decode cX12_town 108 = .ok (.iconst 0, 1) := by decide +kernel
theorem dX12_town_109 : decode cX12_town 109 = .ok (.putfield 157, 3) := by decide +kernel
theorem dX12_town_112 : decode cX12_town 112 = .ok (.iconst 0, 1) := by decide +kernel
theorem dX12_town_113 : decode cX12_town 113 = .ok (.istore_n 1, 1) := by decide +kernel
theorem dX12_town_114 : decode cX12_town 114 = .ok (.iload_n 1, 1) := by decide +kernel
theorem dX12_town_115 : decode cX12_town 115 = .ok (.bipush 21, 2) := by decide +kernel
theorem dX12_town_117 : decode cX12_town 117 = .ok (.if_icmp .ge 21, 3) := by decide +kernel
theorem dX12_town_120 : decode cX12_town 120 = .ok (.aload_n 0, 1) := by decide +kernel
theorem dX12_town_121 : decode cX12_town 121 = .ok (.getfield 19, 3) := by decide +kernel
theorem dX12_town_124 : decode cX12_town 124 = .ok (.iload_n 1, 1) := by decide +kernel
theorem dX12_town_125 : decode cX12_town 125 = .ok (.aload_n 0, 1) := by decide +kernel
theorem dX12_town_126 : decode cX12_town 126 = .ok (.getfield 22, 3) := by decide +kernel
theorem dX12_town_129 : decode cX12_town 129 = .ok (.iload_n 1, 1) := by decide +kernel
theorem dX12_town_130 : decode cX12_town 130 = .ok (.iaload, 1) := by decide +kernel
theorem dX12_town_131 : decode cX12_town 131 = .ok (.iastore, 1) := by decide +kernel
theorem dX12_town_132 : decode cX12_town 132 = .ok (.iinc 1 1, 3) := by decide +kernel
theorem dX12_town_135 : decode cX12_town 135 = .ok (.goto (-21), 3) := by decide +kernel
theorem dX12_town_138 : decode cX12_town 138 = .ok (.aload_n 0, 1) := by decide +kernel
theorem dX12_town_139 : decode cX12_town 139 = .ok (.getfield 19, 3) := by decide +kernel
theorem dX12_town_142 : decode cX12_town 142 = .ok (.iconst 0, 1) := by decide +kernel
theorem dX12_town_143 : decode cX12_town 143 = .ok (.iaload, 1) := by decide +kernel
theorem dX12_town_144 : decode cX12_town 144 = .ok (.ireturn, 1) := by decide +kernel
theorem dX12_fault_0 : decode cX12_fault 0 = .ok (.aload_n 0, 1) := by decide +kernel
theorem dX12_fault_1 : decode cX12_fault 1 = .ok (.iconst 0, 1) := by decide +kernel
theorem dX12_fault_2 : decode cX12_fault 2 = .ok (.putfield 44, 3) := by decide +kernel
theorem dX12_fault_5 : decode cX12_fault 5 = .ok (.aload_n 0, 1) := by decide +kernel
theorem dX12_fault_6 : decode cX12_fault 6 = .ok (.getfield 153, 3) := by decide +kernel
theorem dX12_fault_9 : decode cX12_fault 9 = .ok (.ireturn, 1) := by decide +kernel
theorem dX12_isThere_0 : decode cX12_isThere 0 = .ok (.aload_n 0, 1) := by decide +kernel
theorem dX12_isThere_1 : decode cX12_isThere 1 = .ok (.getfield 19, 3) := by decide +kernel
theorem dX12_isThere_4 : decode cX12_isThere 4 = .ok (.iconst 0, 1) := by decide +kernel
theorem dX12_isThere_5 : decode cX12_isThere 5 = .ok (.iaload, 1) := by decide +kernel
theorem dX12_isThere_6 : decode cX12_isThere 6 = .ok (.ifCond .le 7, 3) := by decide +kernel
theorem dX12_isThere_9 : decode cX12_isThere 9 = .ok (.iconst 1, 1) := by decide +kernel
theorem dX12_isThere_10 : decode cX12_isThere 10 = .ok (.goto 4, 3) := by decide +kernel
theorem dX12_isThere_13 : decode cX12_isThere 13 = .ok (.iconst 0, 1) := by decide +kernel
theorem dX12_isThere_14 : decode cX12_isThere 14 = .ok (.ireturn, 1) := by decide +kernel
theorem dX12_isPerson_0 : decode cX12_isPerson 0 = .ok (.iload_n 1, 1) := by decide +kernel
theorem dX12_isPerson_1 : decode cX12_isPerson 1 = .ok (.i2l, 1) := by decide +kernel
theorem dX12_isPerson_2 : decode cX12_isPerson 2 = .ok (.lconst 0, 1) := by decide +kernel
theorem dX12_isPerson_3 : decode cX12_isPerson 3 = .ok (.aload_n 0, 1) := by decide +kernel
theorem dX12_isPerson_4 : decode cX12_isPerson 4 = .ok (.getfield 19, 3) := by decide +kernel
theorem dX12_isPerson_7 : decode cX12_isPerson 7 = .ok (.iconst 0, 1) := by decide +kernel
theorem dX12_isPerson_8 : decode cX12_isPerson 8 = .ok (.iaload, 1) := by decide +kernel
theorem dX12_isPerson_9 : decode cX12_isPerson 9 = .ok (.iconst 1, 1) := by decide +kernel
theorem dX12_isPerson_10 : decode cX12_isPerson 10 = .ok (.isub, 1) := by decide +kernel
theorem dX12_isPerson_11 : decode cX12_isPerson 11 = .ok (.i2l, 1) := by decide +kernel
theorem dX12_isPerson_12 : decode cX12_isPerson 12 = .ok (.invokestatic 54, 3) := by decide +kernel
theorem dX12_isPerson_15 : decode cX12_isPerson 15 = .ok (.ireturn, 1) := by decide +kernel
theorem dX12_all_0 : decode cX12_all 0 = .ok (.iconst 1, 1) := by decide +kernel
theorem dX12_all_1 : decode cX12_all 1 = .ok (.aload_n 0, 1) := by decide +kernel
theorem dX12_all_2 : decode cX12_all 2 = .ok (.getfield 19, 3) := by decide +kernel
theorem dX12_all_5 : decode cX12_all 5 = .ok (.iconst 0, 1) := by decide +kernel
theorem dX12_all_6 : decode cX12_all 6 = .ok (.iaload, 1) := by decide +kernel
theorem dX12_all_7 : decode cX12_all 7 = .ok (.ishl, 1) := by decide +kernel
theorem dX12_all_8 : decode cX12_all 8 = .ok (.iconst 1, 1) := by decide +kernel
theorem dX12_all_9 : decode cX12_all 9 = .ok (.isub, 1) := by decide +kernel
theorem dX12_all_10 : decode cX12_all 10 = .ok (.ireturn, 1) := by decide +kernel
theorem dX12_isSet_0 : decode cX12_isSet 0 = .ok (.iload_n 1, 1) := by decide +kernel
theorem dX12_isSet_1 : decode cX12_isSet 1 = .ok (.i2l, 1) := by decide +kernel
theorem dX12_isSet_2 : decode cX12_isSet 2 = .ok (.lconst 0, 1) := by decide +kernel
theorem dX12_isSet_3 : decode cX12_isSet 3 = .ok (.aload_n 0, 1) := by decide +kernel
theorem dX12_isSet_4 : decode cX12_isSet 4 = .ok (.invokevirtual 160, 3) := by decide +kernel
theorem dX12_isSet_7 : decode cX12_isSet 7 = .ok (.i2l, 1) := by decide +kernel
theorem dX12_isSet_8 : decode cX12_isSet 8 = .ok (.invokestatic 54, 3) := by decide +kernel
theorem dX12_isSet_11 : decode cX12_isSet 11 = .ok (.ireturn, 1) := by decide +kernel
theorem dX12_of_0 : decode cX12_of 0 = .ok (.aload_n 0, 1) := by decide +kernel
theorem dX12_of_1 : decode cX12_of 1 = .ok (.getfield 19, 3) := by decide +kernel
theorem dX12_of_4 : decode cX12_of 4 = .ok (.iconst 3, 1) := by decide +kernel
theorem dX12_of_5 : decode cX12_of 5 = .ok (.iconst 3, 1) := by decide +kernel
theorem dX12_of_6 : decode cX12_of 6 = .ok (.iload_n 1, 1) := by decide +kernel
theorem dX12_of_7 : decode cX12_of 7 = .ok (.imul, 1) := by decide +kernel
theorem dX12_of_8 : decode cX12_of 8 = .ok (.iadd, 1) := by decide +kernel
theorem dX12_of_9 : decode cX12_of 9 = .ok (.iload_n 2, 1) := by decide +kernel
theorem dX12_of_10 : decode cX12_of 10 = .ok (.iadd, 1) := by decide +kernel
theorem dX12_of_11 : decode cX12_of 11 = .ok (.iaload, 1) := by decide +kernel
theorem dX12_of_12 : decode cX12_of 12 = .ok (.ireturn, 1) := by decide +kernel
theorem dX12_bits_0 : decode cX12_bits 0 = .ok (.iconst 0, 1) := by decide +kernel
theorem dX12_bits_1 : decode cX12_bits 1 = .ok (.istore_n 1, 1) := by decide +kernel
theorem dX12_bits_2 : decode cX12_bits 2 = .ok (.iconst 0, 1) := by decide +kernel
theorem dX12_bits_3 : decode cX12_bits 3 = .ok (.istore_n 2, 1) := by decide +kernel
theorem dX12_bits_4 : decode cX12_bits 4 = .ok (.iload_n 2, 1) := by decide +kernel
theorem dX12_bits_5 : decode cX12_bits 5 = .ok (.bipush 6, 2) := by decide +kernel
theorem dX12_bits_7 : decode cX12_bits 7 = .ok (.if_icmp .ge 17, 3) := by decide +kernel
theorem dX12_bits_10 : decode cX12_bits 10 = .ok (.iload_n 1, 1) := by decide +kernel
theorem dX12_bits_11 : decode cX12_bits 11 = .ok (.iload_n 0, 1) := by decide +kernel
theorem dX12_bits_12 : decode cX12_bits 12 = .ok (.iload_n 2, 1) := by decide +kernel
theorem dX12_bits_13 : decode cX12_bits 13 = .ok (.ishr, 1) := by decide +kernel
theorem dX12_bits_14 : decode cX12_bits 14 = .ok (.iconst 1, 1) := by decide +kernel
theorem dX12_bits_15 : decode cX12_bits 15 = .ok (.iand, 1) := by decide +kernel
theorem dX12_bits_16 : decode cX12_bits 16 = .ok (.iadd, 1) := by decide +kernel
theorem dX12_bits_17 : decode cX12_bits 17 = .ok (.istore_n 1, 1) := by decide +kernel
theorem dX12_bits_18 : decode cX12_bits 18 = .ok (.iinc 2 1, 3) := by decide +kernel
theorem dX12_bits_21 : decode cX12_bits 21 = .ok (.goto (-17), 3) := by decide +kernel
theorem dX12_bits_24 : decode cX12_bits 24 = .ok (.iload_n 1, 1) := by decide +kernel
theorem dX12_bits_25 : decode cX12_bits 25 = .ok (.ireturn, 1) := by decide +kernel
theorem dX12_doesIt_0 : decode cX12_doesIt 0 = .ok (.iload_n 2, 1) := by decide +kernel
theorem dX12_doesIt_1 : decode cX12_doesIt 1 = .ok (.aload_n 0, 1) := by decide +kernel
theorem dX12_doesIt_2 : decode cX12_doesIt 2 = .ok (.iload_n 1, 1) := by decide +kernel
theorem dX12_doesIt_3 : decode cX12_doesIt 3 = .ok (.iconst 1, 1) := by decide +kernel
theorem dX12_doesIt_4 : decode cX12_doesIt 4 = .ok (.invokevirtual 163, 3) := by decide +kernel
theorem dX12_doesIt_7 : decode cX12_doesIt 7 = .ok (.ishr, 1) := by decide +kernel
theorem dX12_doesIt_8 : decode cX12_doesIt 8 = .ok (.iconst 1, 1) := by decide +kernel
theorem dX12_doesIt_9 : decode cX12_doesIt 9 = .ok (.iand, 1) := by decide +kernel
theorem dX12_doesIt_10 : decode cX12_doesIt 10 = .ok (.iconst 1, 1) := by decide +kernel
theorem dX12_doesIt_11 : decode cX12_doesIt 11 = .ok (.if_icmp .ne 7, 3) := by decide +kernel
theorem dX12_doesIt_14 : decode cX12_doesIt 14 = .ok (.iconst 1, 1) := by decide +kernel
theorem dX12_doesIt_15 : decode cX12_doesIt 15 = .ok (.goto 4, 3) := by decide +kernel
theorem dX12_doesIt_18 : decode cX12_doesIt 18 = .ok (.iconst 0, 1) := by decide +kernel
theorem dX12_doesIt_19 : decode cX12_doesIt 19 = .ok (.istore 4, 2) := by decide +kernel
theorem dX12_doesIt_21 : decode cX12_doesIt 21 = .ok (.aload_n 0, 1) := by decide +kernel
theorem dX12_doesIt_22 : decode cX12_doesIt 22 = .ok (.iload_n 1, 1) := by decide +kernel
theorem dX12_doesIt_23 : decode cX12_doesIt 23 = .ok (.iconst 0, 1) := by decide +kernel
theorem dX12_doesIt_24 : decode cX12_doesIt 24 = .ok (.invokevirtual 163, 3) := by decide +kernel
theorem dX12_doesIt_27 : decode cX12_doesIt 27 = .ok (.tableswitch 84 2 5 #[29, 84, 40, 59], 29) := by decide +kernel
theorem dX12_doesIt_56 : decode cX12_doesIt 56 = .ok (.iload 4, 2) := by decide +kernel
theorem dX12_doesIt_58 : decode cX12_doesIt 58 = .ok (.ifCond .ne 7, 3) := by decide +kernel
theorem dX12_doesIt_61 : decode cX12_doesIt 61 = .ok (.iconst 1, 1) := by decide +kernel
theorem dX12_doesIt_62 : decode cX12_doesIt 62 = .ok (.goto 4, 3) := by decide +kernel
theorem dX12_doesIt_65 : decode cX12_doesIt 65 = .ok (.iconst 0, 1) := by decide +kernel
theorem dX12_doesIt_66 : decode cX12_doesIt 66 = .ok (.ireturn, 1) := by decide +kernel
theorem dX12_doesIt_67 : decode cX12_doesIt 67 = .ok (.iload_n 2, 1) := by decide +kernel
theorem dX12_doesIt_68 : decode cX12_doesIt 68 = .ok (.invokestatic 166, 3) := by decide +kernel
theorem dX12_doesIt_71 : decode cX12_doesIt 71 = .ok (.aload_n 0, 1) := by decide +kernel
theorem dX12_doesIt_72 : decode cX12_doesIt 72 = .ok (.iload_n 1, 1) := by decide +kernel
theorem dX12_doesIt_73 : decode cX12_doesIt 73 = .ok (.iconst 2, 1) := by decide +kernel
theorem dX12_doesIt_74 : decode cX12_doesIt 74 = .ok (.invokevirtual 163, 3) := by decide +kernel
theorem dX12_doesIt_77 : decode cX12_doesIt 77 = .ok (.if_icmp .lt 7, 3) := by decide +kernel
theorem dX12_doesIt_80 : decode cX12_doesIt 80 = .ok (.iconst 1, 1) := by decide +kernel
theorem dX12_doesIt_81 : decode cX12_doesIt 81 = .ok (.goto 4, 3) := by decide +kernel
theorem dX12_doesIt_84 : decode cX12_doesIt 84 = .ok (.iconst 0, 1) := by decide +kernel
theorem dX12_doesIt_85 : decode cX12_doesIt 85 = .ok (.ireturn, 1) := by decide +kernel
theorem dX12_doesIt_86 : decode cX12_doesIt 86 = .ok (.iload 4, 2) := by decide +kernel
theorem dX12_doesIt_88 : decode cX12_doesIt 88 = .ok (.iload_n 3, 1) := by decide +kernel
theorem dX12_doesIt_89 : decode cX12_doesIt 89 = .ok (.iload_n 1, 1) := by decide +kernel
theorem dX12_doesIt_90 : decode cX12_doesIt 90 = .ok (.ishr, 1) := by decide +kernel
theorem dX12_doesIt_91 : decode cX12_doesIt 91 = .ok (.iconst 1, 1) := by decide +kernel
theorem dX12_doesIt_92 : decode cX12_doesIt 92 = .ok (.iand, 1) := by decide +kernel
theorem dX12_doesIt_93 : decode cX12_doesIt 93 = .ok (.iconst 1, 1) := by decide +kernel
theorem dX12_doesIt_94 : decode cX12_doesIt 94 = .ok (.if_icmp .ne 7, 3) := by decide +kernel
theorem dX12_doesIt_97 : decode cX12_doesIt 97 = .ok (.iconst 1, 1) := by decide +kernel
theorem dX12_doesIt_98 : decode cX12_doesIt 98 = .ok (.goto 4, 3) := by decide +kernel
theorem dX12_doesIt_101 : decode cX12_doesIt 101 = .ok (.iconst 0, 1) := by decide +kernel
theorem dX12_doesIt_102 : decode cX12_doesIt 102 = .ok (.if_icmp .ne 7, 3) := by decide +kernel
theorem dX12_doesIt_105 : decode cX12_doesIt 105 = .ok (.iconst 1, 1) := by decide +kernel
theorem dX12_doesIt_106 : decode cX12_doesIt 106 = .ok (.goto 4, 3) := by decide +kernel
theorem dX12_doesIt_109 : decode cX12_doesIt 109 = .ok (.iconst 0, 1) := by decide +kernel
theorem dX12_doesIt_110 : decode cX12_doesIt 110 = .ok (.ireturn, 1) := by decide +kernel
theorem dX12_doesIt_111 : decode cX12_doesIt 111 = .ok (.iload 4, 2) := by decide +kernel
theorem dX12_doesIt_113 : decode cX12_doesIt 113 = .ok (.ireturn, 1) := by decide +kernel
theorem dX12_doneBy_0 : decode cX12_doneBy 0 = .ok (.iconst 0, 1) := by decide +kernel
theorem dX12_doneBy_1 : decode cX12_doneBy 1 = .ok (.istore 5, 2) := by decide +kernel
theorem dX12_doneBy_3 : decode cX12_doneBy 3 = .ok (.iconst 0, 1) := by decide +kernel
theorem dX12_doneBy_4 : decode cX12_doneBy 4 = .ok (.istore 6, 2) := by decide +kernel
theorem dX12_doneBy_6 : decode cX12_doneBy 6 = .ok (.iload 6, 2) := by decide +kernel
theorem dX12_doneBy_8 : decode cX12_doneBy 8 = .ok (.aload_n 0, 1) := by decide +kernel
theorem dX12_doneBy_9 : decode cX12_doneBy 9 = .ok (.getfield 19, 3) := by decide +kernel
theorem dX12_doneBy_12 : decode cX12_doneBy 12 = .ok (.iconst 0, 1) := by decide +kernel
theorem dX12_doneBy_13 : decode cX12_doneBy 13 = .ok (.iaload, 1) := by decide +kernel
theorem dX12_doneBy_14 : decode cX12_doneBy 14 = .ok (.if_icmp .ge 71, 3) := by decide +kernel
theorem dX12_doneBy_17 : decode cX12_doneBy 17 = .ok (.aload_n 0, 1) := by decide +kernel
theorem dX12_doneBy_18 : decode cX12_doneBy 18 = .ok (.iload 6, 2) := by decide +kernel
theorem dX12_doneBy_20 : decode cX12_doneBy 20 = .ok (.iload_n 1, 1) := by decide +kernel
theorem dX12_doneBy_21 : decode cX12_doneBy 21 = .ok (.iload_n 2, 1) := by decide +kernel
theorem dX12_doneBy_22 : decode cX12_doneBy 22 = .ok (.invokevirtual 169, 3) := by decide +kernel
theorem dX12_doneBy_25 : decode cX12_doneBy 25 = .ok (.istore 7, 2) := by decide +kernel
theorem dX12_doneBy_27 : decode cX12_doneBy 27 = .ok (.iload 6, 2) := by decide +kernel
theorem dX12_doneBy_29 : decode cX12_doneBy 29 = .ok (.iload_n 3, 1) := by decide +kernel
theorem dX12_doneBy_30 : decode cX12_doneBy 30 = .ok (.if_icmp .ne 31, 3) := by decide +kernel
theorem dX12_doneBy_33 : decode cX12_doneBy 33 = .ok (.iload 4, 2) := by decide +kernel
theorem dX12_doneBy_35 : decode cX12_doneBy 35 = .ok (.iconst 1, 1) := by decide +kernel
theorem dX12_doneBy_36 : decode cX12_doneBy 36 = .ok (.if_icmp .eq 18, 3) := by decide +kernel
theorem dX12_doneBy_39 : decode cX12_doneBy 39 = .ok (.iload 4, 2) := by decide +kernel
theorem dX12_doneBy_41 : decode cX12_doneBy 41 = .ok (.ifCond .ne 17, 3) := by decide +kernel
theorem dX12_doneBy_44 : decode cX12_doneBy 44 = .ok (.iload_n 1, 1) := by decide +kernel
theorem dX12_doneBy_45 : decode cX12_doneBy 45 = .ok (.iload 6, 2) := by decide +kernel
theorem dX12_doneBy_47 : decode cX12_doneBy 47 = .ok (.ishr, 1) := by decide +kernel
theorem dX12_doneBy_48 : decode cX12_doneBy 48 = .ok (.iconst 1, 1) := by decide +kernel
theorem dX12_doneBy_49 : decode cX12_doneBy 49 = .ok (.iand, 1) := by decide +kernel
theorem dX12_doneBy_50 : decode cX12_doneBy 50 = .ok (.iconst 1, 1) := by decide +kernel
theorem dX12_doneBy_51 : decode cX12_doneBy 51 = .ok (.if_icmp .ne 7, 3) := by decide +kernel
theorem dX12_doneBy_54 : decode cX12_doneBy 54 = .ok (.iconst 1, 1) := by decide +kernel
theorem dX12_doneBy_55 : decode cX12_doneBy 55 = .ok (.goto 4, 3) := by decide +kernel
theorem dX12_doneBy_58 : decode cX12_doneBy 58 = .ok (.iconst 0, 1) := by decide +kernel
theorem dX12_doneBy_59 : decode cX12_doneBy 59 = .ok (.istore 7, 2) := by decide +kernel
theorem dX12_doneBy_61 : decode cX12_doneBy 61 = .ok (.iload 5, 2) := by decide +kernel
theorem dX12_doneBy_63 : decode cX12_doneBy 63 = .ok (.iload 7, 2) := by decide +kernel
theorem dX12_doneBy_65 : decode cX12_doneBy 65 = .ok (.ifCond .eq 10, 3) := by decide +kernel
theorem dX12_doneBy_68 : decode cX12_doneBy 68 = .ok (.iconst 1, 1) := by decide +kernel
theorem dX12_doneBy_69 : decode cX12_doneBy 69 = .ok (.iload 6, 2) := by decide +kernel
theorem dX12_doneBy_71 : decode cX12_doneBy 71 = .ok (.ishl, 1) := by decide +kernel
theorem dX12_doneBy_72 : decode cX12_doneBy 72 = .ok (.goto 4, 3) := by decide +kernel
theorem dX12_doneBy_75 : decode cX12_doneBy 75 = .ok (.iconst 0, 1) := by decide +kernel
theorem dX12_doneBy_76 : decode cX12_doneBy 76 = .ok (.ior, 1) := by decide +kernel
theorem dX12_doneBy_77 : decode cX12_doneBy 77 = .ok (.istore 5, 2) := by decide +kernel
theorem dX12_doneBy_79 : decode cX12_doneBy 79 = .ok (.iinc 6 1, 3) := by decide +kernel
theorem dX12_doneBy_82 : decode cX12_doneBy 82 = .ok (.goto (-76), 3) := by decide +kernel
theorem dX12_doneBy_85 : decode cX12_doneBy 85 = .ok (.iload 5, 2) := by decide +kernel
theorem dX12_doneBy_87 : decode cX12_doneBy 87 = .ok (.ireturn, 1) := by decide +kernel
theorem dX12_isAgreed_0 : decode cX12_isAgreed 0 = .ok (.aload_n 0, 1) := by decide +kernel
theorem dX12_isAgreed_1 : decode cX12_isAgreed 1 = .ok (.iload_n 1, 1) := by decide +kernel
theorem dX12_isAgreed_2 : decode cX12_isAgreed 2 = .ok (.iload_n 2, 1) := by decide +kernel
theorem dX12_isAgreed_3 : decode cX12_isAgreed 3 = .ok (.iconst (-1), 1) := by decide +kernel
theorem dX12_isAgreed_4 : decode cX12_isAgreed 4 = .ok (.iconst 0, 1) := by decide +kernel
theorem dX12_isAgreed_5 : decode cX12_isAgreed 5 = .ok (.invokevirtual 173, 3) := by decide +kernel
theorem dX12_isAgreed_8 : decode cX12_isAgreed 8 = .ok (.iload_n 1, 1) := by decide +kernel
theorem dX12_isAgreed_9 : decode cX12_isAgreed 9 = .ok (.if_icmp .ne 7, 3) := by decide +kernel
theorem dX12_isAgreed_12 : decode cX12_isAgreed 12 = .ok (.iconst 1, 1) := by decide +kernel
theorem dX12_isAgreed_13 : decode cX12_isAgreed 13 = .ok (.goto 4, 3) := by decide +kernel
theorem dX12_isAgreed_16 : decode cX12_isAgreed 16 = .ok (.iconst 0, 1) := by decide +kernel
theorem dX12_isAgreed_17 : decode cX12_isAgreed 17 = .ok (.ireturn, 1) := by decide +kernel
theorem dX12_keep_0 : decode cX12_keep 0 = .ok (.aload_n 0, 1) := by decide +kernel
theorem dX12_keep_1 : decode cX12_keep 1 = .ok (.getfield 157, 3) := by decide +kernel
theorem dX12_keep_4 : decode cX12_keep 4 = .ok (.bipush 24, 2) := by decide +kernel
theorem dX12_keep_6 : decode cX12_keep 6 = .ok (.if_icmp .ne 43, 3) := by decide +kernel
theorem dX12_keep_9 : decode cX12_keep 9 = .ok (.iconst 0, 1) := by decide +kernel
theorem dX12_keep_10 : decode cX12_keep 10 = .ok (.istore_n 1, 1) := by decide +kernel
theorem dX12_keep_11 : decode cX12_keep 11 = .ok (.iload_n 1, 1) := by decide +kernel
theorem dX12_keep_12 : decode cX12_keep 12 = .ok (.sipush 483, 3) := by decide +kernel
theorem dX12_keep_15 : decode cX12_keep 15 = .ok (.if_icmp .ge 24, 3) := by decide +kernel
theorem dX12_keep_18 : decode cX12_keep 18 = .ok (.aload_n 0, 1) := by decide +kernel
theorem dX12_keep_19 : decode cX12_keep 19 = .ok (.getfield 25, 3) := by decide +kernel
theorem dX12_keep_22 : decode cX12_keep 22 = .ok (.iload_n 1, 1) := by decide +kernel
theorem dX12_keep_23 : decode cX12_keep 23 = .ok (.aload_n 0, 1) := by decide +kernel
theorem dX12_keep_24 : decode cX12_keep 24 = .ok (.getfield 25, 3) := by decide +kernel
theorem dX12_keep_27 : decode cX12_keep 27 = .ok (.iload_n 1, 1) := by decide +kernel
theorem dX12_keep_28 : decode cX12_keep 28 = .ok (.bipush 21, 2) := by decide +kernel
theorem dX12_keep_30 : decode cX12_keep 30 = .ok (.iadd, 1) := by decide +kernel
theorem dX12_keep_31 : decode cX12_keep 31 = .ok (.iaload, 1) := by decide +kernel
theorem dX12_keep_32 : decode cX12_keep 32 = .ok (.iastore, 1) := by decide +kernel
theorem dX12_keep_33 : decode cX12_keep 33 = .ok (.iinc 1 1, 3) := by decide +kernel
theorem dX12_keep_36 : decode cX12_keep 36 = .ok (.goto (-25), 3) := by decide +kernel
theorem dX12_keep_39 : decode cX12_keep 39 = .ok (.aload_n 0, 1) := by decide +kernel
theorem dX12_keep_40 : decode cX12_keep 40 = .ok (.dup, 1) := by decide +kernel
theorem dX12_keep_41 : decode cX12_keep 41 = .ok (.getfield 157, 3) := by decide +kernel
theorem dX12_keep_44 : decode cX12_keep 44 = .ok (.iconst 1, 1) := by decide +kernel
theorem dX12_keep_45 : decode cX12_keep 45 = .ok (.isub, 1) := by decide +kernel
theorem dX12_keep_46 : decode cX12_keep 46 = .ok (.putfield 157, 3) := by decide +kernel
theorem dX12_keep_49 : decode cX12_keep 49 = .ok (.iconst 0, 1) := by decide +kernel
theorem dX12_keep_50 : decode cX12_keep 50 = .ok (.istore_n 1, 1) := by decide +kernel
theorem dX12_keep_51 : decode cX12_keep 51 = .ok (.iload_n 1, 1) := by decide +kernel
theorem dX12_keep_52 : decode cX12_keep 52 = .ok (.bipush 21, 2) := by decide +kernel
theorem dX12_keep_54 : decode cX12_keep 54 = .ok (.if_icmp .ge 29, 3) := by decide +kernel
theorem dX12_keep_57 : decode cX12_keep 57 = .ok (.aload_n 0, 1) := by decide +kernel
theorem dX12_keep_58 : decode cX12_keep 58 = .ok (.getfield 25, 3) := by decide +kernel
theorem dX12_keep_61 : decode cX12_keep 61 = .ok (.bipush 21, 2) := by decide +kernel
theorem dX12_keep_63 : decode cX12_keep 63 = .ok (.aload_n 0, 1) := by decide +kernel
theorem dX12_keep_64 : decode cX12_keep 64 = .ok (.getfield 157, 3) := by decide +kernel
theorem dX12_keep_67 : decode cX12_keep 67 = .ok (.imul, 1) := by decide +kernel
theorem dX12_keep_68 : decode cX12_keep 68 = .ok (.iload_n 1, 1) := by decide +kernel
theorem dX12_keep_69 : decode cX12_keep 69 = .ok (.iadd, 1) := by decide +kernel
theorem dX12_keep_70 : decode cX12_keep 70 = .ok (.aload_n 0, 1) := by decide +kernel
theorem dX12_keep_71 : decode cX12_keep 71 = .ok (.getfield 19, 3) := by decide +kernel
theorem dX12_keep_74 : decode cX12_keep 74 = .ok (.iload_n 1, 1) := by decide +kernel
theorem dX12_keep_75 : decode cX12_keep 75 = .ok (.iaload, 1) := by decide +kernel
theorem dX12_keep_76 : decode cX12_keep 76 = .ok (.iastore, 1) := by decide +kernel
theorem dX12_keep_77 : decode cX12_keep 77 = .ok (.iinc 1 1, 3) := by decide +kernel
theorem dX12_keep_80 : decode cX12_keep 80 = .ok (.goto (-29), 3) := by decide +kernel
theorem dX12_keep_83 : decode cX12_keep 83 = .ok (.aload_n 0, 1) := by decide +kernel
theorem dX12_keep_84 : decode cX12_keep 84 = .ok (.dup, 1) := by decide +kernel
theorem dX12_keep_85 : decode cX12_keep 85 = .ok (.getfield 157, 3) := by decide +kernel
theorem dX12_keep_88 : decode cX12_keep 88 = .ok (.iconst 1, 1) := by decide +kernel
theorem dX12_keep_89 : decode cX12_keep 89 = .ok (.iadd, 1) := by decide +kernel
theorem dX12_keep_90 : decode cX12_keep 90 = .ok (.putfield 157, 3) := by decide +kernel
theorem dX12_keep_93 : decode cX12_keep 93 = .ok (.return_, 1) := by decide +kernel
theorem dX12_goDay_0 : decode cX12_goDay 0 = .ok (.aload_n 0, 1) := by decide +kernel
theorem dX12_goDay_1 : decode cX12_goDay 1 = .ok (.invokevirtual 177, 3) := by decide +kernel
theorem dX12_goDay_4 : decode cX12_goDay 4 = .ok (.aload_n 0, 1) := by decide +kernel
theorem dX12_goDay_5 : decode cX12_goDay 5 = .ok (.getfield 19, 3) := by decide +kernel
theorem dX12_goDay_8 : decode cX12_goDay 8 = .ok (.iconst 2, 1) := by decide +kernel
theorem dX12_goDay_9 : decode cX12_goDay 9 = .ok (.iload_n 1, 1) := by decide +kernel
theorem dX12_goDay_10 : decode cX12_goDay 10 = .ok (.iastore, 1) := by decide +kernel
theorem dX12_goDay_11 : decode cX12_goDay 11 = .ok (.aload_n 0, 1) := by decide +kernel
theorem dX12_goDay_12 : decode cX12_goDay 12 = .ok (.getfield 19, 3) := by decide +kernel
theorem dX12_goDay_15 : decode cX12_goDay 15 = .ok (.iconst 1, 1) := by decide +kernel
theorem dX12_goDay_16 : decode cX12_goDay 16 = .ok (.dup2, 1) := by decide +kernel
theorem dX12_goDay_17 : decode cX12_goDay 17 = .ok (.iaload, 1) := by decide +kernel
theorem dX12_goDay_18 : decode cX12_goDay 18 = .ok (.iconst 1, 1) := by decide +kernel
theorem dX12_goDay_19 : decode cX12_goDay 19 = .ok (.iadd, 1) := by decide +kernel
theorem dX12_goDay_20 : decode cX12_goDay 20 = .ok (.iastore, 1) := by decide +kernel
theorem dX12_goDay_21 : decode cX12_goDay 21 = .ok (.return_, 1) := by decide +kernel
theorem dX12_post_0 : decode cX12_post 0 = .ok (.aload_n 0, 1) := by decide +kernel
theorem dX12_post_1 : decode cX12_post 1 = .ok (.iconst 0, 1) := by decide +kernel
theorem dX12_post_2 : decode cX12_post 2 = .ok (.putfield 44, 3) := by decide +kernel
theorem dX12_post_5 : decode cX12_post 5 = .ok (.aload_n 0, 1) := by decide +kernel
theorem dX12_post_6 : decode cX12_post 6 = .ok (.invokevirtual 180, 3) := by decide +kernel
theorem dX12_post_9 : decode cX12_post 9 = .ok (.ifCond .ne 6, 3) := by decide +kernel
theorem dX12_post_12 : decode cX12_post 12 = .ok (.ldc 184, 2) := by decide +kernel
theorem dX12_post_14 : decode cX12_post 14 = .ok (.ireturn, 1) := by decide +kernel
theorem dX12_post_15 : decode cX12_post 15 = .ok (.aload_n 0, 1) := by decide +kernel
theorem dX12_post_16 : decode cX12_post 16 = .ok (.iload_n 1, 1) := by decide +kernel
theorem dX12_post_17 : decode cX12_post 17 = .ok (.invokevirtual 185, 3) := by decide +kernel
theorem dX12_post_20 : decode cX12_post 20 = .ok (.ifCond .ne 6, 3) := by decide +kernel
theorem dX12_post_23 : decode cX12_post 23 = .ok (.ldc 64, 2) := by decide +kernel
theorem dX12_post_25 : decode cX12_post 25 = .ok (.ireturn, 1) := by decide +kernel
theorem dX12_post_26 : decode cX12_post 26 = .ok (.aload_n 0, 1) := by decide +kernel
theorem dX12_post_27 : decode cX12_post 27 = .ok (.iload_n 1, 1) := by decide +kernel
theorem dX12_post_28 : decode cX12_post 28 = .ok (.aload_n 0, 1) := by decide +kernel
theorem dX12_post_29 : decode cX12_post 29 = .ok (.getfield 19, 3) := by decide +kernel
theorem dX12_post_32 : decode cX12_post 32 = .ok (.iconst 2, 1) := by decide +kernel
theorem dX12_post_33 : decode cX12_post 33 = .ok (.iaload, 1) := by decide +kernel
theorem dX12_post_34 : decode cX12_post 34 = .ok (.invokevirtual 188, 3) := by decide +kernel
theorem dX12_post_37 : decode cX12_post 37 = .ok (.ifCond .ne 6, 3) := by decide +kernel
theorem dX12_post_40 : decode cX12_post 40 = .ok (.ldc 184, 2) := by decide +kernel
theorem dX12_post_42 : decode cX12_post 42 = .ok (.ireturn, 1) := by decide +kernel
theorem dX12_post_43 : decode cX12_post 43 = .ok (.aload_n 0, 1) := by decide +kernel
theorem dX12_post_44 : decode cX12_post 44 = .ok (.getfield 19, 3) := by decide +kernel
theorem dX12_post_47 : decode cX12_post 47 = .ok (.iconst 1, 1) := by decide +kernel
theorem dX12_post_48 : decode cX12_post 48 = .ok (.iaload, 1) := by decide +kernel
theorem dX12_post_49 : decode cX12_post 49 = .ok (.sipush 9999, 3) := by decide +kernel
theorem dX12_post_52 : decode cX12_post 52 = .ok (.if_icmp .ne 6, 3) := by decide +kernel
theorem dX12_post_55 : decode cX12_post 55 = .ok (.ldc 74, 2) := by decide +kernel
theorem dX12_post_57 : decode cX12_post 57 = .ok (.ireturn, 1) := by decide +kernel
theorem dX12_post_58 : decode cX12_post 58 = .ok (.aload_n 0, 1) := by decide +kernel
theorem dX12_post_59 : decode cX12_post 59 = .ok (.iload_n 1, 1) := by decide +kernel
theorem dX12_post_60 : decode cX12_post 60 = .ok (.invokevirtual 192, 3) := by decide +kernel
theorem dX12_post_63 : decode cX12_post 63 = .ok (.aload_n 0, 1) := by decide +kernel
theorem dX12_post_64 : decode cX12_post 64 = .ok (.getfield 19, 3) := by decide +kernel
theorem dX12_post_67 : decode cX12_post 67 = .ok (.iconst 1, 1) := by decide +kernel
theorem dX12_post_68 : decode cX12_post 68 = .ok (.iaload, 1) := by decide +kernel
theorem dX12_post_69 : decode cX12_post 69 = .ok (.ireturn, 1) := by decide +kernel
theorem dX12_lacks_0 : decode cX12_lacks 0 = .ok (.aload_n 0, 1) := by decide +kernel
theorem dX12_lacks_1 : decode cX12_lacks 1 = .ok (.getfield 7, 3) := by decide +kernel
theorem dX12_lacks_4 : decode cX12_lacks 4 = .ok (.iload_n 1, 1) := by decide +kernel
theorem dX12_lacks_5 : decode cX12_lacks 5 = .ok (.iaload, 1) := by decide +kernel
theorem dX12_lacks_6 : decode cX12_lacks 6 = .ok (.ifCond .ge 7, 3) := by decide +kernel
theorem dX12_lacks_9 : decode cX12_lacks 9 = .ok (.iconst 1, 1) := by decide +kernel
theorem dX12_lacks_10 : decode cX12_lacks 10 = .ok (.goto 28, 3) := by decide +kernel
theorem dX12_lacks_13 : decode cX12_lacks 13 = .ok (.iload_n 2, 1) := by decide +kernel
theorem dX12_lacks_14 : decode cX12_lacks 14 = .ok (.ifCond .lt 19, 3) := by decide +kernel
theorem dX12_lacks_17 : decode cX12_lacks 17 = .ok (.iload_n 2, 1) := by decide +kernel
theorem dX12_lacks_18 : decode cX12_lacks 18 = .ok (.i2l, 1) := by decide +kernel
theorem dX12_lacks_19 : decode cX12_lacks 19 = .ok (.iload_n 3, 1) := by decide +kernel
theorem dX12_lacks_20 : decode cX12_lacks 20 = .ok (.i2l, 1) := by decide +kernel
theorem dX12_lacks_21 : decode cX12_lacks 21 = .ok (.ladd, 1) := by decide +kernel
theorem dX12_lacks_22 : decode cX12_lacks 22 = .ok (.aload_n 0, 1) := by decide +kernel
theorem dX12_lacks_23 : decode cX12_lacks 23 = .ok (.getfield 13, 3) := by decide +kernel
theorem dX12_lacks_26 : decode cX12_lacks 26 = .ok (.iload_n 1, 1) := by decide +kernel
theorem dX12_lacks_27 : decode cX12_lacks 27 = .ok (.iaload, 1) := by decide +kernel
theorem dX12_lacks_28 : decode cX12_lacks 28 = .ok (.i2l, 1) := by decide +kernel
theorem dX12_lacks_29 : decode cX12_lacks 29 = .ok (.lcmp, 1) := by decide +kernel
theorem dX12_lacks_30 : decode cX12_lacks 30 = .ok (.ifCond .le 7, 3) := by decide +kernel
theorem dX12_lacks_33 : decode cX12_lacks 33 = .ok (.iconst 2, 1) := by decide +kernel
theorem dX12_lacks_34 : decode cX12_lacks 34 = .ok (.goto 4, 3) := by decide +kernel
theorem dX12_lacks_37 : decode cX12_lacks 37 = .ok (.iconst 0, 1) := by decide +kernel
theorem dX12_lacks_38 : decode cX12_lacks 38 = .ok (.ireturn, 1) := by decide +kernel
theorem dX12_areSets_0 : decode cX12_areSets 0 = .ok (.iconst 1, 1) := by decide +kernel
theorem dX12_areSets_1 : decode cX12_areSets 1 = .ok (.istore_n 3, 1) := by decide +kernel
theorem dX12_areSets_2 : decode cX12_areSets 2 = .ok (.iconst 0, 1) := by decide +kernel
theorem dX12_areSets_3 : decode cX12_areSets 3 = .ok (.istore 4, 2) := by decide +kernel
theorem dX12_areSets_5 : decode cX12_areSets 5 = .ok (.iload 4, 2) := by decide +kernel
theorem dX12_areSets_7 : decode cX12_areSets 7 = .ok (.iload_n 2, 1) := by decide +kernel
theorem dX12_areSets_8 : decode cX12_areSets 8 = .ok (.if_icmp .ge 35, 3) := by decide +kernel
theorem dX12_areSets_11 : decode cX12_areSets 11 = .ok (.iload_n 3, 1) := by decide +kernel
theorem dX12_areSets_12 : decode cX12_areSets 12 = .ok (.ifCond .eq 23, 3) := by decide +kernel
theorem dX12_areSets_15 : decode cX12_areSets 15 = .ok (.aload_n 0, 1) := by decide +kernel
theorem dX12_areSets_16 : decode cX12_areSets 16 = .ok (.aload_n 0, 1) := by decide +kernel
theorem dX12_areSets_17 : decode cX12_areSets 17 = .ok (.getfield 16, 3) := by decide +kernel
theorem dX12_areSets_20 : decode cX12_areSets 20 = .ok (.iload_n 1, 1) := by decide +kernel
theorem dX12_areSets_21 : decode cX12_areSets 21 = .ok (.iload 4, 2) := by decide +kernel
theorem dX12_areSets_23 : decode cX12_areSets 23 = .ok (.iadd, 1) := by decide +kernel
theorem dX12_areSets_24 : decode cX12_areSets 24 = .ok (.iaload, 1) := by decide +kernel
theorem dX12_areSets_25 : decode cX12_areSets 25 = .ok (.invokevirtual 185, 3) := by decide +kernel
theorem dX12_areSets_28 : decode cX12_areSets 28 = .ok (.ifCond .eq 7, 3) := by decide +kernel
theorem dX12_areSets_31 : decode cX12_areSets 31 = .ok (.iconst 1, 1) := by decide +kernel
theorem dX12_areSets_32 : decode cX12_areSets 32 = .ok (.goto 4, 3) := by decide +kernel
theorem dX12_areSets_35 : decode cX12_areSets 35 = .ok (.iconst 0, 1) := by decide +kernel
theorem dX12_areSets_36 : decode cX12_areSets 36 = .ok (.istore_n 3, 1) := by decide +kernel
theorem dX12_areSets_37 : decode cX12_areSets 37 = .ok (.iinc 4 1, 3) := by decide +kernel
theorem dX12_areSets_40 : decode cX12_areSets 40 = .ok (.goto (-35), 3) := by decide +kernel
theorem dX12_areSets_43 : decode cX12_areSets 43 = .ok (.iload_n 3, 1) := by decide +kernel
theorem dX12_areSets_44 : decode cX12_areSets 44 = .ok (.ireturn, 1) := by decide +kernel
theorem dX12_posts_0 : decode cX12_posts 0 = .ok (.aload_n 0, 1) := by decide +kernel
theorem dX12_posts_1 : decode cX12_posts 1 = .ok (.iconst 0, 1) := by decide +kernel
theorem dX12_posts_2 : decode cX12_posts 2 = .ok (.putfield 44, 3) := by decide +kernel
theorem dX12_posts_5 : decode cX12_posts 5 = .ok (.aload_n 0, 1) := by decide +kernel
theorem dX12_posts_6 : decode cX12_posts 6 = .ok (.invokevirtual 180, 3) := by decide +kernel
theorem dX12_posts_9 : decode cX12_posts 9 = .ok (.ifCond .ne 6, 3) := by decide +kernel
theorem dX12_posts_12 : decode cX12_posts 12 = .ok (.ldc 184, 2) := by decide +kernel
theorem dX12_posts_14 : decode cX12_posts 14 = .ok (.ireturn, 1) := by decide +kernel
theorem dX12_posts_15 : decode cX12_posts 15 = .ok (.iload_n 1, 1) := by decide +kernel
theorem dX12_posts_16 : decode cX12_posts 16 = .ok (.invokestatic 58, 3) := by decide +kernel
theorem dX12_posts_19 : decode cX12_posts 19 = .ok (.ifCond .eq 15, 3) := by decide +kernel
theorem dX12_posts_22 : decode cX12_posts 22 = .ok (.iload_n 3, 1) := by decide +kernel
theorem dX12_posts_23 : decode cX12_posts 23 = .ok (.i2l, 1) := by decide +kernel
theorem dX12_posts_24 : decode cX12_posts 24 = .ok (.lconst 1, 1) := by decide +kernel
theorem dX12_posts_25 : decode cX12_posts 25 = .ok (.ldc2_w 195, 3) := by decide +kernel
theorem dX12_posts_28 : decode cX12_posts 28 = .ok (.invokestatic 54, 3) := by decide +kernel
theorem dX12_posts_31 : decode cX12_posts 31 = .ok (.ifCond .ne 6, 3) := by decide +kernel
theorem dX12_posts_34 : decode cX12_posts 34 = .ok (.ldc 64, 2) := by decide +kernel
theorem dX12_posts_36 : decode cX12_posts 36 = .ok (.ireturn, 1) := by decide +kernel
theorem dX12_posts_37 : decode cX12_posts 37 = .ok (.aload_n 0, 1) := by decide +kernel
theorem dX12_posts_38 : decode cX12_posts 38 = .ok (.iload_n 1, 1) := by decide +kernel
theorem dX12_posts_39 : decode cX12_posts 39 = .ok (.iload_n 2, 1) := by decide +kernel
theorem dX12_posts_40 : decode cX12_posts 40 = .ok (.iload_n 3, 1) := by decide +kernel
theorem dX12_posts_41 : decode cX12_posts 41 = .ok (.invokevirtual 197, 3) := by decide +kernel
theorem dX12_posts_44 : decode cX12_posts 44 = .ok (.istore 4, 2) := by decide +kernel
theorem dX12_posts_46 : decode cX12_posts 46 = .ok (.iload 4, 2) := by decide +kernel
theorem dX12_posts_48 : decode cX12_posts 48 = .ok (.ifCond .le 10, 3) := by decide +kernel
theorem dX12_posts_51 : decode cX12_posts 51 = .ok (.aload_n 0, 1) := by decide +kernel
theorem dX12_posts_52 : decode cX12_posts 52 = .ok (.iload 4, 2) := by decide +kernel
theorem dX12_posts_54 : decode cX12_posts 54 = .ok (.invokevirtual 65, 3) := by decide +kernel
theorem dX12_posts_57 : decode cX12_posts 57 = .ok (.ireturn, 1) := by decide +kernel
theorem dX12_posts_58 : decode cX12_posts 58 = .ok (.bipush 40, 2) := by decide +kernel
theorem dX12_posts_60 : decode cX12_posts 60 = .ok (.iload_n 1, 1) := by decide +kernel
theorem dX12_posts_61 : decode cX12_posts 61 = .ok (.imul, 1) := by decide +kernel
theorem dX12_posts_62 : decode cX12_posts 62 = .ok (.iload_n 2, 1) := by decide +kernel
theorem dX12_posts_63 : decode cX12_posts 63 = .ok (.iadd, 1) := by decide +kernel
theorem dX12_posts_64 : decode cX12_posts 64 = .ok (.istore 5, 2) := by decide +kernel
theorem dX12_posts_66 : decode cX12_posts 66 = .ok (.aload_n 0, 1) := by decide +kernel
theorem dX12_posts_67 : decode cX12_posts 67 = .ok (.iload 5, 2) := by decide +kernel
theorem dX12_posts_69 : decode cX12_posts 69 = .ok (.iload_n 3, 1) := by decide +kernel
theorem dX12_posts_70 : decode cX12_posts 70 = .ok (.invokevirtual 201, 3) := by decide +kernel
theorem dX12_posts_73 : decode cX12_posts 73 = .ok (.ifCond .ne 6, 3) := by decide +kernel
theorem dX12_posts_76 : decode cX12_posts 76 = .ok (.ldc 64, 2) := by decide +kernel
theorem dX12_posts_78 : decode cX12_posts 78 = .ok (.ireturn, 1) := by decide +kernel
theorem dX12_posts_79 : decode cX12_posts 79 = .ok (.aload_n 0, 1) := by decide +kernel
theorem dX12_posts_80 : decode cX12_posts 80 = .ok (.getfield 19, 3) := by decide +kernel
theorem dX12_posts_83 : decode cX12_posts 83 = .ok (.iconst 1, 1) := by decide +kernel
theorem dX12_posts_84 : decode cX12_posts 84 = .ok (.iaload, 1) := by decide +kernel
theorem dX12_posts_85 : decode cX12_posts 85 = .ok (.iload_n 3, 1) := by decide +kernel
theorem dX12_posts_86 : decode cX12_posts 86 = .ok (.iadd, 1) := by decide +kernel
theorem dX12_posts_87 : decode cX12_posts 87 = .ok (.sipush 9999, 3) := by decide +kernel
theorem dX12_posts_90 : decode cX12_posts 90 = .ok (.if_icmp .le 6, 3) := by decide +kernel
theorem dX12_posts_93 : decode cX12_posts 93 = .ok (.ldc 74, 2) := by decide +kernel
theorem dX12_posts_95 : decode cX12_posts 95 = .ok (.ireturn, 1) := by decide +kernel
theorem dX12_posts_96 : decode cX12_posts 96 = .ok (.aload_n 0, 1) := by decide +kernel
theorem dX12_posts_97 : decode cX12_posts 97 = .ok (.iconst 0, 1) := by decide +kernel
theorem dX12_posts_98 : decode cX12_posts 98 = .ok (.putfield 48, 3) := by decide +kernel
theorem dX12_posts_101 : decode cX12_posts 101 = .ok (.iconst 0, 1) := by decide +kernel
theorem dX12_posts_102 : decode cX12_posts 102 = .ok (.istore 6, 2) := by decide +kernel
theorem dX12_posts_104 : decode cX12_posts 104 = .ok (.iload 6, 2) := by decide +kernel
theorem dX12_posts_106 : decode cX12_posts 106 = .ok (.iload_n 3, 1) := by decide +kernel
theorem dX12_posts_107 : decode cX12_posts 107 = .ok (.if_icmp .ge 46, 3) := by decide +kernel
theorem dX12_posts_110 : decode cX12_posts 110 = .ok (.aload_n 0, 1) := by decide +kernel
theorem dX12_posts_111 : decode cX12_posts 111 = .ok (.aload_n 0, 1) := by decide +kernel
theorem dX12_posts_112 : decode cX12_posts 112 = .ok (.getfield 16, 3) := by decide +kernel
theorem dX12_posts_115 : decode cX12_posts 115 = .ok (.iload 5, 2) := by decide +kernel
theorem dX12_posts_117 : decode cX12_posts 117 = .ok (.iload 6, 2) := by decide +kernel
theorem dX12_posts_119 : decode cX12_posts 119 = .ok (.iadd, 1) := by decide +kernel
theorem dX12_posts_120 : decode cX12_posts 120 = .ok (.iaload, 1) := by decide +kernel
theorem dX12_posts_121 : decode cX12_posts 121 = .ok (.aload_n 0, 1) := by decide +kernel
theorem dX12_posts_122 : decode cX12_posts 122 = .ok (.getfield 19, 3) := by decide +kernel
theorem dX12_posts_125 : decode cX12_posts 125 = .ok (.iconst 2, 1) := by decide +kernel
theorem dX12_posts_126 : decode cX12_posts 126 = .ok (.iaload, 1) := by decide +kernel
theorem dX12_posts_127 : decode cX12_posts 127 = .ok (.invokevirtual 188, 3) := by decide +kernel
theorem dX12_posts_130 : decode cX12_posts 130 = .ok (.ifCond .eq 23, 3) := by decide +kernel
theorem dX12_posts_133 : decode cX12_posts 133 = .ok (.aload_n 0, 1) := by decide +kernel
theorem dX12_posts_134 : decode cX12_posts 134 = .ok (.aload_n 0, 1) := by decide +kernel
theorem dX12_posts_135 : decode cX12_posts 135 = .ok (.getfield 16, 3) := by decide +kernel
theorem dX12_posts_138 : decode cX12_posts 138 = .ok (.iload 5, 2) := by decide +kernel
theorem dX12_posts_140 : decode cX12_posts 140 = .ok (.iload 6, 2) := by decide +kernel
theorem dX12_posts_142 : decode cX12_posts 142 = .ok (.iadd, 1) := by decide +kernel
theorem dX12_posts_143 : decode cX12_posts 143 = .ok (.iaload, 1) := by decide +kernel
theorem dX12_posts_144 : decode cX12_posts 144 = .ok (.invokevirtual 192, 3) := by decide +kernel
theorem dX12_posts_147 : decode cX12_posts 147 = .ok (.iinc 6 1, 3) := by decide +kernel
theorem dX12_posts_150 : decode cX12_posts 150 = .ok (.goto (-46), 3) := by decide +kernel
theorem dX12_posts_153 : decode cX12_posts 153 = .ok (.iload 6, 2) := by decide +kernel
theorem dX12_posts_155 : decode cX12_posts 155 = .ok (.ireturn, 1) := by decide +kernel
theorem dX12_lots_0 : decode cX12_lots 0 = .ok (.aload_n 0, 1) := by decide +kernel
theorem dX12_lots_1 : decode cX12_lots 1 = .ok (.iconst 0, 1) := by decide +kernel
theorem dX12_lots_2 : decode cX12_lots 2 = .ok (.putfield 44, 3) := by decide +kernel
theorem dX12_lots_5 : decode cX12_lots 5 = .ok (.aload_n 0, 1) := by decide +kernel
theorem dX12_lots_6 : decode cX12_lots 6 = .ok (.invokevirtual 180, 3) := by decide +kernel
theorem dX12_lots_9 : decode cX12_lots 9 = .ok (.ifCond .ne 6, 3) := by decide +kernel
theorem dX12_lots_12 : decode cX12_lots 12 = .ok (.ldc 184, 2) := by decide +kernel
theorem dX12_lots_14 : decode cX12_lots 14 = .ok (.ireturn, 1) := by decide +kernel
theorem dX12_lots_15 : decode cX12_lots 15 = .ok (.aload_n 0, 1) := by decide +kernel
theorem dX12_lots_16 : decode cX12_lots 16 = .ok (.iload_n 1, 1) := by decide +kernel
theorem dX12_lots_17 : decode cX12_lots 17 = .ok (.invokevirtual 185, 3) := by decide +kernel
theorem dX12_lots_20 : decode cX12_lots 20 = .ok (.ifCond .eq 15, 3) := by decide +kernel
theorem dX12_lots_23 : decode cX12_lots 23 = .ok (.iload_n 2, 1) := by decide +kernel
theorem dX12_lots_24 : decode cX12_lots 24 = .ok (.i2l, 1) := by decide +kernel
theorem dX12_lots_25 : decode cX12_lots 25 = .ok (.lconst 1, 1) := by decide +kernel
theorem dX12_lots_26 : decode cX12_lots 26 = .ok (.ldc2_w 204, 3) := by decide +kernel
theorem dX12_lots_29 : decode cX12_lots 29 = .ok (.invokestatic 54, 3) := by decide +kernel
theorem dX12_lots_32 : decode cX12_lots 32 = .ok (.ifCond .ne 6, 3) := by decide +kernel
theorem dX12_lots_35 : decode cX12_lots 35 = .ok (.ldc 64, 2) := by decide +kernel
theorem dX12_lots_37 : decode cX12_lots 37 = .ok (.ireturn, 1) := by decide +kernel
theorem dX12_lots_38 : decode cX12_lots 38 = .ok (.aload_n 0, 1) := by decide +kernel
theorem dX12_lots_39 : decode cX12_lots 39 = .ok (.getfield 19, 3) := by decide +kernel
theorem dX12_lots_42 : decode cX12_lots 42 = .ok (.iconst 1, 1) := by decide +kernel
theorem dX12_lots_43 : decode cX12_lots 43 = .ok (.iaload, 1) := by decide +kernel
theorem dX12_lots_44 : decode cX12_lots 44 = .ok (.sipush 9999, 3) := by decide +kernel
theorem dX12_lots_47 : decode cX12_lots 47 = .ok (.if_icmp .ne 6, 3) := by decide +kernel
theorem dX12_lots_50 : decode cX12_lots 50 = .ok (.ldc 74, 2) := by decide +kernel
theorem dX12_lots_52 : decode cX12_lots 52 = .ok (.ireturn, 1) := by decide +kernel
theorem dX12_lots_53 : decode cX12_lots 53 = .ok (.aload_n 0, 1) := by decide +kernel
theorem dX12_lots_54 : decode cX12_lots 54 = .ok (.iload_n 1, 1) := by decide +kernel
theorem dX12_lots_55 : decode cX12_lots 55 = .ok (.aload_n 0, 1) := by decide +kernel
theorem dX12_lots_56 : decode cX12_lots 56 = .ok (.getfield 19, 3) := by decide +kernel
theorem dX12_lots_59 : decode cX12_lots 59 = .ok (.iconst 2, 1) := by decide +kernel
theorem dX12_lots_60 : decode cX12_lots 60 = .ok (.iaload, 1) := by decide +kernel
theorem dX12_lots_61 : decode cX12_lots 61 = .ok (.iconst (-1), 1) := by decide +kernel
theorem dX12_lots_62 : decode cX12_lots 62 = .ok (.iconst 0, 1) := by decide +kernel
theorem dX12_lots_63 : decode cX12_lots 63 = .ok (.invokevirtual 173, 3) := by decide +kernel
theorem dX12_lots_66 : decode cX12_lots 66 = .ok (.istore_n 3, 1) := by decide +kernel
theorem dX12_lots_67 : decode cX12_lots 67 = .ok (.iload_n 2, 1) := by decide +kernel
theorem dX12_lots_68 : decode cX12_lots 68 = .ok (.i2l, 1) := by decide +kernel
theorem dX12_lots_69 : decode cX12_lots 69 = .ok (.lstore 4, 2) := by decide +kernel
theorem dX12_lots_71 : decode cX12_lots 71 = .ok (.iconst 0, 1) := by decide +kernel
theorem dX12_lots_72 : decode cX12_lots 72 = .ok (.istore 6, 2) := by decide +kernel
theorem dX12_lots_74 : decode cX12_lots 74 = .ok (.iload 6, 2) := by decide +kernel
theorem dX12_lots_76 : decode cX12_lots 76 = .ok (.aload_n 0, 1) := by decide +kernel
theorem dX12_lots_77 : decode cX12_lots 77 = .ok (.getfield 19, 3) := by decide +kernel
theorem dX12_lots_80 : decode cX12_lots 80 = .ok (.iconst 0, 1) := by decide +kernel
theorem dX12_lots_81 : decode cX12_lots 81 = .ok (.iaload, 1) := by decide +kernel
theorem dX12_lots_82 : decode cX12_lots 82 = .ok (.if_icmp .ge 61, 3) := by decide +kernel
theorem dX12_lots_85 : decode cX12_lots 85 = .ok (.aload_n 0, 1) := by decide +kernel
theorem dX12_lots_86 : decode cX12_lots 86 = .ok (.iload 6, 2) := by decide +kernel
theorem dX12_lots_88 : decode cX12_lots 88 = .ok (.iconst 0, 1) := by decide +kernel
theorem dX12_lots_89 : decode cX12_lots 89 = .ok (.invokevirtual 163, 3) := by decide +kernel
theorem dX12_lots_92 : decode cX12_lots 92 = .ok (.iconst 3, 1) := by decide +kernel
theorem dX12_lots_93 : decode cX12_lots 93 = .ok (.if_icmp .ne 44, 3) := by decide +kernel
theorem dX12_lots_96 : decode cX12_lots 96 = .ok (.lload 4, 2) := by decide +kernel
theorem dX12_lots_98 : decode cX12_lots 98 = .ok (.ldc2_w 206, 3) := by decide +kernel
theorem dX12_lots_101 : decode cX12_lots 101 = .ok (.lmul, 1) := by decide +kernel
theorem dX12_lots_102 : decode cX12_lots 102 = .ok (.ldc2_w 208, 3) := by decide +kernel
theorem dX12_lots_105 : decode cX12_lots 105 = .ok (.lrem, 1) := by decide +kernel
theorem dX12_lots_106 : decode cX12_lots 106 = .ok (.lstore 4, 2) := by decide +kernel
theorem dX12_lots_108 : decode cX12_lots 108 = .ok (.iload_n 3, 1) := by decide +kernel
theorem dX12_lots_109 : decode cX12_lots 109 = .ok (.lload 4, 2) := by decide +kernel
theorem dX12_lots_111 : decode cX12_lots 111 = .ok (.ldc2_w 210, 3) := by decide +kernel
theorem dX12_lots_114 : decode cX12_lots 114 = .ok (.lrem, 1) := by decide +kernel
theorem dX12_lots_115 : decode cX12_lots 115 = .ok (.aload_n 0, 1) := by decide +kernel
theorem dX12_lots_116 : decode cX12_lots 116 = .ok (.iload 6, 2) := by decide +kernel
theorem dX12_lots_118 : decode cX12_lots 118 = .ok (.iconst 2, 1) := by decide +kernel
theorem dX12_lots_119 : decode cX12_lots 119 = .ok (.invokevirtual 163, 3) := by decide +kernel
theorem dX12_lots_122 : decode cX12_lots 122 = .ok (.i2l, 1) := by decide +kernel
theorem dX12_lots_123 : decode cX12_lots 123 = .ok (.lcmp, 1) := by decide +kernel
theorem dX12_lots_124 : decode cX12_lots 124 = .ok (.ifCond .ge 10, 3) := by decide +kernel
theorem dX12_lots_127 : decode cX12_lots 127 = .ok (.iconst 1, 1) := by decide +kernel
theorem dX12_lots_128 : decode cX12_lots 128 = .ok (.iload 6, 2) := by decide +kernel
theorem dX12_lots_130 : decode cX12_lots 130 = .ok (.ishl, 1) := by decide +kernel
theorem dX12_lots_131 : decode cX12_lots 131 = .ok (.goto 4, 3) := by decide +kernel
theorem dX12_lots_134 : decode cX12_lots 134 = .ok (.iconst 0, 1) := by decide +kernel
theorem dX12_lots_135 : decode cX12_lots 135 = .ok (.ixor, 1) := by decide +kernel
theorem dX12_lots_136 : decode cX12_lots 136 = .ok (.istore_n 3, 1) := by decide +kernel
theorem dX12_lots_137 : decode cX12_lots 137 = .ok (.iinc 6 1, 3) := by decide +kernel
theorem dX12_lots_140 : decode cX12_lots 140 = .ok (.goto (-66), 3) := by decide +kernel
theorem dX12_lots_143 : decode cX12_lots 143 = .ok (.aload_n 0, 1) := by decide +kernel
theorem dX12_lots_144 : decode cX12_lots 144 = .ok (.iload_n 3, 1) := by decide +kernel
theorem dX12_lots_145 : decode cX12_lots 145 = .ok (.invokevirtual 192, 3) := by decide +kernel
theorem dX12_lots_148 : decode cX12_lots 148 = .ok (.iload_n 3, 1) := by decide +kernel
theorem dX12_lots_149 : decode cX12_lots 149 = .ok (.ireturn, 1) := by decide +kernel
theorem dX12_undo_0 : decode cX12_undo 0 = .ok (.aload_n 0, 1) := by decide +kernel
theorem dX12_undo_1 : decode cX12_undo 1 = .ok (.iconst 0, 1) := by decide +kernel
theorem dX12_undo_2 : decode cX12_undo 2 = .ok (.putfield 44, 3) := by decide +kernel
theorem dX12_undo_5 : decode cX12_undo 5 = .ok (.aload_n 0, 1) := by decide +kernel
theorem dX12_undo_6 : decode cX12_undo 6 = .ok (.getfield 157, 3) := by decide +kernel
theorem dX12_undo_9 : decode cX12_undo 9 = .ok (.ifCond .ne 6, 3) := by decide +kernel
theorem dX12_undo_12 : decode cX12_undo 12 = .ok (.ldc 184, 2) := by decide +kernel
theorem dX12_undo_14 : decode cX12_undo 14 = .ok (.ireturn, 1) := by decide +kernel
theorem dX12_undo_15 : decode cX12_undo 15 = .ok (.aload_n 0, 1) := by decide +kernel
theorem dX12_undo_16 : decode cX12_undo 16 = .ok (.dup, 1) := by decide +kernel
theorem dX12_undo_17 : decode cX12_undo 17 = .ok (.getfield 157, 3) := by decide +kernel
theorem dX12_undo_20 : decode cX12_undo 20 = .ok (.iconst 1, 1) := by decide +kernel
theorem dX12_undo_21 : decode cX12_undo 21 = .ok (.isub, 1) := by decide +kernel
theorem dX12_undo_22 : decode cX12_undo 22 = .ok (.putfield 157, 3) := by decide +kernel
theorem dX12_undo_25 : decode cX12_undo 25 = .ok (.iconst 0, 1) := by decide +kernel
theorem dX12_undo_26 : decode cX12_undo 26 = .ok (.istore_n 1, 1) := by decide +kernel
theorem dX12_undo_27 : decode cX12_undo 27 = .ok (.iload_n 1, 1) := by decide +kernel
theorem dX12_undo_28 : decode cX12_undo 28 = .ok (.bipush 21, 2) := by decide +kernel
theorem dX12_undo_30 : decode cX12_undo 30 = .ok (.if_icmp .ge 29, 3) := by decide +kernel
theorem dX12_undo_33 : decode cX12_undo 33 = .ok (.aload_n 0, 1) := by decide +kernel
theorem dX12_undo_34 : decode cX12_undo 34 = .ok (.getfield 19, 3) := by decide +kernel
theorem dX12_undo_37 : decode cX12_undo 37 = .ok (.iload_n 1, 1) := by decide +kernel
theorem dX12_undo_38 : decode cX12_undo 38 = .ok (.aload_n 0, 1) := by decide +kernel
theorem dX12_undo_39 : decode cX12_undo 39 = .ok (.getfield 25, 3) := by decide +kernel
theorem dX12_undo_42 : decode cX12_undo 42 = .ok (.bipush 21, 2) := by decide +kernel
theorem dX12_undo_44 : decode cX12_undo 44 = .ok (.aload_n 0, 1) := by decide +kernel
theorem dX12_undo_45 : decode cX12_undo 45 = .ok (.getfield 157, 3) := by decide +kernel
theorem dX12_undo_48 : decode cX12_undo 48 = .ok (.imul, 1) := by decide +kernel
theorem dX12_undo_49 : decode cX12_undo 49 = .ok (.iload_n 1, 1) := by decide +kernel
theorem dX12_undo_50 : decode cX12_undo 50 = .ok (.iadd, 1) := by decide +kernel
theorem dX12_undo_51 : decode cX12_undo 51 = .ok (.iaload, 1) := by decide +kernel
theorem dX12_undo_52 : decode cX12_undo 52 = .ok (.iastore, 1) := by decide +kernel
theorem dX12_undo_53 : decode cX12_undo 53 = .ok (.iinc 1 1, 3) := by decide +kernel
theorem dX12_undo_56 : decode cX12_undo 56 = .ok (.goto (-29), 3) := by decide +kernel
theorem dX12_undo_59 : decode cX12_undo 59 = .ok (.aload_n 0, 1) := by decide +kernel
theorem dX12_undo_60 : decode cX12_undo 60 = .ok (.getfield 157, 3) := by decide +kernel
theorem dX12_undo_63 : decode cX12_undo 63 = .ok (.ireturn, 1) := by decide +kernel
theorem dX12_person_0 : decode cX12_person 0 = .ok (.aload_n 0, 1) := by decide +kernel
