theorem d_CLocals_typeOf_60 : decode b_CLocals_typeOf 60 = .ok (.goto (-52), 3) := by decide +kernel
theorem d_CLocals_typeOf_63 : decode b_CLocals_typeOf 63 = .ok (.iconst 0, 1) := by decide +kernel
theorem d_CLocals_typeOf_64 : decode b_CLocals_typeOf 64 = .ok (.ireturn, 1) := by decide +kernel
theorem d_CStack_choose_0 : decode b_CStack_choose 0 = .ok (.aload_n 0, 1) := by decide +kernel
theorem d_CStack_choose_1 : decode b_CStack_choose 1 = .ok (.bipush 127, 2) := by decide +kernel
theorem d_CStack_choose_3 : decode b_CStack_choose 3 = .ok (.invokevirtual 65, 3) := by decide +kernel
theorem d_CStack_choose_6 : decode b_CStack_choose 6 = .ok (.pop, 1) := by decide +kernel
theorem d_CStack_choose_7 : decode b_CStack_choose 7 = .ok (.aload_n 0, 1) := by decide +kernel
theorem d_CStack_choose_8 : decode b_CStack_choose 8 = .ok (.invokevirtual 57, 3) := by decide +kernel
theorem d_CStack_choose_11 : decode b_CStack_choose 11 = .ok (.istore_n 1, 1) := by decide +kernel
theorem d_CStack_choose_12 : decode b_CStack_choose 12 = .ok (.aload_n 0, 1) := by decide +kernel
theorem d_CStack_choose_13 : decode b_CStack_choose 13 = .ok (.invokevirtual 57, 3) := by decide +kernel
theorem d_CStack_choose_16 : decode b_CStack_choose 16 = .ok (.istore_n 2, 1) := by decide +kernel
theorem d_CStack_choose_17 : decode b_CStack_choose 17 = .ok (.iload_n 1, 1) := by decide +kernel
theorem d_CStack_choose_18 : decode b_CStack_choose 18 = .ok (.invokestatic 114, 3) := by decide +kernel
theorem d_CStack_choose_21 : decode b_CStack_choose 21 = .ok (.ifCond .ne 10, 3) := by decide +kernel
theorem d_CStack_choose_24 : decode b_CStack_choose 24 = .ok (.iload_n 2, 1) := by decide +kernel
theorem d_CStack_choose_25 : decode b_CStack_choose 25 = .ok (.invokestatic 114, 3) := by decide +kernel
theorem d_CStack_choose_28 : decode b_CStack_choose 28 = .ok (.ifCond .eq 9, 3) := by decide +kernel
theorem d_CStack_choose_31 : decode b_CStack_choose 31 = .ok (.aload_n 0, 1) := by decide +kernel
theorem d_CStack_choose_32 : decode b_CStack_choose 32 = .ok (.bipush 7, 2) := by decide +kernel
theorem d_CStack_choose_34 : decode b_CStack_choose 34 = .ok (.invokevirtual 61, 3) := by decide +kernel
theorem d_CStack_choose_37 : decode b_CStack_choose 37 = .ok (.iload_n 1, 1) := by decide +kernel
theorem d_CStack_choose_38 : decode b_CStack_choose 38 = .ok (.iload_n 2, 1) := by decide +kernel
theorem d_CStack_choose_39 : decode b_CStack_choose 39 = .ok (.if_icmp .eq 16, 3) := by decide +kernel
theorem d_CStack_choose_42 : decode b_CStack_choose 42 = .ok (.iload_n 1, 1) := by decide +kernel
theorem d_CStack_choose_43 : decode b_CStack_choose 43 = .ok (.ifCond .eq 12, 3) := by decide +kernel
theorem d_CStack_choose_46 : decode b_CStack_choose 46 = .ok (.iload_n 2, 1) := by decide +kernel
theorem d_CStack_choose_47 : decode b_CStack_choose 47 = .ok (.ifCond .eq 8, 3) := by decide +kernel
theorem d_CStack_choose_50 : decode b_CStack_choose 50 = .ok (.aload_n 0, 1) := by decide +kernel
theorem d_CStack_choose_51 : decode b_CStack_choose 51 = .ok (.iconst 1, 1) := by decide +kernel
theorem d_CStack_choose_52 : decode b_CStack_choose 52 = .ok (.invokevirtual 61, 3) := by decide +kernel
theorem d_CStack_choose_55 : decode b_CStack_choose 55 = .ok (.aload_n 0, 1) := by decide +kernel
theorem d_CStack_choose_56 : decode b_CStack_choose 56 = .ok (.iload_n 1, 1) := by decide +kernel
theorem d_CStack_choose_57 : decode b_CStack_choose 57 = .ok (.ifCond .ne 7, 3) := by decide +kernel
theorem d_CStack_choose_60 : decode b_CStack_choose 60 = .ok (.iload_n 2, 1) := by decide +kernel
theorem d_CStack_choose_61 : decode b_CStack_choose 61 = .ok (.goto 4, 3) := by decide +kernel
theorem d_CStack_choose_64 : decode b_CStack_choose 64 = .ok (.iload_n 1, 1) := by decide +kernel
theorem d_CStack_choose_65 : decode b_CStack_choose 65 = .ok (.invokevirtual 78, 3) := by decide +kernel
theorem d_CStack_choose_68 : decode b_CStack_choose 68 = .ok (.return_, 1) := by decide +kernel
theorem d_CCode_carryOutAccess_0 : decode b_CCode_carryOutAccess 0 = .ok (.iload_n 1, 1) := by decide +kernel
theorem d_CCode_carryOutAccess_1 : decode b_CCode_carryOutAccess 1 = .ok (.bipush 40, 2) := by decide +kernel
theorem d_CCode_carryOutAccess_3 : decode b_CCode_carryOutAccess 3 = .ok (.isub, 1) := by decide +kernel
theorem d_CCode_carryOutAccess_4 : decode b_CCode_carryOutAccess 4 = .ok (.istore_n 2, 1) := by decide +kernel
theorem d_CCode_carryOutAccess_5 : decode b_CCode_carryOutAccess 5 = .ok (.iload_n 2, 1) := by decide +kernel
theorem d_CCode_carryOutAccess_6 : decode b_CCode_carryOutAccess 6 = .ok (.ifCond .lt 19, 3) := by decide +kernel
theorem d_CCode_carryOutAccess_9 : decode b_CCode_carryOutAccess 9 = .ok (.iload_n 2, 1) := by decide +kernel
theorem d_CCode_carryOutAccess_10 : decode b_CCode_carryOutAccess 10 = .ok (.getstatic 277, 3) := by decide +kernel
theorem d_CCode_carryOutAccess_13 : decode b_CCode_carryOutAccess 13 = .ok (.arraylength, 1) := by decide +kernel
theorem d_CCode_carryOutAccess_14 : decode b_CCode_carryOutAccess 14 = .ok (.if_icmp .ge 11, 3) := by decide +kernel
theorem d_CCode_carryOutAccess_17 : decode b_CCode_carryOutAccess 17 = .ok (.getstatic 277, 3) := by decide +kernel
theorem d_CCode_carryOutAccess_20 : decode b_CCode_carryOutAccess 20 = .ok (.iload_n 2, 1) := by decide +kernel
theorem d_CCode_carryOutAccess_21 : decode b_CCode_carryOutAccess 21 = .ok (.iaload, 1) := by decide +kernel
theorem d_CCode_carryOutAccess_22 : decode b_CCode_carryOutAccess 22 = .ok (.goto 4, 3) := by decide +kernel
theorem d_CCode_carryOutAccess_25 : decode b_CCode_carryOutAccess 25 = .ok (.iconst 0, 1) := by decide +kernel
theorem d_CCode_carryOutAccess_26 : decode b_CCode_carryOutAccess 26 = .ok (.istore_n 3, 1) := by decide +kernel
theorem d_CCode_carryOutAccess_27 : decode b_CCode_carryOutAccess 27 = .ok (.iload_n 1, 1) := by decide +kernel
theorem d_CCode_carryOutAccess_28 : decode b_CCode_carryOutAccess 28 = .ok (.bipush 54, 2) := by decide +kernel
theorem d_CCode_carryOutAccess_30 : decode b_CCode_carryOutAccess 30 = .ok (.if_icmp .ge 24, 3) := by decide +kernel
theorem d_CCode_carryOutAccess_33 : decode b_CCode_carryOutAccess 33 = .ok (.aload_n 0, 1) := by decide +kernel
theorem d_CCode_carryOutAccess_34 : decode b_CCode_carryOutAccess 34 = .ok (.getfield 35, 3) := by decide +kernel
theorem d_CCode_carryOutAccess_37 : decode b_CCode_carryOutAccess 37 = .ok (.bipush 127, 2) := by decide +kernel
theorem d_CCode_carryOutAccess_39 : decode b_CCode_carryOutAccess 39 = .ok (.invokevirtual 230, 3) := by decide +kernel
theorem d_CCode_carryOutAccess_42 : decode b_CCode_carryOutAccess 42 = .ok (.pop, 1) := by decide +kernel
theorem d_CCode_carryOutAccess_43 : decode b_CCode_carryOutAccess 43 = .ok (.aload_n 0, 1) := by decide +kernel
theorem d_CCode_carryOutAccess_44 : decode b_CCode_carryOutAccess 44 = .ok (.getfield 35, 3) := by decide +kernel
theorem d_CCode_carryOutAccess_47 : decode b_CCode_carryOutAccess 47 = .ok (.iload_n 3, 1) := by decide +kernel
theorem d_CCode_carryOutAccess_48 : decode b_CCode_carryOutAccess 48 = .ok (.invokevirtual 221, 3) := by decide +kernel
theorem d_CCode_carryOutAccess_51 : decode b_CCode_carryOutAccess 51 = .ok (.goto 22, 3) := by decide +kernel
theorem d_CCode_carryOutAccess_54 : decode b_CCode_carryOutAccess 54 = .ok (.aload_n 0, 1) := by decide +kernel
theorem d_CCode_carryOutAccess_55 : decode b_CCode_carryOutAccess 55 = .ok (.getfield 35, 3) := by decide +kernel
theorem d_CCode_carryOutAccess_58 : decode b_CCode_carryOutAccess 58 = .ok (.iload_n 3, 1) := by decide +kernel
theorem d_CCode_carryOutAccess_59 : decode b_CCode_carryOutAccess 59 = .ok (.invokevirtual 230, 3) := by decide +kernel
theorem d_CCode_carryOutAccess_62 : decode b_CCode_carryOutAccess 62 = .ok (.pop, 1) := by decide +kernel
theorem d_CCode_carryOutAccess_63 : decode b_CCode_carryOutAccess 63 = .ok (.aload_n 0, 1) := by decide +kernel
theorem d_CCode_carryOutAccess_64 : decode b_CCode_carryOutAccess 64 = .ok (.getfield 35, 3) := by decide +kernel
theorem d_CCode_carryOutAccess_67 : decode b_CCode_carryOutAccess 67 = .ok (.bipush 127, 2) := by decide +kernel
theorem d_CCode_carryOutAccess_69 : decode b_CCode_carryOutAccess 69 = .ok (.invokevirtual 230, 3) := by decide +kernel
theorem d_CCode_carryOutAccess_72 : decode b_CCode_carryOutAccess 72 = .ok (.pop, 1) := by decide +kernel
theorem d_CCode_carryOutAccess_73 : decode b_CCode_carryOutAccess 73 = .ok (.return_, 1) := by decide +kernel
theorem d_CCode_carryOutReference_0 : decode b_CCode_carryOutReference 0 = .ok (.iload_n 1, 1) := by decide +kernel
theorem d_CCode_carryOutReference_1 : decode b_CCode_carryOutReference 1 = .ok (.lookupswitch 235 #[(37, 59), (38, 90), (208, 122), (209, 133), (271, 152), (273, 193)], 59) := by decide +kernel
theorem d_CCode_carryOutReference_60 : decode b_CCode_carryOutReference 60 = .ok (.aload_n 0, 1) := by decide +kernel
theorem d_CCode_carryOutReference_61 : decode b_CCode_carryOutReference 61 = .ok (.getfield 35, 3) := by decide +kernel
theorem d_CCode_carryOutReference_64 : decode b_CCode_carryOutReference 64 = .ok (.bipush 127, 2) := by decide +kernel
theorem d_CCode_carryOutReference_66 : decode b_CCode_carryOutReference 66 = .ok (.invokevirtual 230, 3) := by decide +kernel
theorem d_CCode_carryOutReference_69 : decode b_CCode_carryOutReference 69 = .ok (.pop, 1) := by decide +kernel
theorem d_CCode_carryOutReference_70 : decode b_CCode_carryOutReference 70 = .ok (.aload_n 0, 1) := by decide +kernel
theorem d_CCode_carryOutReference_71 : decode b_CCode_carryOutReference 71 = .ok (.getfield 35, 3) := by decide +kernel
theorem d_CCode_carryOutReference_74 : decode b_CCode_carryOutReference 74 = .ok (.aload_n 0, 1) := by decide +kernel
theorem d_CCode_carryOutReference_75 : decode b_CCode_carryOutReference 75 = .ok (.getfield 26, 3) := by decide +kernel
theorem d_CCode_carryOutReference_78 : decode b_CCode_carryOutReference 78 = .ok (.getfield 168, 3) := by decide +kernel
theorem d_CCode_carryOutReference_81 : decode b_CCode_carryOutReference 81 = .ok (.iload_n 2, 1) := by decide +kernel
theorem d_CCode_carryOutReference_82 : decode b_CCode_carryOutReference 82 = .ok (.invokevirtual 181, 3) := by decide +kernel
theorem d_CCode_carryOutReference_85 : decode b_CCode_carryOutReference 85 = .ok (.invokevirtual 221, 3) := by decide +kernel
theorem d_CCode_carryOutReference_88 : decode b_CCode_carryOutReference 88 = .ok (.goto 148, 3) := by decide +kernel
theorem d_CCode_carryOutReference_91 : decode b_CCode_carryOutReference 91 = .ok (.aload_n 0, 1) := by decide +kernel
theorem d_CCode_carryOutReference_92 : decode b_CCode_carryOutReference 92 = .ok (.getfield 35, 3) := by decide +kernel
theorem d_CCode_carryOutReference_95 : decode b_CCode_carryOutReference 95 = .ok (.aload_n 0, 1) := by decide +kernel
theorem d_CCode_carryOutReference_96 : decode b_CCode_carryOutReference 96 = .ok (.getfield 26, 3) := by decide +kernel
theorem d_CCode_carryOutReference_99 : decode b_CCode_carryOutReference 99 = .ok (.getfield 168, 3) := by decide +kernel
theorem d_CCode_carryOutReference_102 : decode b_CCode_carryOutReference 102 = .ok (.iload_n 2, 1) := by decide +kernel
theorem d_CCode_carryOutReference_103 : decode b_CCode_carryOutReference 103 = .ok (.invokevirtual 181, 3) := by decide +kernel
theorem d_CCode_carryOutReference_106 : decode b_CCode_carryOutReference 106 = .ok (.invokevirtual 230, 3) := by decide +kernel
theorem d_CCode_carryOutReference_109 : decode b_CCode_carryOutReference 109 = .ok (.pop, 1) := by decide +kernel
theorem d_CCode_carryOutReference_110 : decode b_CCode_carryOutReference 110 = .ok (.aload_n 0, 1) := by decide +kernel
theorem d_CCode_carryOutReference_111 : decode b_CCode_carryOutReference 111 = .ok (.getfield 35, 3) := by decide +kernel
theorem d_CCode_carryOutReference_114 : decode b_CCode_carryOutReference 114 = .ok (.bipush 127, 2) := by decide +kernel
theorem d_CCode_carryOutReference_116 : decode b_CCode_carryOutReference 116 = .ok (.invokevirtual 230, 3) := by decide +kernel
theorem d_CCode_carryOutReference_119 : decode b_CCode_carryOutReference 119 = .ok (.pop, 1) := by decide +kernel
theorem d_CCode_carryOutReference_120 : decode b_CCode_carryOutReference 120 = .ok (.goto 116, 3) := by decide +kernel
theorem d_CCode_carryOutReference_123 : decode b_CCode_carryOutReference 123 = .ok (.aload_n 0, 1) := by decide +kernel
theorem d_CCode_carryOutReference_124 : decode b_CCode_carryOutReference 124 = .ok (.getfield 35, 3) := by decide +kernel
theorem d_CCode_carryOutReference_127 : decode b_CCode_carryOutReference 127 = .ok (.iload_n 2, 1) := by decide +kernel
theorem d_CCode_carryOutReference_128 : decode b_CCode_carryOutReference 128 = .ok (.invokevirtual 221, 3) := by decide +kernel
theorem d_CCode_carryOutReference_131 : decode b_CCode_carryOutReference 131 = .ok (.goto 105, 3) := by decide +kernel
theorem d_CCode_carryOutReference_134 : decode b_CCode_carryOutReference 134 = .ok (.aload_n 0, 1) := by decide +kernel
theorem d_CCode_carryOutReference_135 : decode b_CCode_carryOutReference 135 = .ok (.getfield 35, 3) := by decide +kernel
theorem d_CCode_carryOutReference_138 : decode b_CCode_carryOutReference 138 = .ok (.invokevirtual 280, 3) := by decide +kernel
theorem d_CCode_carryOutReference_141 : decode b_CCode_carryOutReference 141 = .ok (.aload_n 0, 1) := by decide +kernel
theorem d_CCode_carryOutReference_142 : decode b_CCode_carryOutReference 142 = .ok (.getfield 35, 3) := by decide +kernel
theorem d_CCode_carryOutReference_145 : decode b_CCode_carryOutReference 145 = .ok (.bipush 127, 2) := by decide +kernel
theorem d_CCode_carryOutReference_147 : decode b_CCode_carryOutReference 147 = .ok (.invokevirtual 221, 3) := by decide +kernel
theorem d_CCode_carryOutReference_150 : decode b_CCode_carryOutReference 150 = .ok (.goto 86, 3) := by decide +kernel
theorem d_CCode_carryOutReference_153 : decode b_CCode_carryOutReference 153 = .ok (.aload_n 0, 1) := by decide +kernel
theorem d_CCode_carryOutReference_154 : decode b_CCode_carryOutReference 154 = .ok (.getfield 35, 3) := by decide +kernel
theorem d_CCode_carryOutReference_157 : decode b_CCode_carryOutReference 157 = .ok (.bipush 127, 2) := by decide +kernel
theorem d_CCode_carryOutReference_159 : decode b_CCode_carryOutReference 159 = .ok (.invokevirtual 230, 3) := by decide +kernel
theorem d_CCode_carryOutReference_162 : decode b_CCode_carryOutReference 162 = .ok (.pop, 1) := by decide +kernel
theorem d_CCode_carryOutReference_163 : decode b_CCode_carryOutReference 163 = .ok (.aload_n 0, 1) := by decide +kernel
theorem d_CCode_carryOutReference_164 : decode b_CCode_carryOutReference 164 = .ok (.getfield 35, 3) := by decide +kernel
theorem d_CCode_carryOutReference_167 : decode b_CCode_carryOutReference 167 = .ok (.aload_n 0, 1) := by decide +kernel
theorem d_CCode_carryOutReference_168 : decode b_CCode_carryOutReference 168 = .ok (.getfield 26, 3) := by decide +kernel
theorem d_CCode_carryOutReference_171 : decode b_CCode_carryOutReference 171 = .ok (.getfield 168, 3) := by decide +kernel
theorem d_CCode_carryOutReference_174 : decode b_CCode_carryOutReference 174 = .ok (.iload_n 2, 1) := by decide +kernel
theorem d_CCode_carryOutReference_175 : decode b_CCode_carryOutReference 175 = .ok (.invokevirtual 181, 3) := by decide +kernel
theorem d_CCode_carryOutReference_178 : decode b_CCode_carryOutReference 178 = .ok (.invokevirtual 230, 3) := by decide +kernel
theorem d_CCode_carryOutReference_181 : decode b_CCode_carryOutReference 181 = .ok (.pop, 1) := by decide +kernel
theorem d_CCode_carryOutReference_182 : decode b_CCode_carryOutReference 182 = .ok (.aload_n 0, 1) := by decide +kernel
theorem d_CCode_carryOutReference_183 : decode b_CCode_carryOutReference 183 = .ok (.getfield 35, 3) := by decide +kernel
theorem d_CCode_carryOutReference_186 : decode b_CCode_carryOutReference 186 = .ok (.bipush 127, 2) := by decide +kernel
theorem d_CCode_carryOutReference_188 : decode b_CCode_carryOutReference 188 = .ok (.invokevirtual 221, 3) := by decide +kernel
theorem d_CCode_carryOutReference_191 : decode b_CCode_carryOutReference 191 = .ok (.goto 45, 3) := by decide +kernel
theorem d_CCode_carryOutReference_194 : decode b_CCode_carryOutReference 194 = .ok (.aload_n 0, 1) := by decide +kernel
theorem d_CCode_carryOutReference_195 : decode b_CCode_carryOutReference 195 = .ok (.getfield 35, 3) := by decide +kernel
theorem d_CCode_carryOutReference_198 : decode b_CCode_carryOutReference 198 = .ok (.bipush 127, 2) := by decide +kernel
theorem d_CCode_carryOutReference_200 : decode b_CCode_carryOutReference 200 = .ok (.invokevirtual 230, 3) := by decide +kernel
theorem d_CCode_carryOutReference_203 : decode b_CCode_carryOutReference 203 = .ok (.pop, 1) := by decide +kernel
theorem d_CCode_carryOutReference_204 : decode b_CCode_carryOutReference 204 = .ok (.aload_n 0, 1) := by decide +kernel
theorem d_CCode_carryOutReference_205 : decode b_CCode_carryOutReference 205 = .ok (.getfield 35, 3) := by decide +kernel
theorem d_CCode_carryOutReference_208 : decode b_CCode_carryOutReference 208 = .ok (.aload_n 0, 1) := by decide +kernel
theorem d_CCode_carryOutReference_209 : decode b_CCode_carryOutReference 209 = .ok (.getfield 26, 3) := by decide +kernel
theorem d_CCode_carryOutReference_212 : decode b_CCode_carryOutReference 212 = .ok (.getfield 168, 3) := by decide +kernel
theorem d_CCode_carryOutReference_215 : decode b_CCode_carryOutReference 215 = .ok (.iload_n 2, 1) := by decide +kernel
theorem d_CCode_carryOutReference_216 : decode b_CCode_carryOutReference 216 = .ok (.invokevirtual 181, 3) := by decide +kernel
theorem d_CCode_carryOutReference_219 : decode b_CCode_carryOutReference 219 = .ok (.invokevirtual 230, 3) := by decide +kernel
theorem d_CCode_carryOutReference_222 : decode b_CCode_carryOutReference 222 = .ok (.pop, 1) := by decide +kernel
theorem d_CCode_carryOutReference_223 : decode b_CCode_carryOutReference 223 = .ok (.aload_n 0, 1) := by decide +kernel
theorem d_CCode_carryOutReference_224 : decode b_CCode_carryOutReference 224 = .ok (.getfield 35, 3) := by decide +kernel
theorem d_CCode_carryOutReference_227 : decode b_CCode_carryOutReference 227 = .ok (.bipush 127, 2) := by decide +kernel
theorem d_CCode_carryOutReference_229 : decode b_CCode_carryOutReference 229 = .ok (.invokevirtual 230, 3) := by decide +kernel
theorem d_CCode_carryOutReference_232 : decode b_CCode_carryOutReference 232 = .ok (.pop, 1) := by decide +kernel
theorem d_CCode_carryOutReference_233 : decode b_CCode_carryOutReference 233 = .ok (.goto 3, 3) := by decide +kernel
theorem d_CCode_carryOutReference_236 : decode b_CCode_carryOutReference 236 = .ok (.return_, 1) := by decide +kernel
theorem d_CStack_takeReference_0 : decode b_CStack_takeReference 0 = .ok (.aload_n 0, 1) := by decide +kernel
theorem d_CStack_takeReference_1 : decode b_CStack_takeReference 1 = .ok (.invokevirtual 57, 3) := by decide +kernel
theorem d_CStack_takeReference_4 : decode b_CStack_takeReference 4 = .ok (.istore_n 1, 1) := by decide +kernel
theorem d_CStack_takeReference_5 : decode b_CStack_takeReference 5 = .ok (.iload_n 1, 1) := by decide +kernel
theorem d_CStack_takeReference_6 : decode b_CStack_takeReference 6 = .ok (.ifCond .eq 16, 3) := by decide +kernel
theorem d_CStack_takeReference_9 : decode b_CStack_takeReference 9 = .ok (.iload_n 1, 1) := by decide +kernel
theorem d_CStack_takeReference_10 : decode b_CStack_takeReference 10 = .ok (.invokestatic 114, 3) := by decide +kernel
theorem d_CStack_takeReference_13 : decode b_CStack_takeReference 13 = .ok (.ifCond .ne 9, 3) := by decide +kernel
theorem d_CStack_takeReference_16 : decode b_CStack_takeReference 16 = .ok (.aload_n 0, 1) := by decide +kernel
theorem d_CStack_takeReference_17 : decode b_CStack_takeReference 17 = .ok (.bipush 7, 2) := by decide +kernel
theorem d_CStack_takeReference_19 : decode b_CStack_takeReference 19 = .ok (.invokevirtual 61, 3) := by decide +kernel
theorem d_CStack_takeReference_22 : decode b_CStack_takeReference 22 = .ok (.return_, 1) := by decide +kernel
theorem d_CCode_finishInstruction_0 : decode b_CCode_finishInstruction 0 = .ok (.aload_n 0, 1) := by decide +kernel
theorem d_CCode_finishInstruction_1 : decode b_CCode_finishInstruction 1 = .ok (.iconst 1, 1) := by decide +kernel
theorem d_CCode_finishInstruction_2 : decode b_CCode_finishInstruction 2 = .ok (.putfield 52, 3) := by decide +kernel
theorem d_CCode_finishInstruction_5 : decode b_CCode_finishInstruction 5 = .ok (.aload_n 0, 1) := by decide +kernel
theorem d_CCode_finishInstruction_6 : decode b_CCode_finishInstruction 6 = .ok (.iconst 0, 1) := by decide +kernel
theorem d_CCode_finishInstruction_7 : decode b_CCode_finishInstruction 7 = .ok (.putfield 46, 3) := by decide +kernel
theorem d_CCode_finishInstruction_10 : decode b_CCode_finishInstruction 10 = .ok (.iload_n 1, 1) := by decide +kernel
theorem d_CCode_finishInstruction_11 : decode b_CCode_finishInstruction 11 = .ok (.ifCond .eq 11, 3) := by decide +kernel
theorem d_CCode_finishInstruction_14 : decode b_CCode_finishInstruction 14 = .ok (.aload_n 0, 1) := by decide +kernel
theorem d_CCode_finishInstruction_15 : decode b_CCode_finishInstruction 15 = .ok (.iconst 0, 1) := by decide +kernel
theorem d_CCode_finishInstruction_16 : decode b_CCode_finishInstruction 16 = .ok (.putfield 22, 3) := by decide +kernel
theorem d_CCode_finishInstruction_19 : decode b_CCode_finishInstruction 19 = .ok (.goto 18, 3) := by decide +kernel
theorem d_CCode_finishInstruction_22 : decode b_CCode_finishInstruction 22 = .ok (.aload_n 0, 1) := by decide +kernel
theorem d_CCode_finishInstruction_23 : decode b_CCode_finishInstruction 23 = .ok (.getfield 35, 3) := by decide +kernel
theorem d_CCode_finishInstruction_26 : decode b_CCode_finishInstruction 26 = .ok (.getfield 98, 3) := by decide +kernel
theorem d_CCode_finishInstruction_29 : decode b_CCode_finishInstruction 29 = .ok (.ifCond .ne 8, 3) := by decide +kernel
theorem d_CCode_finishInstruction_32 : decode b_CCode_finishInstruction 32 = .ok (.aload_n 0, 1) := by decide +kernel
theorem d_CCode_finishInstruction_33 : decode b_CCode_finishInstruction 33 = .ok (.iconst 2, 1) := by decide +kernel
theorem d_CCode_finishInstruction_34 : decode b_CCode_finishInstruction 34 = .ok (.putfield 22, 3) := by decide +kernel
theorem d_CCode_finishInstruction_37 : decode b_CCode_finishInstruction 37 = .ok (.return_, 1) := by decide +kernel
theorem d_CC_state_0 : decode b_CC_state 0 = .ok (.aload_n 0, 1) := by decide +kernel
theorem d_CC_state_1 : decode b_CC_state 1 = .ok (.getfield 21, 3) := by decide +kernel
theorem d_CC_state_4 : decode b_CC_state 4 = .ok (.getfield 83, 3) := by decide +kernel
theorem d_CC_state_7 : decode b_CC_state 7 = .ok (.ireturn, 1) := by decide +kernel
theorem d_CC_look_0 : decode b_CC_look 0 = .ok (.aload_n 0, 1) := by decide +kernel
theorem d_CC_look_1 : decode b_CC_look 1 = .ok (.getfield 21, 3) := by decide +kernel
theorem d_CC_look_4 : decode b_CC_look 4 = .ok (.invokevirtual 29, 3) := by decide +kernel
theorem d_CC_look_7 : decode b_CC_look 7 = .ok (.ifCond .eq 14, 3) := by decide +kernel
theorem d_CC_look_10 : decode b_CC_look 10 = .ok (.aload_n 0, 1) := by decide +kernel
theorem d_CC_look_11 : decode b_CC_look 11 = .ok (.getfield 21, 3) := by decide +kernel
theorem d_CC_look_14 : decode b_CC_look 14 = .ok (.iload_n 1, 1) := by decide +kernel
theorem d_CC_look_15 : decode b_CC_look 15 = .ok (.invokevirtual 87, 3) := by decide +kernel
theorem d_CC_look_18 : decode b_CC_look 18 = .ok (.goto 6, 3) := by decide +kernel
theorem d_CC_look_21 : decode b_CC_look 21 = .ok (.ldc2_w 91, 3) := by decide +kernel
theorem d_CC_look_24 : decode b_CC_look 24 = .ok (.lreturn, 1) := by decide +kernel
theorem d_CCode_figure_0 : decode b_CCode_figure 0 = .ok (.iload_n 1, 1) := by decide +kernel
theorem d_CCode_figure_1 : decode b_CCode_figure 1 = .ok (.tableswitch 99 0 5 #[39, 48, 57, 66, 82, 91], 39) := by decide +kernel
theorem d_CCode_figure_40 : decode b_CCode_figure 40 = .ok (.aload_n 0, 1) := by decide +kernel
theorem d_CCode_figure_41 : decode b_CCode_figure 41 = .ok (.getfield 35, 3) := by decide +kernel
theorem d_CCode_figure_44 : decode b_CCode_figure 44 = .ok (.getfield 101, 3) := by decide +kernel
theorem d_CCode_figure_47 : decode b_CCode_figure 47 = .ok (.i2l, 1) := by decide +kernel
theorem d_CCode_figure_48 : decode b_CCode_figure 48 = .ok (.lreturn, 1) := by decide +kernel
theorem d_CCode_figure_49 : decode b_CCode_figure 49 = .ok (.aload_n 0, 1) := by decide +kernel
theorem d_CCode_figure_50 : decode b_CCode_figure 50 = .ok (.getfield 35, 3) := by decide +kernel
theorem d_CCode_figure_53 : decode b_CCode_figure 53 = .ok (.getfield 98, 3) := by decide +kernel
theorem d_CCode_figure_56 : decode b_CCode_figure 56 = .ok (.i2l, 1) := by decide +kernel
theorem d_CCode_figure_57 : decode b_CCode_figure 57 = .ok (.lreturn, 1) := by decide +kernel
theorem d_CCode_figure_58 : decode b_CCode_figure 58 = .ok (.aload_n 0, 1) := by decide +kernel
theorem d_CCode_figure_59 : decode b_CCode_figure 59 = .ok (.getfield 35, 3) := by decide +kernel
theorem d_CCode_figure_62 : decode b_CCode_figure 62 = .ok (.invokevirtual 104, 3) := by decide +kernel
theorem d_CCode_figure_65 : decode b_CCode_figure 65 = .ok (.i2l, 1) := by decide +kernel
theorem d_CCode_figure_66 : decode b_CCode_figure 66 = .ok (.lreturn, 1) := by decide +kernel
theorem d_CCode_figure_67 : decode b_CCode_figure 67 = .ok (.aload_n 0, 1) := by decide +kernel
theorem d_CCode_figure_68 : decode b_CCode_figure 68 = .ok (.getfield 35, 3) := by decide +kernel
theorem d_CCode_figure_71 : decode b_CCode_figure 71 = .ok (.invokevirtual 108, 3) := by decide +kernel
theorem d_CCode_figure_74 : decode b_CCode_figure 74 = .ok (.ifCond .eq 7, 3) := by decide +kernel
theorem d_CCode_figure_77 : decode b_CCode_figure 77 = .ok (.lconst 1, 1) := by decide +kernel
theorem d_CCode_figure_78 : decode b_CCode_figure 78 = .ok (.goto 4, 3) := by decide +kernel
theorem d_CCode_figure_81 : decode b_CCode_figure 81 = .ok (.lconst 0, 1) := by decide +kernel
theorem d_CCode_figure_82 : decode b_CCode_figure 82 = .ok (.lreturn, 1) := by decide +kernel
theorem d_CCode_figure_83 : decode b_CCode_figure 83 = .ok (.aload_n 0, 1) := by decide +kernel
theorem d_CCode_figure_84 : decode b_CCode_figure 84 = .ok (.getfield 35, 3) := by decide +kernel
theorem d_CCode_figure_87 : decode b_CCode_figure 87 = .ok (.invokevirtual 111, 3) := by decide +kernel
theorem d_CCode_figure_90 : decode b_CCode_figure 90 = .ok (.i2l, 1) := by decide +kernel
theorem d_CCode_figure_91 : decode b_CCode_figure 91 = .ok (.lreturn, 1) := by decide +kernel
theorem d_CCode_figure_92 : decode b_CCode_figure 92 = .ok (.aload_n 0, 1) := by decide +kernel
theorem d_CCode_figure_93 : decode b_CCode_figure 93 = .ok (.getfield 12, 3) := by decide +kernel
theorem d_CCode_figure_96 : decode b_CCode_figure 96 = .ok (.getfield 114, 3) := by decide +kernel
theorem d_CCode_figure_99 : decode b_CCode_figure 99 = .ok (.lreturn, 1) := by decide +kernel
theorem d_CCode_figure_100 : decode b_CCode_figure 100 = .ok (.ldc2_w 118, 3) := by decide +kernel
theorem d_CCode_figure_103 : decode b_CCode_figure 103 = .ok (.lreturn, 1) := by decide +kernel
theorem d_CStack_isLive_0 : decode b_CStack_isLive 0 = .ok (.aload_n 0, 1) := by decide +kernel
theorem d_CStack_isLive_1 : decode b_CStack_isLive 1 = .ok (.invokevirtual 53, 3) := by decide +kernel
theorem d_CStack_isLive_4 : decode b_CStack_isLive 4 = .ok (.ifCond .eq 21, 3) := by decide +kernel
theorem d_CStack_isLive_7 : decode b_CStack_isLive 7 = .ok (.aload_n 0, 1) := by decide +kernel
theorem d_CStack_isLive_8 : decode b_CStack_isLive 8 = .ok (.getfield 24, 3) := by decide +kernel
theorem d_CStack_isLive_11 : decode b_CStack_isLive 11 = .ok (.aload_n 0, 1) := by decide +kernel
theorem d_CStack_isLive_12 : decode b_CStack_isLive 12 = .ok (.getfield 39, 3) := by decide +kernel
theorem d_CStack_isLive_15 : decode b_CStack_isLive 15 = .ok (.iconst 1, 1) := by decide +kernel
theorem d_CStack_isLive_16 : decode b_CStack_isLive 16 = .ok (.isub, 1) := by decide +kernel
theorem d_CStack_isLive_17 : decode b_CStack_isLive 17 = .ok (.baload, 1) := by decide +kernel
theorem d_CStack_isLive_18 : decode b_CStack_isLive 18 = .ok (.ifCond .eq 7, 3) := by decide +kernel
theorem d_CStack_isLive_21 : decode b_CStack_isLive 21 = .ok (.iconst 1, 1) := by decide +kernel
theorem d_CStack_isLive_22 : decode b_CStack_isLive 22 = .ok (.goto 4, 3) := by decide +kernel
theorem d_CStack_isLive_25 : decode b_CStack_isLive 25 = .ok (.iconst 0, 1) := by decide +kernel
theorem d_CStack_isLive_26 : decode b_CStack_isLive 26 = .ok (.ireturn, 1) := by decide +kernel
theorem d_CC_operand_0 : decode b_CC_operand 0 = .ok (.aload_n 0, 1) := by decide +kernel
theorem d_CC_operand_1 : decode b_CC_operand 1 = .ok (.getfield 21, 3) := by decide +kernel
theorem d_CC_operand_4 : decode b_CC_operand 4 = .ok (.invokevirtual 29, 3) := by decide +kernel
theorem d_CC_operand_7 : decode b_CC_operand 7 = .ok (.ifCond .eq 17, 3) := by decide +kernel
theorem d_CC_operand_10 : decode b_CC_operand 10 = .ok (.aload_n 0, 1) := by decide +kernel
theorem d_CC_operand_11 : decode b_CC_operand 11 = .ok (.getfield 21, 3) := by decide +kernel
theorem d_CC_operand_14 : decode b_CC_operand 14 = .ok (.getfield 93, 3) := by decide +kernel
theorem d_CC_operand_17 : decode b_CC_operand 17 = .ok (.iload_n 1, 1) := by decide +kernel
theorem d_CC_operand_18 : decode b_CC_operand 18 = .ok (.invokevirtual 97, 3) := by decide +kernel
theorem d_CC_operand_21 : decode b_CC_operand 21 = .ok (.goto 4, 3) := by decide +kernel
theorem d_CC_operand_24 : decode b_CC_operand 24 = .ok (.iconst (-1), 1) := by decide +kernel
theorem d_CC_operand_25 : decode b_CC_operand 25 = .ok (.ireturn, 1) := by decide +kernel
theorem d_CStack_operandFromEnd_0 : decode b_CStack_operandFromEnd 0 = .ok (.iload_n 1, 1) := by decide +kernel
theorem d_CStack_operandFromEnd_1 : decode b_CStack_operandFromEnd 1 = .ok (.ifCond .lt 23, 3) := by decide +kernel
theorem d_CStack_operandFromEnd_4 : decode b_CStack_operandFromEnd 4 = .ok (.iload_n 1, 1) := by decide +kernel
theorem d_CStack_operandFromEnd_5 : decode b_CStack_operandFromEnd 5 = .ok (.aload_n 0, 1) := by decide +kernel
theorem d_CStack_operandFromEnd_6 : decode b_CStack_operandFromEnd 6 = .ok (.getfield 35, 3) := by decide +kernel
theorem d_CStack_operandFromEnd_9 : decode b_CStack_operandFromEnd 9 = .ok (.if_icmp .ge 15, 3) := by decide +kernel
theorem d_CStack_operandFromEnd_12 : decode b_CStack_operandFromEnd 12 = .ok (.aload_n 0, 1) := by decide +kernel
theorem d_CStack_operandFromEnd_13 : decode b_CStack_operandFromEnd 13 = .ok (.getfield 35, 3) := by decide +kernel
theorem d_CStack_operandFromEnd_16 : decode b_CStack_operandFromEnd 16 = .ok (.aload_n 0, 1) := by decide +kernel
theorem d_CStack_operandFromEnd_17 : decode b_CStack_operandFromEnd 17 = .ok (.getfield 9, 3) := by decide +kernel
theorem d_CStack_operandFromEnd_20 : decode b_CStack_operandFromEnd 20 = .ok (.arraylength, 1) := by decide +kernel
theorem d_CStack_operandFromEnd_21 : decode b_CStack_operandFromEnd 21 = .ok (.if_icmp .le 5, 3) := by decide +kernel
theorem d_CStack_operandFromEnd_24 : decode b_CStack_operandFromEnd 24 = .ok (.iconst (-1), 1) := by decide +kernel
theorem d_CStack_operandFromEnd_25 : decode b_CStack_operandFromEnd 25 = .ok (.ireturn, 1) := by decide +kernel
theorem d_CStack_operandFromEnd_26 : decode b_CStack_operandFromEnd 26 = .ok (.aload_n 0, 1) := by decide +kernel
theorem d_CStack_operandFromEnd_27 : decode b_CStack_operandFromEnd 27 = .ok (.getfield 9, 3) := by decide +kernel
theorem d_CStack_operandFromEnd_30 : decode b_CStack_operandFromEnd 30 = .ok (.aload_n 0, 1) := by decide +kernel
theorem d_CStack_operandFromEnd_31 : decode b_CStack_operandFromEnd 31 = .ok (.getfield 35, 3) := by decide +kernel
theorem d_CStack_operandFromEnd_34 : decode b_CStack_operandFromEnd 34 = .ok (.iconst 1, 1) := by decide +kernel
theorem d_CStack_operandFromEnd_35 : decode b_CStack_operandFromEnd 35 = .ok (.isub, 1) := by decide +kernel
theorem d_CStack_operandFromEnd_36 : decode b_CStack_operandFromEnd 36 = .ok (.iload_n 1, 1) := by decide +kernel
theorem d_CStack_operandFromEnd_37 : decode b_CStack_operandFromEnd 37 = .ok (.isub, 1) := by decide +kernel
theorem d_CStack_operandFromEnd_38 : decode b_CStack_operandFromEnd 38 = .ok (.iaload, 1) := by decide +kernel
theorem d_CStack_operandFromEnd_39 : decode b_CStack_operandFromEnd 39 = .ok (.ireturn, 1) := by decide +kernel
theorem d_MC_type_0 : decode b_MC_type 0 = .ok (.aload_n 0, 1) := by decide +kernel
theorem d_MC_type_1 : decode b_MC_type 1 = .ok (.getfield 73, 3) := by decide +kernel
theorem d_MC_type_4 : decode b_MC_type 4 = .ok (.bipush 40, 2) := by decide +kernel
theorem d_MC_type_6 : decode b_MC_type 6 = .ok (.if_icmp .ne 5, 3) := by decide +kernel
theorem d_MC_type_9 : decode b_MC_type 9 = .ok (.iconst (-1), 1) := by decide +kernel
theorem d_MC_type_10 : decode b_MC_type 10 = .ok (.ireturn, 1) := by decide +kernel
theorem d_MC_type_11 : decode b_MC_type 11 = .ok (.aload_n 0, 1) := by decide +kernel
theorem d_MC_type_12 : decode b_MC_type 12 = .ok (.dup, 1) := by decide +kernel
theorem d_MC_type_13 : decode b_MC_type 13 = .ok (.getfield 73, 3) := by decide +kernel
theorem d_MC_type_16 : decode b_MC_type 16 = .ok (.iconst 1, 1) := by decide +kernel
theorem d_MC_type_17 : decode b_MC_type 17 = .ok (.iadd, 1) := by decide +kernel
theorem d_MC_type_18 : decode b_MC_type 18 = .ok (.putfield 73, 3) := by decide +kernel
theorem d_MC_type_21 : decode b_MC_type 21 = .ok (.aload_n 0, 1) := by decide +kernel
theorem d_MC_type_22 : decode b_MC_type 22 = .ok (.getfield 73, 3) := by decide +kernel
theorem d_MC_type_25 : decode b_MC_type 25 = .ok (.iconst 1, 1) := by decide +kernel
theorem d_MC_type_26 : decode b_MC_type 26 = .ok (.isub, 1) := by decide +kernel
theorem d_MC_type_27 : decode b_MC_type 27 = .ok (.ireturn, 1) := by decide +kernel
theorem d_MC_part_0 : decode b_MC_part 0 = .ok (.aload_n 0, 1) := by decide +kernel
theorem d_MC_part_1 : decode b_MC_part 1 = .ok (.getfield 73, 3) := by decide +kernel
theorem d_MC_part_4 : decode b_MC_part 4 = .ok (.ifCond .eq 18, 3) := by decide +kernel
theorem d_MC_part_7 : decode b_MC_part 7 = .ok (.iload_n 2, 1) := by decide +kernel
theorem d_MC_part_8 : decode b_MC_part 8 = .ok (.invokestatic 77, 3) := by decide +kernel
theorem d_MC_part_11 : decode b_MC_part 11 = .ok (.ifCond .eq 11, 3) := by decide +kernel
theorem d_MC_part_14 : decode b_MC_part 14 = .ok (.aload_n 0, 1) := by decide +kernel
theorem d_MC_part_15 : decode b_MC_part 15 = .ok (.getfield 80, 3) := by decide +kernel
theorem d_MC_part_18 : decode b_MC_part 18 = .ok (.iconst 1, 1) := by decide +kernel
theorem d_MC_part_19 : decode b_MC_part 19 = .ok (.if_icmp .ne 5, 3) := by decide +kernel
theorem d_MC_part_22 : decode b_MC_part 22 = .ok (.iconst (-1), 1) := by decide +kernel
theorem d_MC_part_23 : decode b_MC_part 23 = .ok (.ireturn, 1) := by decide +kernel
theorem d_MC_part_24 : decode b_MC_part 24 = .ok (.aload_n 0, 1) := by decide +kernel
theorem d_MC_part_25 : decode b_MC_part 25 = .ok (.getfield 73, 3) := by decide +kernel
theorem d_MC_part_28 : decode b_MC_part 28 = .ok (.iconst 1, 1) := by decide +kernel
theorem d_MC_part_29 : decode b_MC_part 29 = .ok (.isub, 1) := by decide +kernel
theorem d_MC_part_30 : decode b_MC_part 30 = .ok (.istore_n 3, 1) := by decide +kernel
theorem d_MC_part_31 : decode b_MC_part 31 = .ok (.iload_n 1, 1) := by decide +kernel
theorem d_MC_part_32 : decode b_MC_part 32 = .ok (.ifCond .eq 12, 3) := by decide +kernel
theorem d_MC_part_35 : decode b_MC_part 35 = .ok (.aload_n 0, 1) := by decide +kernel
theorem d_MC_part_36 : decode b_MC_part 36 = .ok (.getfield 13, 3) := by decide +kernel
theorem d_MC_part_39 : decode b_MC_part 39 = .ok (.iload_n 3, 1) := by decide +kernel
theorem d_MC_part_40 : decode b_MC_part 40 = .ok (.iaload, 1) := by decide +kernel
theorem d_MC_part_41 : decode b_MC_part 41 = .ok (.goto 9, 3) := by decide +kernel
theorem d_MC_part_44 : decode b_MC_part 44 = .ok (.aload_n 0, 1) := by decide +kernel
theorem d_MC_part_45 : decode b_MC_part 45 = .ok (.getfield 7, 3) := by decide +kernel
theorem d_MC_part_48 : decode b_MC_part 48 = .ok (.iload_n 3, 1) := by decide +kernel
theorem d_MC_part_49 : decode b_MC_part 49 = .ok (.iaload, 1) := by decide +kernel
theorem d_MC_part_50 : decode b_MC_part 50 = .ok (.istore 4, 2) := by decide +kernel
theorem d_MC_part_52 : decode b_MC_part 52 = .ok (.iload 4, 2) := by decide +kernel
theorem d_MC_part_54 : decode b_MC_part 54 = .ok (.bipush 12, 2) := by decide +kernel
theorem d_MC_part_56 : decode b_MC_part 56 = .ok (.if_icmp .ne 5, 3) := by decide +kernel
theorem d_MC_part_59 : decode b_MC_part 59 = .ok (.iconst (-1), 1) := by decide +kernel
theorem d_MC_part_60 : decode b_MC_part 60 = .ok (.ireturn, 1) := by decide +kernel
theorem d_MC_part_61 : decode b_MC_part 61 = .ok (.iload_n 1, 1) := by decide +kernel
theorem d_MC_part_62 : decode b_MC_part 62 = .ok (.ifCond .eq 29, 3) := by decide +kernel
theorem d_MC_part_65 : decode b_MC_part 65 = .ok (.aload_n 0, 1) := by decide +kernel
theorem d_MC_part_66 : decode b_MC_part 66 = .ok (.getfield 19, 3) := by decide +kernel
theorem d_MC_part_69 : decode b_MC_part 69 = .ok (.bipush 12, 2) := by decide +kernel
theorem d_MC_part_71 : decode b_MC_part 71 = .ok (.iload_n 3, 1) := by decide +kernel
theorem d_MC_part_72 : decode b_MC_part 72 = .ok (.imul, 1) := by decide +kernel
theorem d_MC_part_73 : decode b_MC_part 73 = .ok (.iload 4, 2) := by decide +kernel
theorem d_MC_part_75 : decode b_MC_part 75 = .ok (.iadd, 1) := by decide +kernel
theorem d_MC_part_76 : decode b_MC_part 76 = .ok (.iload_n 2, 1) := by decide +kernel
theorem d_MC_part_77 : decode b_MC_part 77 = .ok (.iastore, 1) := by decide +kernel
theorem d_MC_part_78 : decode b_MC_part 78 = .ok (.aload_n 0, 1) := by decide +kernel
theorem d_MC_part_79 : decode b_MC_part 79 = .ok (.getfield 13, 3) := by decide +kernel
theorem d_MC_part_82 : decode b_MC_part 82 = .ok (.iload_n 3, 1) := by decide +kernel
theorem d_MC_part_83 : decode b_MC_part 83 = .ok (.dup2, 1) := by decide +kernel
theorem d_MC_part_84 : decode b_MC_part 84 = .ok (.iaload, 1) := by decide +kernel
theorem d_MC_part_85 : decode b_MC_part 85 = .ok (.iconst 1, 1) := by decide +kernel
theorem d_MC_part_86 : decode b_MC_part 86 = .ok (.iadd, 1) := by decide +kernel
theorem d_MC_part_87 : decode b_MC_part 87 = .ok (.iastore, 1) := by decide +kernel
theorem d_MC_part_88 : decode b_MC_part 88 = .ok (.goto 26, 3) := by decide +kernel
theorem d_MC_part_91 : decode b_MC_part 91 = .ok (.aload_n 0, 1) := by decide +kernel
theorem d_MC_part_92 : decode b_MC_part 92 = .ok (.getfield 16, 3) := by decide +kernel
theorem d_MC_part_95 : decode b_MC_part 95 = .ok (.bipush 12, 2) := by decide +kernel
theorem d_MC_part_97 : decode b_MC_part 97 = .ok (.iload_n 3, 1) := by decide +kernel
theorem d_MC_part_98 : decode b_MC_part 98 = .ok (.imul, 1) := by decide +kernel
theorem d_MC_part_99 : decode b_MC_part 99 = .ok (.iload 4, 2) := by decide +kernel
theorem d_MC_part_101 : decode b_MC_part 101 = .ok (.iadd, 1) := by decide +kernel
theorem d_MC_part_102 : decode b_MC_part 102 = .ok (.iload_n 2, 1) := by decide +kernel
theorem d_MC_part_103 : decode b_MC_part 103 = .ok (.iastore, 1) := by decide +kernel
theorem d_MC_part_104 : decode b_MC_part 104 = .ok (.aload_n 0, 1) := by decide +kernel
theorem d_MC_part_105 : decode b_MC_part 105 = .ok (.getfield 7, 3) := by decide +kernel
theorem d_MC_part_108 : decode b_MC_part 108 = .ok (.iload_n 3, 1) := by decide +kernel
theorem d_MC_part_109 : decode b_MC_part 109 = .ok (.dup2, 1) := by decide +kernel
theorem d_MC_part_110 : decode b_MC_part 110 = .ok (.iaload, 1) := by decide +kernel
theorem d_MC_part_111 : decode b_MC_part 111 = .ok (.iconst 1, 1) := by decide +kernel
theorem d_MC_part_112 : decode b_MC_part 112 = .ok (.iadd, 1) := by decide +kernel
theorem d_MC_part_113 : decode b_MC_part 113 = .ok (.iastore, 1) := by decide +kernel
theorem d_MC_part_114 : decode b_MC_part 114 = .ok (.iload 4, 2) := by decide +kernel
theorem d_MC_part_116 : decode b_MC_part 116 = .ok (.iconst 1, 1) := by decide +kernel
theorem d_MC_part_117 : decode b_MC_part 117 = .ok (.iadd, 1) := by decide +kernel
theorem d_MC_part_118 : decode b_MC_part 118 = .ok (.ireturn, 1) := by decide +kernel
theorem d_MC_isValue_0 : decode b_MC_isValue 0 = .ok (.iload_n 0, 1) := by decide +kernel
theorem d_MC_isValue_1 : decode b_MC_isValue 1 = .ok (.bipush 124, 2) := by decide +kernel
theorem d_MC_isValue_3 : decode b_MC_isValue 3 = .ok (.if_icmp .lt 9, 3) := by decide +kernel
theorem d_MC_isValue_6 : decode b_MC_isValue 6 = .ok (.iload_n 0, 1) := by decide +kernel
theorem d_MC_isValue_7 : decode b_MC_isValue 7 = .ok (.bipush 127, 2) := by decide +kernel
theorem d_MC_isValue_9 : decode b_MC_isValue 9 = .ok (.if_icmp .le 10, 3) := by decide +kernel
theorem d_MC_isValue_12 : decode b_MC_isValue 12 = .ok (.iload_n 0, 1) := by decide +kernel
theorem d_MC_isValue_13 : decode b_MC_isValue 13 = .ok (.invokestatic 69, 3) := by decide +kernel
theorem d_MC_isValue_16 : decode b_MC_isValue 16 = .ok (.ifCond .eq 7, 3) := by decide +kernel
theorem d_MC_isValue_19 : decode b_MC_isValue 19 = .ok (.iconst 1, 1) := by decide +kernel
theorem d_MC_isValue_20 : decode b_MC_isValue 20 = .ok (.goto 4, 3) := by decide +kernel
theorem d_MC_isValue_23 : decode b_MC_isValue 23 = .ok (.iconst 0, 1) := by decide +kernel
theorem d_MC_isValue_24 : decode b_MC_isValue 24 = .ok (.ireturn, 1) := by decide +kernel
theorem d_MC_isReference_0 : decode b_MC_isReference 0 = .ok (.iload_n 0, 1) := by decide +kernel
theorem d_MC_isReference_1 : decode b_MC_isReference 1 = .ok (.bipush 112, 2) := by decide +kernel
theorem d_MC_isReference_3 : decode b_MC_isReference 3 = .ok (.if_icmp .eq 9, 3) := by decide +kernel
theorem d_MC_isReference_6 : decode b_MC_isReference 6 = .ok (.iload_n 0, 1) := by decide +kernel
theorem d_MC_isReference_7 : decode b_MC_isReference 7 = .ok (.bipush 111, 2) := by decide +kernel
theorem d_MC_isReference_9 : decode b_MC_isReference 9 = .ok (.if_icmp .ne 7, 3) := by decide +kernel
theorem d_MC_isReference_12 : decode b_MC_isReference 12 = .ok (.iconst 1, 1) := by decide +kernel
theorem d_MC_isReference_13 : decode b_MC_isReference 13 = .ok (.goto 4, 3) := by decide +kernel
theorem d_MC_isReference_16 : decode b_MC_isReference 16 = .ok (.iconst 0, 1) := by decide +kernel
theorem d_MC_isReference_17 : decode b_MC_isReference 17 = .ok (.ireturn, 1) := by decide +kernel
theorem d_MC_add_0 : decode b_MC_add 0 = .ok (.iload_n 1, 1) := by decide +kernel
theorem d_MC_add_1 : decode b_MC_add 1 = .ok (.ifCond .lt 19, 3) := by decide +kernel
theorem d_MC_add_4 : decode b_MC_add 4 = .ok (.iload_n 1, 1) := by decide +kernel
theorem d_MC_add_5 : decode b_MC_add 5 = .ok (.iconst 5, 1) := by decide +kernel
theorem d_MC_add_6 : decode b_MC_add 6 = .ok (.if_icmp .gt 14, 3) := by decide +kernel
theorem d_MC_add_9 : decode b_MC_add 9 = .ok (.aload_n 0, 1) := by decide +kernel
theorem d_MC_add_10 : decode b_MC_add 10 = .ok (.getfield 22, 3) := by decide +kernel
theorem d_MC_add_13 : decode b_MC_add 13 = .ok (.iload_n 1, 1) := by decide +kernel
theorem d_MC_add_14 : decode b_MC_add 14 = .ok (.iaload, 1) := by decide +kernel
theorem d_MC_add_15 : decode b_MC_add 15 = .ok (.bipush 40, 2) := by decide +kernel
theorem d_MC_add_17 : decode b_MC_add 17 = .ok (.if_icmp .ne 5, 3) := by decide +kernel
theorem d_MC_add_20 : decode b_MC_add 20 = .ok (.iconst (-1), 1) := by decide +kernel
theorem d_MC_add_21 : decode b_MC_add 21 = .ok (.ireturn, 1) := by decide +kernel
theorem d_MC_add_22 : decode b_MC_add 22 = .ok (.iload_n 1, 1) := by decide +kernel
theorem d_MC_add_23 : decode b_MC_add 23 = .ok (.ifCond .ne 23, 3) := by decide +kernel
theorem d_MC_add_26 : decode b_MC_add 26 = .ok (.iload_n 2, 1) := by decide +kernel
theorem d_MC_add_27 : decode b_MC_add 27 = .ok (.ifCond .lt 15, 3) := by decide +kernel
theorem d_MC_add_30 : decode b_MC_add 30 = .ok (.iload_n 2, 1) := by decide +kernel
theorem d_MC_add_31 : decode b_MC_add 31 = .ok (.aload_n 0, 1) := by decide +kernel
theorem d_MC_add_32 : decode b_MC_add 32 = .ok (.getfield 73, 3) := by decide +kernel
theorem d_MC_add_35 : decode b_MC_add 35 = .ok (.if_icmp .ge 7, 3) := by decide +kernel
theorem d_MC_add_38 : decode b_MC_add 38 = .ok (.iconst 1, 1) := by decide +kernel
theorem d_MC_add_39 : decode b_MC_add 39 = .ok (.goto 50, 3) := by decide +kernel
theorem d_MC_add_42 : decode b_MC_add 42 = .ok (.iconst 0, 1) := by decide +kernel
theorem d_MC_add_43 : decode b_MC_add 43 = .ok (.goto 46, 3) := by decide +kernel
theorem d_MC_add_46 : decode b_MC_add 46 = .ok (.iload_n 1, 1) := by decide +kernel
theorem d_MC_add_47 : decode b_MC_add 47 = .ok (.iconst 1, 1) := by decide +kernel
theorem d_MC_add_48 : decode b_MC_add 48 = .ok (.if_icmp .eq 8, 3) := by decide +kernel
theorem d_MC_add_51 : decode b_MC_add 51 = .ok (.iload_n 1, 1) := by decide +kernel
theorem d_MC_add_52 : decode b_MC_add 52 = .ok (.iconst 4, 1) := by decide +kernel
theorem d_MC_add_53 : decode b_MC_add 53 = .ok (.if_icmp .ne 10, 3) := by decide +kernel
theorem d_MC_add_56 : decode b_MC_add 56 = .ok (.iload_n 2, 1) := by decide +kernel
theorem d_MC_add_57 : decode b_MC_add 57 = .ok (.invokestatic 69, 3) := by decide +kernel
theorem d_MC_add_60 : decode b_MC_add 60 = .ok (.goto 29, 3) := by decide +kernel
theorem d_MC_add_63 : decode b_MC_add 63 = .ok (.iload_n 1, 1) := by decide +kernel
theorem d_MC_add_64 : decode b_MC_add 64 = .ok (.iconst 3, 1) := by decide +kernel
theorem d_MC_add_65 : decode b_MC_add 65 = .ok (.if_icmp .ne 19, 3) := by decide +kernel
theorem d_MC_add_68 : decode b_MC_add 68 = .ok (.iload_n 2, 1) := by decide +kernel
theorem d_MC_add_69 : decode b_MC_add 69 = .ok (.invokestatic 77, 3) := by decide +kernel
theorem d_MC_add_72 : decode b_MC_add 72 = .ok (.ifCond .eq 16, 3) := by decide +kernel
theorem d_MC_add_75 : decode b_MC_add 75 = .ok (.iload_n 3, 1) := by decide +kernel
theorem d_MC_add_76 : decode b_MC_add 76 = .ok (.ifCond .eq 8, 3) := by decide +kernel
theorem d_MC_add_79 : decode b_MC_add 79 = .ok (.iload_n 3, 1) := by decide +kernel
theorem d_MC_add_80 : decode b_MC_add 80 = .ok (.iconst 1, 1) := by decide +kernel
theorem d_MC_add_81 : decode b_MC_add 81 = .ok (.if_icmp .ne 7, 3) := by decide +kernel
theorem d_MC_add_84 : decode b_MC_add 84 = .ok (.iconst 1, 1) := by decide +kernel
theorem d_MC_add_85 : decode b_MC_add 85 = .ok (.goto 4, 3) := by decide +kernel
theorem d_MC_add_88 : decode b_MC_add 88 = .ok (.iconst 0, 1) := by decide +kernel
theorem d_MC_add_89 : decode b_MC_add 89 = .ok (.istore 4, 2) := by decide +kernel
theorem d_MC_add_91 : decode b_MC_add 91 = .ok (.iload 4, 2) := by decide +kernel
theorem d_MC_add_93 : decode b_MC_add 93 = .ok (.ifCond .ne 5, 3) := by decide +kernel
theorem d_MC_add_96 : decode b_MC_add 96 = .ok (.iconst (-1), 1) := by decide +kernel
theorem d_MC_add_97 : decode b_MC_add 97 = .ok (.ireturn, 1) := by decide +kernel
theorem d_MC_add_98 : decode b_MC_add 98 = .ok (.aload_n 0, 1) := by decide +kernel
theorem d_MC_add_99 : decode b_MC_add 99 = .ok (.getfield 25, 3) := by decide +kernel
theorem d_MC_add_102 : decode b_MC_add 102 = .ok (.bipush 40, 2) := by decide +kernel
theorem d_MC_add_104 : decode b_MC_add 104 = .ok (.iload_n 1, 1) := by decide +kernel
theorem d_MC_add_105 : decode b_MC_add 105 = .ok (.imul, 1) := by decide +kernel
theorem d_MC_add_106 : decode b_MC_add 106 = .ok (.aload_n 0, 1) := by decide +kernel
theorem d_MC_add_107 : decode b_MC_add 107 = .ok (.getfield 22, 3) := by decide +kernel
theorem d_MC_add_110 : decode b_MC_add 110 = .ok (.iload_n 1, 1) := by decide +kernel
theorem d_MC_add_111 : decode b_MC_add 111 = .ok (.iaload, 1) := by decide +kernel
theorem d_MC_add_112 : decode b_MC_add 112 = .ok (.iadd, 1) := by decide +kernel
theorem d_MC_add_113 : decode b_MC_add 113 = .ok (.iload_n 2, 1) := by decide +kernel
theorem d_MC_add_114 : decode b_MC_add 114 = .ok (.iastore, 1) := by decide +kernel
theorem d_MC_add_115 : decode b_MC_add 115 = .ok (.aload_n 0, 1) := by decide +kernel
theorem d_MC_add_116 : decode b_MC_add 116 = .ok (.getfield 28, 3) := by decide +kernel
theorem d_MC_add_119 : decode b_MC_add 119 = .ok (.bipush 40, 2) := by decide +kernel
theorem d_MC_add_121 : decode b_MC_add 121 = .ok (.iload_n 1, 1) := by decide +kernel
theorem d_MC_add_122 : decode b_MC_add 122 = .ok (.imul, 1) := by decide +kernel
theorem d_MC_add_123 : decode b_MC_add 123 = .ok (.aload_n 0, 1) := by decide +kernel
theorem d_MC_add_124 : decode b_MC_add 124 = .ok (.getfield 22, 3) := by decide +kernel
theorem d_MC_add_127 : decode b_MC_add 127 = .ok (.iload_n 1, 1) := by decide +kernel
theorem d_MC_add_128 : decode b_MC_add 128 = .ok (.iaload, 1) := by decide +kernel
theorem d_MC_add_129 : decode b_MC_add 129 = .ok (.iadd, 1) := by decide +kernel
theorem d_MC_add_130 : decode b_MC_add 130 = .ok (.iload_n 3, 1) := by decide +kernel
theorem d_MC_add_131 : decode b_MC_add 131 = .ok (.iastore, 1) := by decide +kernel
theorem d_MC_add_132 : decode b_MC_add 132 = .ok (.aload_n 0, 1) := by decide +kernel
theorem d_MC_add_133 : decode b_MC_add 133 = .ok (.getfield 22, 3) := by decide +kernel
theorem d_MC_add_136 : decode b_MC_add 136 = .ok (.iload_n 1, 1) := by decide +kernel
theorem d_MC_add_137 : decode b_MC_add 137 = .ok (.dup2, 1) := by decide +kernel
theorem d_MC_add_138 : decode b_MC_add 138 = .ok (.iaload, 1) := by decide +kernel
theorem d_MC_add_139 : decode b_MC_add 139 = .ok (.iconst 1, 1) := by decide +kernel
theorem d_MC_add_140 : decode b_MC_add 140 = .ok (.iadd, 1) := by decide +kernel
theorem d_MC_add_141 : decode b_MC_add 141 = .ok (.iastore, 1) := by decide +kernel
theorem d_MC_add_142 : decode b_MC_add 142 = .ok (.aload_n 0, 1) := by decide +kernel
theorem d_MC_add_143 : decode b_MC_add 143 = .ok (.getfield 22, 3) := by decide +kernel
