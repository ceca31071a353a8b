theorem d_CCode_misfit_13 : decode b_CCode_misfit 13 = .ok (.iload_n 1, 1) := by decide +kernel
theorem d_CCode_misfit_14 : decode b_CCode_misfit 14 = .ok (.iload_n 2, 1) := by decide +kernel
theorem d_CCode_misfit_15 : decode b_CCode_misfit 15 = .ok (.invokevirtual 178, 3) := by decide +kernel
theorem d_CCode_misfit_18 : decode b_CCode_misfit 18 = .ok (.ireturn, 1) := by decide +kernel
theorem d_CCode_misfit_19 : decode b_CCode_misfit 19 = .ok (.iload_n 1, 1) := by decide +kernel
theorem d_CCode_misfit_20 : decode b_CCode_misfit 20 = .ok (.lookupswitch 238 #[(17, 92), (36, 115), (63, 136), (64, 136), (210, 153), (264, 136), (266, 136), (267, 136), (268, 174), (270, 206)], 92) := by decide +kernel
theorem d_CCode_misfit_112 : decode b_CCode_misfit 112 = .ok (.aload_n 0, 1) := by decide +kernel
theorem d_CCode_misfit_113 : decode b_CCode_misfit 113 = .ok (.getfield 26, 3) := by decide +kernel
theorem d_CCode_misfit_116 : decode b_CCode_misfit 116 = .ok (.getfield 168, 3) := by decide +kernel
theorem d_CCode_misfit_119 : decode b_CCode_misfit 119 = .ok (.iload_n 3, 1) := by decide +kernel
theorem d_CCode_misfit_120 : decode b_CCode_misfit 120 = .ok (.invokevirtual 181, 3) := by decide +kernel
theorem d_CCode_misfit_123 : decode b_CCode_misfit 123 = .ok (.bipush 112, 2) := by decide +kernel
theorem d_CCode_misfit_125 : decode b_CCode_misfit 125 = .ok (.if_icmp .ne 7, 3) := by decide +kernel
theorem d_CCode_misfit_128 : decode b_CCode_misfit 128 = .ok (.iconst 0, 1) := by decide +kernel
theorem d_CCode_misfit_129 : decode b_CCode_misfit 129 = .ok (.goto 5, 3) := by decide +kernel
theorem d_CCode_misfit_132 : decode b_CCode_misfit 132 = .ok (.bipush 6, 2) := by decide +kernel
theorem d_CCode_misfit_134 : decode b_CCode_misfit 134 = .ok (.ireturn, 1) := by decide +kernel
theorem d_CCode_misfit_135 : decode b_CCode_misfit 135 = .ok (.aload_n 0, 1) := by decide +kernel
theorem d_CCode_misfit_136 : decode b_CCode_misfit 136 = .ok (.getfield 26, 3) := by decide +kernel
theorem d_CCode_misfit_139 : decode b_CCode_misfit 139 = .ok (.getfield 144, 3) := by decide +kernel
theorem d_CCode_misfit_142 : decode b_CCode_misfit 142 = .ok (.iload_n 2, 1) := by decide +kernel
theorem d_CCode_misfit_143 : decode b_CCode_misfit 143 = .ok (.invokevirtual 153, 3) := by decide +kernel
theorem d_CCode_misfit_146 : decode b_CCode_misfit 146 = .ok (.ifCond .eq 7, 3) := by decide +kernel
theorem d_CCode_misfit_149 : decode b_CCode_misfit 149 = .ok (.iconst 0, 1) := by decide +kernel
theorem d_CCode_misfit_150 : decode b_CCode_misfit 150 = .ok (.goto 5, 3) := by decide +kernel
theorem d_CCode_misfit_153 : decode b_CCode_misfit 153 = .ok (.bipush 8, 2) := by decide +kernel
theorem d_CCode_misfit_155 : decode b_CCode_misfit 155 = .ok (.ireturn, 1) := by decide +kernel
theorem d_CCode_misfit_156 : decode b_CCode_misfit 156 = .ok (.aload_n 0, 1) := by decide +kernel
theorem d_CCode_misfit_157 : decode b_CCode_misfit 157 = .ok (.getfield 26, 3) := by decide +kernel
theorem d_CCode_misfit_160 : decode b_CCode_misfit 160 = .ok (.invokevirtual 184, 3) := by decide +kernel
theorem d_CCode_misfit_163 : decode b_CCode_misfit 163 = .ok (.ifCond .eq 7, 3) := by decide +kernel
theorem d_CCode_misfit_166 : decode b_CCode_misfit 166 = .ok (.iconst 0, 1) := by decide +kernel
theorem d_CCode_misfit_167 : decode b_CCode_misfit 167 = .ok (.goto 5, 3) := by decide +kernel
theorem d_CCode_misfit_170 : decode b_CCode_misfit 170 = .ok (.bipush 9, 2) := by decide +kernel
theorem d_CCode_misfit_172 : decode b_CCode_misfit 172 = .ok (.ireturn, 1) := by decide +kernel
theorem d_CCode_misfit_173 : decode b_CCode_misfit 173 = .ok (.aload_n 0, 1) := by decide +kernel
theorem d_CCode_misfit_174 : decode b_CCode_misfit 174 = .ok (.getfield 26, 3) := by decide +kernel
theorem d_CCode_misfit_177 : decode b_CCode_misfit 177 = .ok (.getfield 165, 3) := by decide +kernel
theorem d_CCode_misfit_180 : decode b_CCode_misfit 180 = .ok (.iload_n 2, 1) := by decide +kernel
theorem d_CCode_misfit_181 : decode b_CCode_misfit 181 = .ok (.invokevirtual 153, 3) := by decide +kernel
theorem d_CCode_misfit_184 : decode b_CCode_misfit 184 = .ok (.ifCond .eq 7, 3) := by decide +kernel
theorem d_CCode_misfit_187 : decode b_CCode_misfit 187 = .ok (.iconst 0, 1) := by decide +kernel
theorem d_CCode_misfit_188 : decode b_CCode_misfit 188 = .ok (.goto 5, 3) := by decide +kernel
theorem d_CCode_misfit_191 : decode b_CCode_misfit 191 = .ok (.bipush 11, 2) := by decide +kernel
theorem d_CCode_misfit_193 : decode b_CCode_misfit 193 = .ok (.ireturn, 1) := by decide +kernel
theorem d_CCode_misfit_194 : decode b_CCode_misfit 194 = .ok (.aload_n 0, 1) := by decide +kernel
theorem d_CCode_misfit_195 : decode b_CCode_misfit 195 = .ok (.getfield 26, 3) := by decide +kernel
theorem d_CCode_misfit_198 : decode b_CCode_misfit 198 = .ok (.getfield 175, 3) := by decide +kernel
theorem d_CCode_misfit_201 : decode b_CCode_misfit 201 = .ok (.iload_n 2, 1) := by decide +kernel
theorem d_CCode_misfit_202 : decode b_CCode_misfit 202 = .ok (.invokevirtual 181, 3) := by decide +kernel
theorem d_CCode_misfit_205 : decode b_CCode_misfit 205 = .ok (.aload_n 0, 1) := by decide +kernel
theorem d_CCode_misfit_206 : decode b_CCode_misfit 206 = .ok (.getfield 26, 3) := by decide +kernel
theorem d_CCode_misfit_209 : decode b_CCode_misfit 209 = .ok (.getfield 168, 3) := by decide +kernel
theorem d_CCode_misfit_212 : decode b_CCode_misfit 212 = .ok (.iload_n 3, 1) := by decide +kernel
theorem d_CCode_misfit_213 : decode b_CCode_misfit 213 = .ok (.invokevirtual 181, 3) := by decide +kernel
theorem d_CCode_misfit_216 : decode b_CCode_misfit 216 = .ok (.if_icmp .ne 7, 3) := by decide +kernel
theorem d_CCode_misfit_219 : decode b_CCode_misfit 219 = .ok (.iconst 0, 1) := by decide +kernel
theorem d_CCode_misfit_220 : decode b_CCode_misfit 220 = .ok (.goto 5, 3) := by decide +kernel
theorem d_CCode_misfit_223 : decode b_CCode_misfit 223 = .ok (.bipush 6, 2) := by decide +kernel
theorem d_CCode_misfit_225 : decode b_CCode_misfit 225 = .ok (.ireturn, 1) := by decide +kernel
theorem d_CCode_misfit_226 : decode b_CCode_misfit 226 = .ok (.aload_n 0, 1) := by decide +kernel
theorem d_CCode_misfit_227 : decode b_CCode_misfit 227 = .ok (.getfield 26, 3) := by decide +kernel
theorem d_CCode_misfit_230 : decode b_CCode_misfit 230 = .ok (.getfield 168, 3) := by decide +kernel
theorem d_CCode_misfit_233 : decode b_CCode_misfit 233 = .ok (.iload_n 2, 1) := by decide +kernel
theorem d_CCode_misfit_234 : decode b_CCode_misfit 234 = .ok (.invokevirtual 181, 3) := by decide +kernel
theorem d_CCode_misfit_237 : decode b_CCode_misfit 237 = .ok (.aload_n 0, 1) := by decide +kernel
theorem d_CCode_misfit_238 : decode b_CCode_misfit 238 = .ok (.getfield 26, 3) := by decide +kernel
theorem d_CCode_misfit_241 : decode b_CCode_misfit 241 = .ok (.getfield 168, 3) := by decide +kernel
theorem d_CCode_misfit_244 : decode b_CCode_misfit 244 = .ok (.iload_n 3, 1) := by decide +kernel
theorem d_CCode_misfit_245 : decode b_CCode_misfit 245 = .ok (.invokevirtual 181, 3) := by decide +kernel
theorem d_CCode_misfit_248 : decode b_CCode_misfit 248 = .ok (.if_icmp .ne 7, 3) := by decide +kernel
theorem d_CCode_misfit_251 : decode b_CCode_misfit 251 = .ok (.iconst 0, 1) := by decide +kernel
theorem d_CCode_misfit_252 : decode b_CCode_misfit 252 = .ok (.goto 5, 3) := by decide +kernel
theorem d_CCode_misfit_255 : decode b_CCode_misfit 255 = .ok (.bipush 6, 2) := by decide +kernel
theorem d_CCode_misfit_257 : decode b_CCode_misfit 257 = .ok (.ireturn, 1) := by decide +kernel
theorem d_CCode_misfit_258 : decode b_CCode_misfit 258 = .ok (.iconst 0, 1) := by decide +kernel
theorem d_CCode_misfit_259 : decode b_CCode_misfit 259 = .ok (.ireturn, 1) := by decide +kernel
theorem d_CCode_accessFault_0 : decode b_CCode_accessFault 0 = .ok (.aload_n 0, 1) := by decide +kernel
theorem d_CCode_accessFault_1 : decode b_CCode_accessFault 1 = .ok (.getfield 26, 3) := by decide +kernel
theorem d_CCode_accessFault_4 : decode b_CCode_accessFault 4 = .ok (.invokevirtual 184, 3) := by decide +kernel
theorem d_CCode_accessFault_7 : decode b_CCode_accessFault 7 = .ok (.ifCond .ne 6, 3) := by decide +kernel
theorem d_CCode_accessFault_10 : decode b_CCode_accessFault 10 = .ok (.bipush 9, 2) := by decide +kernel
theorem d_CCode_accessFault_12 : decode b_CCode_accessFault 12 = .ok (.ireturn, 1) := by decide +kernel
theorem d_CCode_accessFault_13 : decode b_CCode_accessFault 13 = .ok (.iload_n 1, 1) := by decide +kernel
theorem d_CCode_accessFault_14 : decode b_CCode_accessFault 14 = .ok (.bipush 40, 2) := by decide +kernel
theorem d_CCode_accessFault_16 : decode b_CCode_accessFault 16 = .ok (.isub, 1) := by decide +kernel
theorem d_CCode_accessFault_17 : decode b_CCode_accessFault 17 = .ok (.istore_n 3, 1) := by decide +kernel
theorem d_CCode_accessFault_18 : decode b_CCode_accessFault 18 = .ok (.iload_n 3, 1) := by decide +kernel
theorem d_CCode_accessFault_19 : decode b_CCode_accessFault 19 = .ok (.ifCond .lt 19, 3) := by decide +kernel
theorem d_CCode_accessFault_22 : decode b_CCode_accessFault 22 = .ok (.iload_n 3, 1) := by decide +kernel
theorem d_CCode_accessFault_23 : decode b_CCode_accessFault 23 = .ok (.getstatic 187, 3) := by decide +kernel
theorem d_CCode_accessFault_26 : decode b_CCode_accessFault 26 = .ok (.arraylength, 1) := by decide +kernel
theorem d_CCode_accessFault_27 : decode b_CCode_accessFault 27 = .ok (.if_icmp .ge 11, 3) := by decide +kernel
theorem d_CCode_accessFault_30 : decode b_CCode_accessFault 30 = .ok (.getstatic 187, 3) := by decide +kernel
theorem d_CCode_accessFault_33 : decode b_CCode_accessFault 33 = .ok (.iload_n 3, 1) := by decide +kernel
theorem d_CCode_accessFault_34 : decode b_CCode_accessFault 34 = .ok (.iaload, 1) := by decide +kernel
theorem d_CCode_accessFault_35 : decode b_CCode_accessFault 35 = .ok (.goto 4, 3) := by decide +kernel
theorem d_CCode_accessFault_38 : decode b_CCode_accessFault 38 = .ok (.iconst 0, 1) := by decide +kernel
theorem d_CCode_accessFault_39 : decode b_CCode_accessFault 39 = .ok (.istore 4, 2) := by decide +kernel
theorem d_CCode_accessFault_41 : decode b_CCode_accessFault 41 = .ok (.iload_n 2, 1) := by decide +kernel
theorem d_CCode_accessFault_42 : decode b_CCode_accessFault 42 = .ok (.ifCond .lt 21, 3) := by decide +kernel
theorem d_CCode_accessFault_45 : decode b_CCode_accessFault 45 = .ok (.iload_n 2, 1) := by decide +kernel
theorem d_CCode_accessFault_46 : decode b_CCode_accessFault 46 = .ok (.bipush 31, 2) := by decide +kernel
theorem d_CCode_accessFault_48 : decode b_CCode_accessFault 48 = .ok (.if_icmp .ge 15, 3) := by decide +kernel
theorem d_CCode_accessFault_51 : decode b_CCode_accessFault 51 = .ok (.iconst 1, 1) := by decide +kernel
theorem d_CCode_accessFault_52 : decode b_CCode_accessFault 52 = .ok (.iload_n 2, 1) := by decide +kernel
theorem d_CCode_accessFault_53 : decode b_CCode_accessFault 53 = .ok (.ishl, 1) := by decide +kernel
theorem d_CCode_accessFault_54 : decode b_CCode_accessFault 54 = .ok (.iload 4, 2) := by decide +kernel
theorem d_CCode_accessFault_56 : decode b_CCode_accessFault 56 = .ok (.if_icmp .gt 7, 3) := by decide +kernel
theorem d_CCode_accessFault_59 : decode b_CCode_accessFault 59 = .ok (.iconst 1, 1) := by decide +kernel
theorem d_CCode_accessFault_60 : decode b_CCode_accessFault 60 = .ok (.goto 4, 3) := by decide +kernel
theorem d_CCode_accessFault_63 : decode b_CCode_accessFault 63 = .ok (.iconst 0, 1) := by decide +kernel
theorem d_CCode_accessFault_64 : decode b_CCode_accessFault 64 = .ok (.istore 5, 2) := by decide +kernel
theorem d_CCode_accessFault_66 : decode b_CCode_accessFault 66 = .ok (.iload 5, 2) := by decide +kernel
theorem d_CCode_accessFault_68 : decode b_CCode_accessFault 68 = .ok (.ifCond .eq 7, 3) := by decide +kernel
theorem d_CCode_accessFault_71 : decode b_CCode_accessFault 71 = .ok (.iconst 0, 1) := by decide +kernel
theorem d_CCode_accessFault_72 : decode b_CCode_accessFault 72 = .ok (.goto 5, 3) := by decide +kernel
theorem d_CCode_accessFault_75 : decode b_CCode_accessFault 75 = .ok (.bipush 10, 2) := by decide +kernel
theorem d_CCode_accessFault_77 : decode b_CCode_accessFault 77 = .ok (.ireturn, 1) := by decide +kernel
theorem d_CThings_hasMemory_0 : decode b_CThings_hasMemory 0 = .ok (.aload_n 0, 1) := by decide +kernel
theorem d_CThings_hasMemory_1 : decode b_CThings_hasMemory 1 = .ok (.getfield 33, 3) := by decide +kernel
theorem d_CThings_hasMemory_4 : decode b_CThings_hasMemory 4 = .ok (.iconst 0, 1) := by decide +kernel
theorem d_CThings_hasMemory_5 : decode b_CThings_hasMemory 5 = .ok (.invokevirtual 67, 3) := by decide +kernel
theorem d_CThings_hasMemory_8 : decode b_CThings_hasMemory 8 = .ok (.ireturn, 1) := by decide +kernel
theorem d_CShelf_typeOf_0 : decode b_CShelf_typeOf 0 = .ok (.aload_n 0, 1) := by decide +kernel
theorem d_CShelf_typeOf_1 : decode b_CShelf_typeOf 1 = .ok (.iload_n 1, 1) := by decide +kernel
theorem d_CShelf_typeOf_2 : decode b_CShelf_typeOf 2 = .ok (.invokevirtual 23, 3) := by decide +kernel
theorem d_CShelf_typeOf_5 : decode b_CShelf_typeOf 5 = .ok (.ifCond .eq 21, 3) := by decide +kernel
theorem d_CShelf_typeOf_8 : decode b_CShelf_typeOf 8 = .ok (.iload_n 1, 1) := by decide +kernel
theorem d_CShelf_typeOf_9 : decode b_CShelf_typeOf 9 = .ok (.aload_n 0, 1) := by decide +kernel
theorem d_CShelf_typeOf_10 : decode b_CShelf_typeOf 10 = .ok (.getfield 9, 3) := by decide +kernel
theorem d_CShelf_typeOf_13 : decode b_CShelf_typeOf 13 = .ok (.arraylength, 1) := by decide +kernel
theorem d_CShelf_typeOf_14 : decode b_CShelf_typeOf 14 = .ok (.if_icmp .ge 12, 3) := by decide +kernel
theorem d_CShelf_typeOf_17 : decode b_CShelf_typeOf 17 = .ok (.aload_n 0, 1) := by decide +kernel
theorem d_CShelf_typeOf_18 : decode b_CShelf_typeOf 18 = .ok (.getfield 9, 3) := by decide +kernel
theorem d_CShelf_typeOf_21 : decode b_CShelf_typeOf 21 = .ok (.iload_n 1, 1) := by decide +kernel
theorem d_CShelf_typeOf_22 : decode b_CShelf_typeOf 22 = .ok (.iaload, 1) := by decide +kernel
theorem d_CShelf_typeOf_23 : decode b_CShelf_typeOf 23 = .ok (.goto 4, 3) := by decide +kernel
theorem d_CShelf_typeOf_26 : decode b_CShelf_typeOf 26 = .ok (.iconst 0, 1) := by decide +kernel
theorem d_CShelf_typeOf_27 : decode b_CShelf_typeOf 27 = .ok (.ireturn, 1) := by decide +kernel
theorem d_CCode_carryOut_0 : decode b_CCode_carryOut 0 = .ok (.iload_n 1, 1) := by decide +kernel
theorem d_CCode_carryOut_1 : decode b_CCode_carryOut 1 = .ok (.invokestatic 190, 3) := by decide +kernel
theorem d_CCode_carryOut_4 : decode b_CCode_carryOut 4 = .ok (.istore_n 3, 1) := by decide +kernel
theorem d_CCode_carryOut_5 : decode b_CCode_carryOut 5 = .ok (.iload_n 3, 1) := by decide +kernel
theorem d_CCode_carryOut_6 : decode b_CCode_carryOut 6 = .ok (.ifCond .lt 11, 3) := by decide +kernel
theorem d_CCode_carryOut_9 : decode b_CCode_carryOut 9 = .ok (.aload_n 0, 1) := by decide +kernel
theorem d_CCode_carryOut_10 : decode b_CCode_carryOut 10 = .ok (.iload_n 3, 1) := by decide +kernel
theorem d_CCode_carryOut_11 : decode b_CCode_carryOut 11 = .ok (.invokevirtual 193, 3) := by decide +kernel
theorem d_CCode_carryOut_14 : decode b_CCode_carryOut 14 = .ok (.goto 74, 3) := by decide +kernel
theorem d_CCode_carryOut_17 : decode b_CCode_carryOut 17 = .ok (.iload_n 1, 1) := by decide +kernel
theorem d_CCode_carryOut_18 : decode b_CCode_carryOut 18 = .ok (.bipush 11, 2) := by decide +kernel
theorem d_CCode_carryOut_20 : decode b_CCode_carryOut 20 = .ok (.if_icmp .gt 12, 3) := by decide +kernel
theorem d_CCode_carryOut_23 : decode b_CCode_carryOut 23 = .ok (.aload_n 0, 1) := by decide +kernel
theorem d_CCode_carryOut_24 : decode b_CCode_carryOut 24 = .ok (.iload_n 1, 1) := by decide +kernel
theorem d_CCode_carryOut_25 : decode b_CCode_carryOut 25 = .ok (.iload_n 2, 1) := by decide +kernel
theorem d_CCode_carryOut_26 : decode b_CCode_carryOut 26 = .ok (.invokevirtual 196, 3) := by decide +kernel
theorem d_CCode_carryOut_29 : decode b_CCode_carryOut 29 = .ok (.goto 59, 3) := by decide +kernel
theorem d_CCode_carryOut_32 : decode b_CCode_carryOut 32 = .ok (.iload_n 1, 1) := by decide +kernel
theorem d_CCode_carryOut_33 : decode b_CCode_carryOut 33 = .ok (.bipush 17, 2) := by decide +kernel
theorem d_CCode_carryOut_35 : decode b_CCode_carryOut 35 = .ok (.if_icmp .gt 12, 3) := by decide +kernel
theorem d_CCode_carryOut_38 : decode b_CCode_carryOut 38 = .ok (.aload_n 0, 1) := by decide +kernel
theorem d_CCode_carryOut_39 : decode b_CCode_carryOut 39 = .ok (.iload_n 1, 1) := by decide +kernel
theorem d_CCode_carryOut_40 : decode b_CCode_carryOut 40 = .ok (.iload_n 2, 1) := by decide +kernel
theorem d_CCode_carryOut_41 : decode b_CCode_carryOut 41 = .ok (.invokevirtual 200, 3) := by decide +kernel
theorem d_CCode_carryOut_44 : decode b_CCode_carryOut 44 = .ok (.goto 44, 3) := by decide +kernel
theorem d_CCode_carryOut_47 : decode b_CCode_carryOut 47 = .ok (.iload_n 1, 1) := by decide +kernel
theorem d_CCode_carryOut_48 : decode b_CCode_carryOut 48 = .ok (.bipush 36, 2) := by decide +kernel
theorem d_CCode_carryOut_50 : decode b_CCode_carryOut 50 = .ok (.if_icmp .gt 12, 3) := by decide +kernel
theorem d_CCode_carryOut_53 : decode b_CCode_carryOut 53 = .ok (.aload_n 0, 1) := by decide +kernel
theorem d_CCode_carryOut_54 : decode b_CCode_carryOut 54 = .ok (.iload_n 1, 1) := by decide +kernel
theorem d_CCode_carryOut_55 : decode b_CCode_carryOut 55 = .ok (.iload_n 2, 1) := by decide +kernel
theorem d_CCode_carryOut_56 : decode b_CCode_carryOut 56 = .ok (.invokevirtual 203, 3) := by decide +kernel
theorem d_CCode_carryOut_59 : decode b_CCode_carryOut 59 = .ok (.goto 29, 3) := by decide +kernel
theorem d_CCode_carryOut_62 : decode b_CCode_carryOut 62 = .ok (.iload_n 1, 1) := by decide +kernel
theorem d_CCode_carryOut_63 : decode b_CCode_carryOut 63 = .ok (.bipush 40, 2) := by decide +kernel
theorem d_CCode_carryOut_65 : decode b_CCode_carryOut 65 = .ok (.if_icmp .lt 17, 3) := by decide +kernel
theorem d_CCode_carryOut_68 : decode b_CCode_carryOut 68 = .ok (.iload_n 1, 1) := by decide +kernel
theorem d_CCode_carryOut_69 : decode b_CCode_carryOut 69 = .ok (.bipush 62, 2) := by decide +kernel
theorem d_CCode_carryOut_71 : decode b_CCode_carryOut 71 = .ok (.if_icmp .gt 11, 3) := by decide +kernel
theorem d_CCode_carryOut_74 : decode b_CCode_carryOut 74 = .ok (.aload_n 0, 1) := by decide +kernel
theorem d_CCode_carryOut_75 : decode b_CCode_carryOut 75 = .ok (.iload_n 1, 1) := by decide +kernel
theorem d_CCode_carryOut_76 : decode b_CCode_carryOut 76 = .ok (.invokevirtual 206, 3) := by decide +kernel
theorem d_CCode_carryOut_79 : decode b_CCode_carryOut 79 = .ok (.goto 9, 3) := by decide +kernel
theorem d_CCode_carryOut_82 : decode b_CCode_carryOut 82 = .ok (.aload_n 0, 1) := by decide +kernel
theorem d_CCode_carryOut_83 : decode b_CCode_carryOut 83 = .ok (.iload_n 1, 1) := by decide +kernel
theorem d_CCode_carryOut_84 : decode b_CCode_carryOut 84 = .ok (.iload_n 2, 1) := by decide +kernel
theorem d_CCode_carryOut_85 : decode b_CCode_carryOut 85 = .ok (.invokevirtual 209, 3) := by decide +kernel
theorem d_CCode_carryOut_88 : decode b_CCode_carryOut 88 = .ok (.aload_n 0, 1) := by decide +kernel
theorem d_CCode_carryOut_89 : decode b_CCode_carryOut 89 = .ok (.getfield 35, 3) := by decide +kernel
theorem d_CCode_carryOut_92 : decode b_CCode_carryOut 92 = .ok (.getfield 212, 3) := by decide +kernel
theorem d_CCode_carryOut_95 : decode b_CCode_carryOut 95 = .ok (.ireturn, 1) := by decide +kernel
theorem d_CC_plainLine_0 : decode b_CC_plainLine 0 = .ok (.iconst 0, 1) := by decide +kernel
theorem d_CC_plainLine_1 : decode b_CC_plainLine 1 = .ok (.istore_n 1, 1) := by decide +kernel
theorem d_CC_plainLine_2 : decode b_CC_plainLine 2 = .ok (.iload_n 1, 1) := by decide +kernel
theorem d_CC_plainLine_3 : decode b_CC_plainLine 3 = .ok (.iconst 4, 1) := by decide +kernel
theorem d_CC_plainLine_4 : decode b_CC_plainLine 4 = .ok (.iadd, 1) := by decide +kernel
theorem d_CC_plainLine_5 : decode b_CC_plainLine 5 = .ok (.getstatic 111, 3) := by decide +kernel
theorem d_CC_plainLine_8 : decode b_CC_plainLine 8 = .ok (.arraylength, 1) := by decide +kernel
theorem d_CC_plainLine_9 : decode b_CC_plainLine 9 = .ok (.if_icmp .ge 31, 3) := by decide +kernel
theorem d_CC_plainLine_12 : decode b_CC_plainLine 12 = .ok (.iload_n 0, 1) := by decide +kernel
theorem d_CC_plainLine_13 : decode b_CC_plainLine 13 = .ok (.getstatic 111, 3) := by decide +kernel
theorem d_CC_plainLine_16 : decode b_CC_plainLine 16 = .ok (.iload_n 1, 1) := by decide +kernel
theorem d_CC_plainLine_17 : decode b_CC_plainLine 17 = .ok (.iaload, 1) := by decide +kernel
theorem d_CC_plainLine_18 : decode b_CC_plainLine 18 = .ok (.if_icmp .lt 16, 3) := by decide +kernel
theorem d_CC_plainLine_21 : decode b_CC_plainLine 21 = .ok (.iload_n 0, 1) := by decide +kernel
theorem d_CC_plainLine_22 : decode b_CC_plainLine 22 = .ok (.getstatic 111, 3) := by decide +kernel
theorem d_CC_plainLine_25 : decode b_CC_plainLine 25 = .ok (.iload_n 1, 1) := by decide +kernel
theorem d_CC_plainLine_26 : decode b_CC_plainLine 26 = .ok (.iconst 1, 1) := by decide +kernel
theorem d_CC_plainLine_27 : decode b_CC_plainLine 27 = .ok (.iadd, 1) := by decide +kernel
theorem d_CC_plainLine_28 : decode b_CC_plainLine 28 = .ok (.iaload, 1) := by decide +kernel
theorem d_CC_plainLine_29 : decode b_CC_plainLine 29 = .ok (.if_icmp .gt 5, 3) := by decide +kernel
theorem d_CC_plainLine_32 : decode b_CC_plainLine 32 = .ok (.iload_n 1, 1) := by decide +kernel
theorem d_CC_plainLine_33 : decode b_CC_plainLine 33 = .ok (.ireturn, 1) := by decide +kernel
theorem d_CC_plainLine_34 : decode b_CC_plainLine 34 = .ok (.iinc 1 5, 3) := by decide +kernel
theorem d_CC_plainLine_37 : decode b_CC_plainLine 37 = .ok (.goto (-35), 3) := by decide +kernel
theorem d_CC_plainLine_40 : decode b_CC_plainLine 40 = .ok (.iconst (-1), 1) := by decide +kernel
theorem d_CC_plainLine_41 : decode b_CC_plainLine 41 = .ok (.ireturn, 1) := by decide +kernel
theorem d_CCode_carryOutPlain_0 : decode b_CCode_carryOutPlain 0 = .ok (.iload_n 1, 1) := by decide +kernel
theorem d_CCode_carryOutPlain_1 : decode b_CCode_carryOutPlain 1 = .ok (.ifCond .lt 13, 3) := by decide +kernel
theorem d_CCode_carryOutPlain_4 : decode b_CCode_carryOutPlain 4 = .ok (.iload_n 1, 1) := by decide +kernel
theorem d_CCode_carryOutPlain_5 : decode b_CCode_carryOutPlain 5 = .ok (.iconst 4, 1) := by decide +kernel
theorem d_CCode_carryOutPlain_6 : decode b_CCode_carryOutPlain 6 = .ok (.iadd, 1) := by decide +kernel
theorem d_CCode_carryOutPlain_7 : decode b_CCode_carryOutPlain 7 = .ok (.getstatic 215, 3) := by decide +kernel
theorem d_CCode_carryOutPlain_10 : decode b_CCode_carryOutPlain 10 = .ok (.arraylength, 1) := by decide +kernel
theorem d_CCode_carryOutPlain_11 : decode b_CCode_carryOutPlain 11 = .ok (.if_icmp .lt 4, 3) := by decide +kernel
theorem d_CCode_carryOutPlain_14 : decode b_CCode_carryOutPlain 14 = .ok (.return_, 1) := by decide +kernel
theorem d_CCode_carryOutPlain_15 : decode b_CCode_carryOutPlain 15 = .ok (.aload_n 0, 1) := by decide +kernel
theorem d_CCode_carryOutPlain_16 : decode b_CCode_carryOutPlain 16 = .ok (.getfield 35, 3) := by decide +kernel
theorem d_CCode_carryOutPlain_19 : decode b_CCode_carryOutPlain 19 = .ok (.getstatic 215, 3) := by decide +kernel
theorem d_CCode_carryOutPlain_22 : decode b_CCode_carryOutPlain 22 = .ok (.iload_n 1, 1) := by decide +kernel
theorem d_CCode_carryOutPlain_23 : decode b_CCode_carryOutPlain 23 = .ok (.iconst 3, 1) := by decide +kernel
theorem d_CCode_carryOutPlain_24 : decode b_CCode_carryOutPlain 24 = .ok (.iadd, 1) := by decide +kernel
theorem d_CCode_carryOutPlain_25 : decode b_CCode_carryOutPlain 25 = .ok (.iaload, 1) := by decide +kernel
theorem d_CCode_carryOutPlain_26 : decode b_CCode_carryOutPlain 26 = .ok (.getstatic 215, 3) := by decide +kernel
theorem d_CCode_carryOutPlain_29 : decode b_CCode_carryOutPlain 29 = .ok (.iload_n 1, 1) := by decide +kernel
theorem d_CCode_carryOutPlain_30 : decode b_CCode_carryOutPlain 30 = .ok (.iconst 2, 1) := by decide +kernel
theorem d_CCode_carryOutPlain_31 : decode b_CCode_carryOutPlain 31 = .ok (.iadd, 1) := by decide +kernel
theorem d_CCode_carryOutPlain_32 : decode b_CCode_carryOutPlain 32 = .ok (.iaload, 1) := by decide +kernel
theorem d_CCode_carryOutPlain_33 : decode b_CCode_carryOutPlain 33 = .ok (.invokevirtual 218, 3) := by decide +kernel
theorem d_CCode_carryOutPlain_36 : decode b_CCode_carryOutPlain 36 = .ok (.getstatic 215, 3) := by decide +kernel
theorem d_CCode_carryOutPlain_39 : decode b_CCode_carryOutPlain 39 = .ok (.iload_n 1, 1) := by decide +kernel
theorem d_CCode_carryOutPlain_40 : decode b_CCode_carryOutPlain 40 = .ok (.iconst 4, 1) := by decide +kernel
theorem d_CCode_carryOutPlain_41 : decode b_CCode_carryOutPlain 41 = .ok (.iadd, 1) := by decide +kernel
theorem d_CCode_carryOutPlain_42 : decode b_CCode_carryOutPlain 42 = .ok (.iaload, 1) := by decide +kernel
theorem d_CCode_carryOutPlain_43 : decode b_CCode_carryOutPlain 43 = .ok (.iconst (-1), 1) := by decide +kernel
theorem d_CCode_carryOutPlain_44 : decode b_CCode_carryOutPlain 44 = .ok (.if_icmp .eq 17, 3) := by decide +kernel
theorem d_CCode_carryOutPlain_47 : decode b_CCode_carryOutPlain 47 = .ok (.aload_n 0, 1) := by decide +kernel
theorem d_CCode_carryOutPlain_48 : decode b_CCode_carryOutPlain 48 = .ok (.getfield 35, 3) := by decide +kernel
theorem d_CCode_carryOutPlain_51 : decode b_CCode_carryOutPlain 51 = .ok (.getstatic 215, 3) := by decide +kernel
theorem d_CCode_carryOutPlain_54 : decode b_CCode_carryOutPlain 54 = .ok (.iload_n 1, 1) := by decide +kernel
theorem d_CCode_carryOutPlain_55 : decode b_CCode_carryOutPlain 55 = .ok (.iconst 4, 1) := by decide +kernel
theorem d_CCode_carryOutPlain_56 : decode b_CCode_carryOutPlain 56 = .ok (.iadd, 1) := by decide +kernel
theorem d_CCode_carryOutPlain_57 : decode b_CCode_carryOutPlain 57 = .ok (.iaload, 1) := by decide +kernel
theorem d_CCode_carryOutPlain_58 : decode b_CCode_carryOutPlain 58 = .ok (.invokevirtual 221, 3) := by decide +kernel
theorem d_CCode_carryOutPlain_61 : decode b_CCode_carryOutPlain 61 = .ok (.return_, 1) := by decide +kernel
theorem d_CStack_takeTimes_0 : decode b_CStack_takeTimes 0 = .ok (.iconst 0, 1) := by decide +kernel
theorem d_CStack_takeTimes_1 : decode b_CStack_takeTimes 1 = .ok (.istore_n 3, 1) := by decide +kernel
theorem d_CStack_takeTimes_2 : decode b_CStack_takeTimes 2 = .ok (.iload_n 3, 1) := by decide +kernel
theorem d_CStack_takeTimes_3 : decode b_CStack_takeTimes 3 = .ok (.iload_n 2, 1) := by decide +kernel
theorem d_CStack_takeTimes_4 : decode b_CStack_takeTimes 4 = .ok (.if_icmp .ge 15, 3) := by decide +kernel
theorem d_CStack_takeTimes_7 : decode b_CStack_takeTimes 7 = .ok (.aload_n 0, 1) := by decide +kernel
theorem d_CStack_takeTimes_8 : decode b_CStack_takeTimes 8 = .ok (.iload_n 1, 1) := by decide +kernel
theorem d_CStack_takeTimes_9 : decode b_CStack_takeTimes 9 = .ok (.invokevirtual 65, 3) := by decide +kernel
theorem d_CStack_takeTimes_12 : decode b_CStack_takeTimes 12 = .ok (.pop, 1) := by decide +kernel
theorem d_CStack_takeTimes_13 : decode b_CStack_takeTimes 13 = .ok (.iinc 3 1, 3) := by decide +kernel
theorem d_CStack_takeTimes_16 : decode b_CStack_takeTimes 16 = .ok (.goto (-14), 3) := by decide +kernel
theorem d_CStack_takeTimes_19 : decode b_CStack_takeTimes 19 = .ok (.return_, 1) := by decide +kernel
theorem d_CStack_take_0 : decode b_CStack_take 0 = .ok (.aload_n 0, 1) := by decide +kernel
theorem d_CStack_take_1 : decode b_CStack_take 1 = .ok (.invokevirtual 57, 3) := by decide +kernel
theorem d_CStack_take_4 : decode b_CStack_take 4 = .ok (.istore_n 2, 1) := by decide +kernel
theorem d_CStack_take_5 : decode b_CStack_take 5 = .ok (.iload_n 2, 1) := by decide +kernel
theorem d_CStack_take_6 : decode b_CStack_take 6 = .ok (.ifCond .eq 13, 3) := by decide +kernel
theorem d_CStack_take_9 : decode b_CStack_take 9 = .ok (.iload_n 2, 1) := by decide +kernel
theorem d_CStack_take_10 : decode b_CStack_take 10 = .ok (.iload_n 1, 1) := by decide +kernel
theorem d_CStack_take_11 : decode b_CStack_take 11 = .ok (.if_icmp .eq 8, 3) := by decide +kernel
theorem d_CStack_take_14 : decode b_CStack_take 14 = .ok (.aload_n 0, 1) := by decide +kernel
theorem d_CStack_take_15 : decode b_CStack_take 15 = .ok (.iconst 1, 1) := by decide +kernel
theorem d_CStack_take_16 : decode b_CStack_take 16 = .ok (.invokevirtual 61, 3) := by decide +kernel
theorem d_CStack_take_19 : decode b_CStack_take 19 = .ok (.iload_n 2, 1) := by decide +kernel
theorem d_CStack_take_20 : decode b_CStack_take 20 = .ok (.ireturn, 1) := by decide +kernel
theorem d_CStack_takeAny_0 : decode b_CStack_takeAny 0 = .ok (.aload_n 0, 1) := by decide +kernel
theorem d_CStack_takeAny_1 : decode b_CStack_takeAny 1 = .ok (.getfield 39, 3) := by decide +kernel
theorem d_CStack_takeAny_4 : decode b_CStack_takeAny 4 = .ok (.iconst 1, 1) := by decide +kernel
theorem d_CStack_takeAny_5 : decode b_CStack_takeAny 5 = .ok (.isub, 1) := by decide +kernel
theorem d_CStack_takeAny_6 : decode b_CStack_takeAny 6 = .ok (.istore_n 1, 1) := by decide +kernel
theorem d_CStack_takeAny_7 : decode b_CStack_takeAny 7 = .ok (.aload_n 0, 1) := by decide +kernel
theorem d_CStack_takeAny_8 : decode b_CStack_takeAny 8 = .ok (.getfield 35, 3) := by decide +kernel
theorem d_CStack_takeAny_11 : decode b_CStack_takeAny 11 = .ok (.iconst 1, 1) := by decide +kernel
theorem d_CStack_takeAny_12 : decode b_CStack_takeAny 12 = .ok (.isub, 1) := by decide +kernel
theorem d_CStack_takeAny_13 : decode b_CStack_takeAny 13 = .ok (.istore_n 2, 1) := by decide +kernel
theorem d_CStack_takeAny_14 : decode b_CStack_takeAny 14 = .ok (.aload_n 0, 1) := by decide +kernel
theorem d_CStack_takeAny_15 : decode b_CStack_takeAny 15 = .ok (.getfield 42, 3) := by decide +kernel
theorem d_CStack_takeAny_18 : decode b_CStack_takeAny 18 = .ok (.ifCond .ne 13, 3) := by decide +kernel
theorem d_CStack_takeAny_21 : decode b_CStack_takeAny 21 = .ok (.iload_n 1, 1) := by decide +kernel
theorem d_CStack_takeAny_22 : decode b_CStack_takeAny 22 = .ok (.ifCond .lt 9, 3) := by decide +kernel
theorem d_CStack_takeAny_25 : decode b_CStack_takeAny 25 = .ok (.iload_n 1, 1) := by decide +kernel
theorem d_CStack_takeAny_26 : decode b_CStack_takeAny 26 = .ok (.bipush 60, 2) := by decide +kernel
theorem d_CStack_takeAny_28 : decode b_CStack_takeAny 28 = .ok (.if_icmp .lt 5, 3) := by decide +kernel
theorem d_CStack_takeAny_31 : decode b_CStack_takeAny 31 = .ok (.iconst 0, 1) := by decide +kernel
theorem d_CStack_takeAny_32 : decode b_CStack_takeAny 32 = .ok (.ireturn, 1) := by decide +kernel
theorem d_CStack_takeAny_33 : decode b_CStack_takeAny 33 = .ok (.iload_n 2, 1) := by decide +kernel
theorem d_CStack_takeAny_34 : decode b_CStack_takeAny 34 = .ok (.aload_n 0, 1) := by decide +kernel
theorem d_CStack_takeAny_35 : decode b_CStack_takeAny 35 = .ok (.getfield 18, 3) := by decide +kernel
theorem d_CStack_takeAny_38 : decode b_CStack_takeAny 38 = .ok (.iload_n 1, 1) := by decide +kernel
theorem d_CStack_takeAny_39 : decode b_CStack_takeAny 39 = .ok (.iaload, 1) := by decide +kernel
theorem d_CStack_takeAny_40 : decode b_CStack_takeAny 40 = .ok (.if_icmp .lt 28, 3) := by decide +kernel
theorem d_CStack_takeAny_43 : decode b_CStack_takeAny 43 = .ok (.iload_n 2, 1) := by decide +kernel
theorem d_CStack_takeAny_44 : decode b_CStack_takeAny 44 = .ok (.ifCond .lt 24, 3) := by decide +kernel
theorem d_CStack_takeAny_47 : decode b_CStack_takeAny 47 = .ok (.iload_n 2, 1) := by decide +kernel
theorem d_CStack_takeAny_48 : decode b_CStack_takeAny 48 = .ok (.aload_n 0, 1) := by decide +kernel
theorem d_CStack_takeAny_49 : decode b_CStack_takeAny 49 = .ok (.getfield 9, 3) := by decide +kernel
theorem d_CStack_takeAny_52 : decode b_CStack_takeAny 52 = .ok (.arraylength, 1) := by decide +kernel
theorem d_CStack_takeAny_53 : decode b_CStack_takeAny 53 = .ok (.if_icmp .ge 15, 3) := by decide +kernel
theorem d_CStack_takeAny_56 : decode b_CStack_takeAny 56 = .ok (.aload_n 0, 1) := by decide +kernel
theorem d_CStack_takeAny_57 : decode b_CStack_takeAny 57 = .ok (.iload_n 2, 1) := by decide +kernel
theorem d_CStack_takeAny_58 : decode b_CStack_takeAny 58 = .ok (.putfield 35, 3) := by decide +kernel
theorem d_CStack_takeAny_61 : decode b_CStack_takeAny 61 = .ok (.aload_n 0, 1) := by decide +kernel
theorem d_CStack_takeAny_62 : decode b_CStack_takeAny 62 = .ok (.getfield 9, 3) := by decide +kernel
theorem d_CStack_takeAny_65 : decode b_CStack_takeAny 65 = .ok (.iload_n 2, 1) := by decide +kernel
theorem d_CStack_takeAny_66 : decode b_CStack_takeAny 66 = .ok (.iaload, 1) := by decide +kernel
theorem d_CStack_takeAny_67 : decode b_CStack_takeAny 67 = .ok (.ireturn, 1) := by decide +kernel
theorem d_CStack_takeAny_68 : decode b_CStack_takeAny 68 = .ok (.aload_n 0, 1) := by decide +kernel
theorem d_CStack_takeAny_69 : decode b_CStack_takeAny 69 = .ok (.getfield 24, 3) := by decide +kernel
theorem d_CStack_takeAny_72 : decode b_CStack_takeAny 72 = .ok (.iload_n 1, 1) := by decide +kernel
theorem d_CStack_takeAny_73 : decode b_CStack_takeAny 73 = .ok (.baload, 1) := by decide +kernel
theorem d_CStack_takeAny_74 : decode b_CStack_takeAny 74 = .ok (.ifCond .eq 8, 3) := by decide +kernel
theorem d_CStack_takeAny_77 : decode b_CStack_takeAny 77 = .ok (.aload_n 0, 1) := by decide +kernel
theorem d_CStack_takeAny_78 : decode b_CStack_takeAny 78 = .ok (.iconst 1, 1) := by decide +kernel
theorem d_CStack_takeAny_79 : decode b_CStack_takeAny 79 = .ok (.putfield 42, 3) := by decide +kernel
theorem d_CStack_takeAny_82 : decode b_CStack_takeAny 82 = .ok (.iconst 0, 1) := by decide +kernel
theorem d_CStack_takeAny_83 : decode b_CStack_takeAny 83 = .ok (.ireturn, 1) := by decide +kernel
theorem d_CStack_fail_0 : decode b_CStack_fail 0 = .ok (.aload_n 0, 1) := by decide +kernel
theorem d_CStack_fail_1 : decode b_CStack_fail 1 = .ok (.getfield 42, 3) := by decide +kernel
theorem d_CStack_fail_4 : decode b_CStack_fail 4 = .ok (.ifCond .ne 8, 3) := by decide +kernel
theorem d_CStack_fail_7 : decode b_CStack_fail 7 = .ok (.aload_n 0, 1) := by decide +kernel
theorem d_CStack_fail_8 : decode b_CStack_fail 8 = .ok (.iload_n 1, 1) := by decide +kernel
theorem d_CStack_fail_9 : decode b_CStack_fail 9 = .ok (.putfield 42, 3) := by decide +kernel
theorem d_CStack_fail_12 : decode b_CStack_fail 12 = .ok (.return_, 1) := by decide +kernel
theorem d_CStack_give_0 : decode b_CStack_give 0 = .ok (.aload_n 0, 1) := by decide +kernel
theorem d_CStack_give_1 : decode b_CStack_give 1 = .ok (.getfield 42, 3) := by decide +kernel
theorem d_CStack_give_4 : decode b_CStack_give 4 = .ok (.ifCond .eq 4, 3) := by decide +kernel
theorem d_CStack_give_7 : decode b_CStack_give 7 = .ok (.return_, 1) := by decide +kernel
theorem d_CStack_give_8 : decode b_CStack_give 8 = .ok (.aload_n 0, 1) := by decide +kernel
theorem d_CStack_give_9 : decode b_CStack_give 9 = .ok (.getfield 35, 3) := by decide +kernel
theorem d_CStack_give_12 : decode b_CStack_give 12 = .ok (.ifCond .lt 15, 3) := by decide +kernel
theorem d_CStack_give_15 : decode b_CStack_give 15 = .ok (.aload_n 0, 1) := by decide +kernel
theorem d_CStack_give_16 : decode b_CStack_give 16 = .ok (.getfield 35, 3) := by decide +kernel
theorem d_CStack_give_19 : decode b_CStack_give 19 = .ok (.aload_n 0, 1) := by decide +kernel
theorem d_CStack_give_20 : decode b_CStack_give 20 = .ok (.getfield 9, 3) := by decide +kernel
theorem d_CStack_give_23 : decode b_CStack_give 23 = .ok (.arraylength, 1) := by decide +kernel
theorem d_CStack_give_24 : decode b_CStack_give 24 = .ok (.if_icmp .lt 10, 3) := by decide +kernel
theorem d_CStack_give_27 : decode b_CStack_give 27 = .ok (.aload_n 0, 1) := by decide +kernel
theorem d_CStack_give_28 : decode b_CStack_give 28 = .ok (.bipush 15, 2) := by decide +kernel
theorem d_CStack_give_30 : decode b_CStack_give 30 = .ok (.putfield 42, 3) := by decide +kernel
theorem d_CStack_give_33 : decode b_CStack_give 33 = .ok (.return_, 1) := by decide +kernel
theorem d_CStack_give_34 : decode b_CStack_give 34 = .ok (.aload_n 0, 1) := by decide +kernel
theorem d_CStack_give_35 : decode b_CStack_give 35 = .ok (.getfield 9, 3) := by decide +kernel
theorem d_CStack_give_38 : decode b_CStack_give 38 = .ok (.aload_n 0, 1) := by decide +kernel
theorem d_CStack_give_39 : decode b_CStack_give 39 = .ok (.getfield 35, 3) := by decide +kernel
theorem d_CStack_give_42 : decode b_CStack_give 42 = .ok (.iload_n 1, 1) := by decide +kernel
theorem d_CStack_give_43 : decode b_CStack_give 43 = .ok (.iastore, 1) := by decide +kernel
theorem d_CStack_give_44 : decode b_CStack_give 44 = .ok (.aload_n 0, 1) := by decide +kernel
theorem d_CStack_give_45 : decode b_CStack_give 45 = .ok (.dup, 1) := by decide +kernel
theorem d_CStack_give_46 : decode b_CStack_give 46 = .ok (.getfield 35, 3) := by decide +kernel
theorem d_CStack_give_49 : decode b_CStack_give 49 = .ok (.iconst 1, 1) := by decide +kernel
theorem d_CStack_give_50 : decode b_CStack_give 50 = .ok (.iadd, 1) := by decide +kernel
theorem d_CStack_give_51 : decode b_CStack_give 51 = .ok (.putfield 35, 3) := by decide +kernel
theorem d_CStack_give_54 : decode b_CStack_give 54 = .ok (.return_, 1) := by decide +kernel
theorem d_CCode_carryOutBlock_0 : decode b_CCode_carryOutBlock 0 = .ok (.iload_n 1, 1) := by decide +kernel
theorem d_CCode_carryOutBlock_1 : decode b_CCode_carryOutBlock 1 = .ok (.tableswitch 127 0 11 #[63, 127, 73, 73, 85, 107, 127, 127, 127, 127, 127, 117], 63) := by decide +kernel
theorem d_CCode_carryOutBlock_64 : decode b_CCode_carryOutBlock 64 = .ok (.aload_n 0, 1) := by decide +kernel
theorem d_CCode_carryOutBlock_65 : decode b_CCode_carryOutBlock 65 = .ok (.getfield 35, 3) := by decide +kernel
theorem d_CCode_carryOutBlock_68 : decode b_CCode_carryOutBlock 68 = .ok (.invokevirtual 224, 3) := by decide +kernel
theorem d_CCode_carryOutBlock_71 : decode b_CCode_carryOutBlock 71 = .ok (.goto 57, 3) := by decide +kernel
theorem d_CCode_carryOutBlock_74 : decode b_CCode_carryOutBlock 74 = .ok (.aload_n 0, 1) := by decide +kernel
theorem d_CCode_carryOutBlock_75 : decode b_CCode_carryOutBlock 75 = .ok (.getfield 35, 3) := by decide +kernel
theorem d_CCode_carryOutBlock_78 : decode b_CCode_carryOutBlock 78 = .ok (.iload_n 1, 1) := by decide +kernel
theorem d_CCode_carryOutBlock_79 : decode b_CCode_carryOutBlock 79 = .ok (.iload_n 2, 1) := by decide +kernel
theorem d_CCode_carryOutBlock_80 : decode b_CCode_carryOutBlock 80 = .ok (.invokevirtual 227, 3) := by decide +kernel
theorem d_CCode_carryOutBlock_83 : decode b_CCode_carryOutBlock 83 = .ok (.goto 45, 3) := by decide +kernel
theorem d_CCode_carryOutBlock_86 : decode b_CCode_carryOutBlock 86 = .ok (.aload_n 0, 1) := by decide +kernel
theorem d_CCode_carryOutBlock_87 : decode b_CCode_carryOutBlock 87 = .ok (.getfield 35, 3) := by decide +kernel
theorem d_CCode_carryOutBlock_90 : decode b_CCode_carryOutBlock 90 = .ok (.bipush 127, 2) := by decide +kernel
theorem d_CCode_carryOutBlock_92 : decode b_CCode_carryOutBlock 92 = .ok (.invokevirtual 230, 3) := by decide +kernel
theorem d_CCode_carryOutBlock_95 : decode b_CCode_carryOutBlock 95 = .ok (.pop, 1) := by decide +kernel
theorem d_CCode_carryOutBlock_96 : decode b_CCode_carryOutBlock 96 = .ok (.aload_n 0, 1) := by decide +kernel
theorem d_CCode_carryOutBlock_97 : decode b_CCode_carryOutBlock 97 = .ok (.getfield 35, 3) := by decide +kernel
theorem d_CCode_carryOutBlock_100 : decode b_CCode_carryOutBlock 100 = .ok (.iload_n 1, 1) := by decide +kernel
theorem d_CCode_carryOutBlock_101 : decode b_CCode_carryOutBlock 101 = .ok (.iload_n 2, 1) := by decide +kernel
theorem d_CCode_carryOutBlock_102 : decode b_CCode_carryOutBlock 102 = .ok (.invokevirtual 227, 3) := by decide +kernel
theorem d_CCode_carryOutBlock_105 : decode b_CCode_carryOutBlock 105 = .ok (.goto 23, 3) := by decide +kernel
theorem d_CCode_carryOutBlock_108 : decode b_CCode_carryOutBlock 108 = .ok (.aload_n 0, 1) := by decide +kernel
theorem d_CCode_carryOutBlock_109 : decode b_CCode_carryOutBlock 109 = .ok (.getfield 35, 3) := by decide +kernel
theorem d_CCode_carryOutBlock_112 : decode b_CCode_carryOutBlock 112 = .ok (.invokevirtual 233, 3) := by decide +kernel
theorem d_CCode_carryOutBlock_115 : decode b_CCode_carryOutBlock 115 = .ok (.goto 13, 3) := by decide +kernel
theorem d_CCode_carryOutBlock_118 : decode b_CCode_carryOutBlock 118 = .ok (.aload_n 0, 1) := by decide +kernel
theorem d_CCode_carryOutBlock_119 : decode b_CCode_carryOutBlock 119 = .ok (.getfield 35, 3) := by decide +kernel
theorem d_CCode_carryOutBlock_122 : decode b_CCode_carryOutBlock 122 = .ok (.invokevirtual 236, 3) := by decide +kernel
theorem d_CCode_carryOutBlock_125 : decode b_CCode_carryOutBlock 125 = .ok (.goto 3, 3) := by decide +kernel
theorem d_CCode_carryOutBlock_128 : decode b_CCode_carryOutBlock 128 = .ok (.return_, 1) := by decide +kernel
theorem d_CStack_closeBlock_0 : decode b_CStack_closeBlock 0 = .ok (.aload_n 0, 1) := by decide +kernel
theorem d_CStack_closeBlock_1 : decode b_CStack_closeBlock 1 = .ok (.aload_n 0, 1) := by decide +kernel
theorem d_CStack_closeBlock_2 : decode b_CStack_closeBlock 2 = .ok (.getfield 15, 3) := by decide +kernel
theorem d_CStack_closeBlock_5 : decode b_CStack_closeBlock 5 = .ok (.iconst 0, 1) := by decide +kernel
theorem d_CStack_closeBlock_6 : decode b_CStack_closeBlock 6 = .ok (.invokevirtual 49, 3) := by decide +kernel
theorem d_CStack_closeBlock_9 : decode b_CStack_closeBlock 9 = .ok (.istore_n 1, 1) := by decide +kernel
theorem d_CStack_closeBlock_10 : decode b_CStack_closeBlock 10 = .ok (.aload_n 0, 1) := by decide +kernel
theorem d_CStack_closeBlock_11 : decode b_CStack_closeBlock 11 = .ok (.aload_n 0, 1) := by decide +kernel
theorem d_CStack_closeBlock_12 : decode b_CStack_closeBlock 12 = .ok (.getfield 31, 3) := by decide +kernel
theorem d_CStack_closeBlock_15 : decode b_CStack_closeBlock 15 = .ok (.getfield 100, 3) := by decide +kernel
theorem d_CStack_closeBlock_18 : decode b_CStack_closeBlock 18 = .ok (.iload_n 1, 1) := by decide +kernel
theorem d_CStack_closeBlock_19 : decode b_CStack_closeBlock 19 = .ok (.invokevirtual 87, 3) := by decide +kernel
theorem d_CStack_closeBlock_22 : decode b_CStack_closeBlock 22 = .ok (.aload_n 0, 1) := by decide +kernel
theorem d_CStack_closeBlock_23 : decode b_CStack_closeBlock 23 = .ok (.invokevirtual 103, 3) := by decide +kernel
theorem d_CStack_closeBlock_26 : decode b_CStack_closeBlock 26 = .ok (.aload_n 0, 1) := by decide +kernel
theorem d_CStack_closeBlock_27 : decode b_CStack_closeBlock 27 = .ok (.invokevirtual 97, 3) := by decide +kernel
theorem d_CStack_closeBlock_30 : decode b_CStack_closeBlock 30 = .ok (.iconst 4, 1) := by decide +kernel
theorem d_CStack_closeBlock_31 : decode b_CStack_closeBlock 31 = .ok (.if_icmp .ne 19, 3) := by decide +kernel
theorem d_CStack_closeBlock_34 : decode b_CStack_closeBlock 34 = .ok (.aload_n 0, 1) := by decide +kernel
theorem d_CStack_closeBlock_35 : decode b_CStack_closeBlock 35 = .ok (.getfield 31, 3) := by decide +kernel
theorem d_CStack_closeBlock_38 : decode b_CStack_closeBlock 38 = .ok (.iload_n 1, 1) := by decide +kernel
theorem d_CStack_closeBlock_39 : decode b_CStack_closeBlock 39 = .ok (.invokevirtual 106, 3) := by decide +kernel
theorem d_CStack_closeBlock_42 : decode b_CStack_closeBlock 42 = .ok (.ifCond .ne 8, 3) := by decide +kernel
theorem d_CStack_closeBlock_45 : decode b_CStack_closeBlock 45 = .ok (.aload_n 0, 1) := by decide +kernel
theorem d_CStack_closeBlock_46 : decode b_CStack_closeBlock 46 = .ok (.iconst 4, 1) := by decide +kernel
theorem d_CStack_closeBlock_47 : decode b_CStack_closeBlock 47 = .ok (.invokevirtual 61, 3) := by decide +kernel
theorem d_CStack_closeBlock_50 : decode b_CStack_closeBlock 50 = .ok (.aload_n 0, 1) := by decide +kernel
theorem d_CStack_closeBlock_51 : decode b_CStack_closeBlock 51 = .ok (.getfield 42, 3) := by decide +kernel
theorem d_CStack_closeBlock_54 : decode b_CStack_closeBlock 54 = .ok (.ifCond .ne 10, 3) := by decide +kernel
theorem d_CStack_closeBlock_57 : decode b_CStack_closeBlock 57 = .ok (.aload_n 0, 1) := by decide +kernel
theorem d_CStack_closeBlock_58 : decode b_CStack_closeBlock 58 = .ok (.invokevirtual 53, 3) := by decide +kernel
theorem d_CStack_closeBlock_61 : decode b_CStack_closeBlock 61 = .ok (.ifCond .ne 4, 3) := by decide +kernel
theorem d_CStack_closeBlock_64 : decode b_CStack_closeBlock 64 = .ok (.return_, 1) := by decide +kernel
theorem d_CStack_closeBlock_65 : decode b_CStack_closeBlock 65 = .ok (.aload_n 0, 1) := by decide +kernel
theorem d_CStack_closeBlock_66 : decode b_CStack_closeBlock 66 = .ok (.dup, 1) := by decide +kernel
theorem d_CStack_closeBlock_67 : decode b_CStack_closeBlock 67 = .ok (.getfield 39, 3) := by decide +kernel
theorem d_CStack_closeBlock_70 : decode b_CStack_closeBlock 70 = .ok (.iconst 1, 1) := by decide +kernel
theorem d_CStack_closeBlock_71 : decode b_CStack_closeBlock 71 = .ok (.isub, 1) := by decide +kernel
theorem d_CStack_closeBlock_72 : decode b_CStack_closeBlock 72 = .ok (.putfield 39, 3) := by decide +kernel
theorem d_CStack_closeBlock_75 : decode b_CStack_closeBlock 75 = .ok (.aload_n 0, 1) := by decide +kernel
theorem d_CStack_closeBlock_76 : decode b_CStack_closeBlock 76 = .ok (.getfield 39, 3) := by decide +kernel
theorem d_CStack_closeBlock_79 : decode b_CStack_closeBlock 79 = .ok (.ifCond .le 15, 3) := by decide +kernel
theorem d_CStack_closeBlock_82 : decode b_CStack_closeBlock 82 = .ok (.aload_n 0, 1) := by decide +kernel
theorem d_CStack_closeBlock_83 : decode b_CStack_closeBlock 83 = .ok (.aload_n 0, 1) := by decide +kernel
theorem d_CStack_closeBlock_84 : decode b_CStack_closeBlock 84 = .ok (.getfield 31, 3) := by decide +kernel
theorem d_CStack_closeBlock_87 : decode b_CStack_closeBlock 87 = .ok (.getfield 100, 3) := by decide +kernel
theorem d_CStack_closeBlock_90 : decode b_CStack_closeBlock 90 = .ok (.iload_n 1, 1) := by decide +kernel
theorem d_CStack_closeBlock_91 : decode b_CStack_closeBlock 91 = .ok (.invokevirtual 91, 3) := by decide +kernel
theorem d_CStack_closeBlock_94 : decode b_CStack_closeBlock 94 = .ok (.return_, 1) := by decide +kernel
theorem d_CStack_ofBlock_0 : decode b_CStack_ofBlock 0 = .ok (.aload_n 0, 1) := by decide +kernel
theorem d_CStack_ofBlock_1 : decode b_CStack_ofBlock 1 = .ok (.getfield 39, 3) := by decide +kernel
theorem d_CStack_ofBlock_4 : decode b_CStack_ofBlock 4 = .ok (.iconst 1, 1) := by decide +kernel
theorem d_CStack_ofBlock_5 : decode b_CStack_ofBlock 5 = .ok (.isub, 1) := by decide +kernel
theorem d_CStack_ofBlock_6 : decode b_CStack_ofBlock 6 = .ok (.iload_n 2, 1) := by decide +kernel
theorem d_CStack_ofBlock_7 : decode b_CStack_ofBlock 7 = .ok (.isub, 1) := by decide +kernel
theorem d_CStack_ofBlock_8 : decode b_CStack_ofBlock 8 = .ok (.istore_n 3, 1) := by decide +kernel
theorem d_CStack_ofBlock_9 : decode b_CStack_ofBlock 9 = .ok (.iload_n 2, 1) := by decide +kernel
theorem d_CStack_ofBlock_10 : decode b_CStack_ofBlock 10 = .ok (.ifCond .lt 19, 3) := by decide +kernel
theorem d_CStack_ofBlock_13 : decode b_CStack_ofBlock 13 = .ok (.iload_n 3, 1) := by decide +kernel
theorem d_CStack_ofBlock_14 : decode b_CStack_ofBlock 14 = .ok (.ifCond .lt 15, 3) := by decide +kernel
theorem d_CStack_ofBlock_17 : decode b_CStack_ofBlock 17 = .ok (.iload_n 3, 1) := by decide +kernel
theorem d_CStack_ofBlock_18 : decode b_CStack_ofBlock 18 = .ok (.aload_n 1, 1) := by decide +kernel
theorem d_CStack_ofBlock_19 : decode b_CStack_ofBlock 19 = .ok (.arraylength, 1) := by decide +kernel
theorem d_CStack_ofBlock_20 : decode b_CStack_ofBlock 20 = .ok (.if_icmp .ge 9, 3) := by decide +kernel
theorem d_CStack_ofBlock_23 : decode b_CStack_ofBlock 23 = .ok (.aload_n 1, 1) := by decide +kernel
theorem d_CStack_ofBlock_24 : decode b_CStack_ofBlock 24 = .ok (.iload_n 3, 1) := by decide +kernel
theorem d_CStack_ofBlock_25 : decode b_CStack_ofBlock 25 = .ok (.iaload, 1) := by decide +kernel
theorem d_CStack_ofBlock_26 : decode b_CStack_ofBlock 26 = .ok (.goto 4, 3) := by decide +kernel
theorem d_CStack_ofBlock_29 : decode b_CStack_ofBlock 29 = .ok (.iconst 0, 1) := by decide +kernel
theorem d_CStack_ofBlock_30 : decode b_CStack_ofBlock 30 = .ok (.ireturn, 1) := by decide +kernel
theorem d_CStack_takeRow_0 : decode b_CStack_takeRow 0 = .ok (.aload_n 1, 1) := by decide +kernel
theorem d_CStack_takeRow_1 : decode b_CStack_takeRow 1 = .ok (.iload_n 2, 1) := by decide +kernel
theorem d_CStack_takeRow_2 : decode b_CStack_takeRow 2 = .ok (.invokevirtual 69, 3) := by decide +kernel
theorem d_CStack_takeRow_5 : decode b_CStack_takeRow 5 = .ok (.iconst 1, 1) := by decide +kernel
theorem d_CStack_takeRow_6 : decode b_CStack_takeRow 6 = .ok (.isub, 1) := by decide +kernel
theorem d_CStack_takeRow_7 : decode b_CStack_takeRow 7 = .ok (.istore_n 3, 1) := by decide +kernel
theorem d_CStack_takeRow_8 : decode b_CStack_takeRow 8 = .ok (.iload_n 3, 1) := by decide +kernel
theorem d_CStack_takeRow_9 : decode b_CStack_takeRow 9 = .ok (.ifCond .lt 20, 3) := by decide +kernel
theorem d_CStack_takeRow_12 : decode b_CStack_takeRow 12 = .ok (.aload_n 0, 1) := by decide +kernel
theorem d_CStack_takeRow_13 : decode b_CStack_takeRow 13 = .ok (.aload_n 1, 1) := by decide +kernel
theorem d_CStack_takeRow_14 : decode b_CStack_takeRow 14 = .ok (.iload_n 2, 1) := by decide +kernel
theorem d_CStack_takeRow_15 : decode b_CStack_takeRow 15 = .ok (.iload_n 3, 1) := by decide +kernel
theorem d_CStack_takeRow_16 : decode b_CStack_takeRow 16 = .ok (.invokevirtual 74, 3) := by decide +kernel
theorem d_CStack_takeRow_19 : decode b_CStack_takeRow 19 = .ok (.invokevirtual 65, 3) := by decide +kernel
theorem d_CStack_takeRow_22 : decode b_CStack_takeRow 22 = .ok (.pop, 1) := by decide +kernel
theorem d_CStack_takeRow_23 : decode b_CStack_takeRow 23 = .ok (.iinc 3 (-1), 3) := by decide +kernel
theorem d_CStack_takeRow_26 : decode b_CStack_takeRow 26 = .ok (.goto (-18), 3) := by decide +kernel
theorem d_CStack_takeRow_29 : decode b_CStack_takeRow 29 = .ok (.return_, 1) := by decide +kernel
theorem d_CStack_expectNoMoreOperands_0 : decode b_CStack_expectNoMoreOperands 0 = .ok (.aload_n 0, 1) := by decide +kernel
theorem d_CStack_expectNoMoreOperands_1 : decode b_CStack_expectNoMoreOperands 1 = .ok (.getfield 35, 3) := by decide +kernel
theorem d_CStack_expectNoMoreOperands_4 : decode b_CStack_expectNoMoreOperands 4 = .ok (.aload_n 0, 1) := by decide +kernel
theorem d_CStack_expectNoMoreOperands_5 : decode b_CStack_expectNoMoreOperands 5 = .ok (.invokevirtual 94, 3) := by decide +kernel
theorem d_CStack_expectNoMoreOperands_8 : decode b_CStack_expectNoMoreOperands 8 = .ok (.if_icmp .le 8, 3) := by decide +kernel
theorem d_CStack_expectNoMoreOperands_11 : decode b_CStack_expectNoMoreOperands 11 = .ok (.aload_n 0, 1) := by decide +kernel
theorem d_CStack_expectNoMoreOperands_12 : decode b_CStack_expectNoMoreOperands 12 = .ok (.iconst 3, 1) := by decide +kernel
theorem d_CStack_expectNoMoreOperands_13 : decode b_CStack_expectNoMoreOperands 13 = .ok (.invokevirtual 61, 3) := by decide +kernel
theorem d_CStack_expectNoMoreOperands_16 : decode b_CStack_expectNoMoreOperands 16 = .ok (.return_, 1) := by decide +kernel
theorem d_CStack_height_0 : decode b_CStack_height 0 = .ok (.aload_n 0, 1) := by decide +kernel
theorem d_CStack_height_1 : decode b_CStack_height 1 = .ok (.aload_n 0, 1) := by decide +kernel
theorem d_CStack_height_2 : decode b_CStack_height 2 = .ok (.getfield 18, 3) := by decide +kernel
