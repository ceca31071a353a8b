theorem d_MC_number_162 : decode b_MC_number 162 = .ok (.aload_n 0, 1) := by decide +kernel
theorem d_MC_number_163 : decode b_MC_number 163 = .ok (.iload_n 1, 1) := by decide +kernel
theorem d_MC_number_164 : decode b_MC_number 164 = .ok (.sipush 146, 3) := by decide +kernel
theorem d_MC_number_167 : decode b_MC_number 167 = .ok (.if_icmp .ge 7, 3) := by decide +kernel
theorem d_MC_number_170 : decode b_MC_number 170 = .ok (.iconst 1, 1) := by decide +kernel
theorem d_MC_number_171 : decode b_MC_number 171 = .ok (.goto 4, 3) := by decide +kernel
theorem d_MC_number_174 : decode b_MC_number 174 = .ok (.iconst 0, 1) := by decide +kernel
theorem d_MC_number_175 : decode b_MC_number 175 = .ok (.bipush 125, 2) := by decide +kernel
theorem d_MC_number_177 : decode b_MC_number 177 = .ok (.invokevirtual 258, 3) := by decide +kernel
theorem d_MC_number_180 : decode b_MC_number 180 = .ok (.goto 43, 3) := by decide +kernel
theorem d_MC_number_183 : decode b_MC_number 183 = .ok (.iload_n 1, 1) := by decide +kernel
theorem d_MC_number_184 : decode b_MC_number 184 = .ok (.sipush 167, 3) := by decide +kernel
theorem d_MC_number_187 : decode b_MC_number 187 = .ok (.if_icmp .ge 24, 3) := by decide +kernel
theorem d_MC_number_190 : decode b_MC_number 190 = .ok (.aload_n 0, 1) := by decide +kernel
theorem d_MC_number_191 : decode b_MC_number 191 = .ok (.iload_n 1, 1) := by decide +kernel
theorem d_MC_number_192 : decode b_MC_number 192 = .ok (.sipush 160, 3) := by decide +kernel
theorem d_MC_number_195 : decode b_MC_number 195 = .ok (.if_icmp .ge 7, 3) := by decide +kernel
theorem d_MC_number_198 : decode b_MC_number 198 = .ok (.iconst 1, 1) := by decide +kernel
theorem d_MC_number_199 : decode b_MC_number 199 = .ok (.goto 4, 3) := by decide +kernel
theorem d_MC_number_202 : decode b_MC_number 202 = .ok (.iconst 0, 1) := by decide +kernel
theorem d_MC_number_203 : decode b_MC_number 203 = .ok (.bipush 124, 2) := by decide +kernel
theorem d_MC_number_205 : decode b_MC_number 205 = .ok (.invokevirtual 258, 3) := by decide +kernel
theorem d_MC_number_208 : decode b_MC_number 208 = .ok (.goto 15, 3) := by decide +kernel
theorem d_MC_number_211 : decode b_MC_number 211 = .ok (.aload_n 0, 1) := by decide +kernel
theorem d_MC_number_212 : decode b_MC_number 212 = .ok (.iload_n 1, 1) := by decide +kernel
theorem d_MC_number_213 : decode b_MC_number 213 = .ok (.invokestatic 262, 3) := by decide +kernel
theorem d_MC_number_216 : decode b_MC_number 216 = .ok (.iload_n 1, 1) := by decide +kernel
theorem d_MC_number_217 : decode b_MC_number 217 = .ok (.invokestatic 265, 3) := by decide +kernel
theorem d_MC_number_220 : decode b_MC_number 220 = .ok (.invokevirtual 252, 3) := by decide +kernel
theorem d_MC_number_223 : decode b_MC_number 223 = .ok (.return_, 1) := by decide +kernel
theorem d_MC_calculate_0 : decode b_MC_calculate 0 = .ok (.iload_n 1, 1) := by decide +kernel
theorem d_MC_calculate_1 : decode b_MC_calculate 1 = .ok (.ifCond .eq 12, 3) := by decide +kernel
theorem d_MC_calculate_4 : decode b_MC_calculate 4 = .ok (.aload_n 0, 1) := by decide +kernel
theorem d_MC_calculate_5 : decode b_MC_calculate 5 = .ok (.iload_n 2, 1) := by decide +kernel
theorem d_MC_calculate_6 : decode b_MC_calculate 6 = .ok (.iload_n 2, 1) := by decide +kernel
theorem d_MC_calculate_7 : decode b_MC_calculate 7 = .ok (.invokevirtual 252, 3) := by decide +kernel
theorem d_MC_calculate_10 : decode b_MC_calculate 10 = .ok (.goto 9, 3) := by decide +kernel
theorem d_MC_calculate_13 : decode b_MC_calculate 13 = .ok (.aload_n 0, 1) := by decide +kernel
theorem d_MC_calculate_14 : decode b_MC_calculate 14 = .ok (.iload_n 2, 1) := by decide +kernel
theorem d_MC_calculate_15 : decode b_MC_calculate 15 = .ok (.iload_n 2, 1) := by decide +kernel
theorem d_MC_calculate_16 : decode b_MC_calculate 16 = .ok (.invokevirtual 249, 3) := by decide +kernel
theorem d_MC_calculate_19 : decode b_MC_calculate 19 = .ok (.return_, 1) := by decide +kernel
theorem d_MC_from_0 : decode b_MC_from 0 = .ok (.iload_n 0, 1) := by decide +kernel
theorem d_MC_from_1 : decode b_MC_from 1 = .ok (.tableswitch 412 167 263 #[403, 406, 406, 409, 409, 412, 412, 406, 406, 409, 409, 412, 412, 403, 403, 409, 412, 412, 403, 403, 406, 406, 409, 412, 403, 412, 412, 403, 403, 403, 412, 412, 412, 412, 412, 412, 412, 412, 412, 412, 412, 412, 412, 412, 412, 412, 412, 412, 412, 412, 412, 412, 412, 412, 412, 412, 412, 412, 412, 412, 412, 412, 412, 412, 412, 412, 412, 412, 412, 412, 412, 412, 412, 412, 412, 412, 412, 412, 412, 412, 412, 412, 412, 412, 412, 412, 412, 412, 412, 406, 406, 409, 409, 406, 406, 409, 409], 403) := by decide +kernel
theorem d_MC_from_404 : decode b_MC_from 404 = .ok (.bipush 126, 2) := by decide +kernel
theorem d_MC_from_406 : decode b_MC_from 406 = .ok (.ireturn, 1) := by decide +kernel
theorem d_MC_from_407 : decode b_MC_from 407 = .ok (.bipush 125, 2) := by decide +kernel
theorem d_MC_from_409 : decode b_MC_from 409 = .ok (.ireturn, 1) := by decide +kernel
theorem d_MC_from_410 : decode b_MC_from 410 = .ok (.bipush 124, 2) := by decide +kernel
theorem d_MC_from_412 : decode b_MC_from 412 = .ok (.ireturn, 1) := by decide +kernel
theorem d_MC_from_413 : decode b_MC_from 413 = .ok (.bipush 127, 2) := by decide +kernel
theorem d_MC_from_415 : decode b_MC_from 415 = .ok (.ireturn, 1) := by decide +kernel
theorem d_MC_to_0 : decode b_MC_to 0 = .ok (.iload_n 0, 1) := by decide +kernel
theorem d_MC_to_1 : decode b_MC_to 1 = .ok (.tableswitch 392 172 263 #[383, 383, 383, 383, 383, 383, 386, 386, 386, 386, 386, 389, 389, 389, 389, 389, 392, 383, 386, 389, 392, 392, 383, 383, 383, 392, 392, 392, 392, 392, 392, 392, 392, 392, 392, 392, 392, 392, 392, 392, 392, 392, 392, 392, 392, 392, 392, 392, 392, 392, 392, 392, 392, 392, 392, 392, 392, 392, 392, 392, 392, 392, 392, 392, 392, 392, 392, 392, 392, 392, 392, 392, 392, 392, 392, 392, 392, 392, 392, 392, 392, 392, 392, 392, 392, 392, 392, 392, 383, 383, 383, 383], 383) := by decide +kernel
theorem d_MC_to_384 : decode b_MC_to 384 = .ok (.bipush 126, 2) := by decide +kernel
theorem d_MC_to_386 : decode b_MC_to 386 = .ok (.ireturn, 1) := by decide +kernel
theorem d_MC_to_387 : decode b_MC_to 387 = .ok (.bipush 125, 2) := by decide +kernel
theorem d_MC_to_389 : decode b_MC_to 389 = .ok (.ireturn, 1) := by decide +kernel
theorem d_MC_to_390 : decode b_MC_to 390 = .ok (.bipush 124, 2) := by decide +kernel
theorem d_MC_to_392 : decode b_MC_to 392 = .ok (.ireturn, 1) := by decide +kernel
theorem d_MC_to_393 : decode b_MC_to 393 = .ok (.bipush 127, 2) := by decide +kernel
theorem d_MC_to_395 : decode b_MC_to 395 = .ok (.ireturn, 1) := by decide +kernel
theorem d_MC_state_0 : decode b_MC_state 0 = .ok (.aload_n 0, 1) := by decide +kernel
theorem d_MC_state_1 : decode b_MC_state 1 = .ok (.getfield 80, 3) := by decide +kernel
theorem d_MC_state_4 : decode b_MC_state 4 = .ok (.ireturn, 1) := by decide +kernel
theorem d_MC_look_0 : decode b_MC_look 0 = .ok (.aload_n 0, 1) := by decide +kernel
theorem d_MC_look_1 : decode b_MC_look 1 = .ok (.getfield 80, 3) := by decide +kernel
theorem d_MC_look_4 : decode b_MC_look 4 = .ok (.iconst 1, 1) := by decide +kernel
theorem d_MC_look_5 : decode b_MC_look 5 = .ok (.if_icmp .ne 12, 3) := by decide +kernel
theorem d_MC_look_8 : decode b_MC_look 8 = .ok (.iload_n 1, 1) := by decide +kernel
theorem d_MC_look_9 : decode b_MC_look 9 = .ok (.ifCond .lt 8, 3) := by decide +kernel
theorem d_MC_look_12 : decode b_MC_look 12 = .ok (.iload_n 1, 1) := by decide +kernel
theorem d_MC_look_13 : decode b_MC_look 13 = .ok (.iconst 5, 1) := by decide +kernel
theorem d_MC_look_14 : decode b_MC_look 14 = .ok (.if_icmp .le 7, 3) := by decide +kernel
theorem d_MC_look_17 : decode b_MC_look 17 = .ok (.ldc2_w 306, 3) := by decide +kernel
theorem d_MC_look_20 : decode b_MC_look 20 = .ok (.lreturn, 1) := by decide +kernel
theorem d_MC_look_21 : decode b_MC_look 21 = .ok (.aload_n 0, 1) := by decide +kernel
theorem d_MC_look_22 : decode b_MC_look 22 = .ok (.getfield 104, 3) := by decide +kernel
theorem d_MC_look_25 : decode b_MC_look 25 = .ok (.iconst 1, 1) := by decide +kernel
theorem d_MC_look_26 : decode b_MC_look 26 = .ok (.isub, 1) := by decide +kernel
theorem d_MC_look_27 : decode b_MC_look 27 = .ok (.istore_n 2, 1) := by decide +kernel
theorem d_MC_look_28 : decode b_MC_look 28 = .ok (.lconst 0, 1) := by decide +kernel
theorem d_MC_look_29 : decode b_MC_look 29 = .ok (.lstore_n 3, 1) := by decide +kernel
theorem d_MC_look_30 : decode b_MC_look 30 = .ok (.iconst 0, 1) := by decide +kernel
theorem d_MC_look_31 : decode b_MC_look 31 = .ok (.istore 5, 2) := by decide +kernel
theorem d_MC_look_33 : decode b_MC_look 33 = .ok (.iload 5, 2) := by decide +kernel
theorem d_MC_look_35 : decode b_MC_look 35 = .ok (.aload_n 0, 1) := by decide +kernel
theorem d_MC_look_36 : decode b_MC_look 36 = .ok (.getfield 92, 3) := by decide +kernel
theorem d_MC_look_39 : decode b_MC_look 39 = .ok (.if_icmp .ge 19, 3) := by decide +kernel
theorem d_MC_look_42 : decode b_MC_look 42 = .ok (.lload_n 3, 1) := by decide +kernel
theorem d_MC_look_43 : decode b_MC_look 43 = .ok (.aload_n 0, 1) := by decide +kernel
theorem d_MC_look_44 : decode b_MC_look 44 = .ok (.getfield 38, 3) := by decide +kernel
theorem d_MC_look_47 : decode b_MC_look 47 = .ok (.iload 5, 2) := by decide +kernel
theorem d_MC_look_49 : decode b_MC_look 49 = .ok (.laload, 1) := by decide +kernel
theorem d_MC_look_50 : decode b_MC_look 50 = .ok (.ladd, 1) := by decide +kernel
theorem d_MC_look_51 : decode b_MC_look 51 = .ok (.lstore_n 3, 1) := by decide +kernel
theorem d_MC_look_52 : decode b_MC_look 52 = .ok (.iinc 5 1, 3) := by decide +kernel
theorem d_MC_look_55 : decode b_MC_look 55 = .ok (.goto (-22), 3) := by decide +kernel
theorem d_MC_look_58 : decode b_MC_look 58 = .ok (.iload_n 1, 1) := by decide +kernel
theorem d_MC_look_59 : decode b_MC_look 59 = .ok (.ifCond .ne 11, 3) := by decide +kernel
theorem d_MC_look_62 : decode b_MC_look 62 = .ok (.aload_n 0, 1) := by decide +kernel
theorem d_MC_look_63 : decode b_MC_look 63 = .ok (.getfield 101, 3) := by decide +kernel
theorem d_MC_look_66 : decode b_MC_look 66 = .ok (.i2l, 1) := by decide +kernel
theorem d_MC_look_67 : decode b_MC_look 67 = .ok (.goto 69, 3) := by decide +kernel
theorem d_MC_look_70 : decode b_MC_look 70 = .ok (.iload_n 1, 1) := by decide +kernel
theorem d_MC_look_71 : decode b_MC_look 71 = .ok (.iconst 1, 1) := by decide +kernel
theorem d_MC_look_72 : decode b_MC_look 72 = .ok (.if_icmp .ne 11, 3) := by decide +kernel
theorem d_MC_look_75 : decode b_MC_look 75 = .ok (.aload_n 0, 1) := by decide +kernel
theorem d_MC_look_76 : decode b_MC_look 76 = .ok (.getfield 104, 3) := by decide +kernel
theorem d_MC_look_79 : decode b_MC_look 79 = .ok (.i2l, 1) := by decide +kernel
theorem d_MC_look_80 : decode b_MC_look 80 = .ok (.goto 56, 3) := by decide +kernel
theorem d_MC_look_83 : decode b_MC_look 83 = .ok (.iload_n 1, 1) := by decide +kernel
theorem d_MC_look_84 : decode b_MC_look 84 = .ok (.iconst 2, 1) := by decide +kernel
theorem d_MC_look_85 : decode b_MC_look 85 = .ok (.if_icmp .ne 13, 3) := by decide +kernel
theorem d_MC_look_88 : decode b_MC_look 88 = .ok (.aload_n 0, 1) := by decide +kernel
theorem d_MC_look_89 : decode b_MC_look 89 = .ok (.getfield 54, 3) := by decide +kernel
theorem d_MC_look_92 : decode b_MC_look 92 = .ok (.iload_n 2, 1) := by decide +kernel
theorem d_MC_look_93 : decode b_MC_look 93 = .ok (.iaload, 1) := by decide +kernel
theorem d_MC_look_94 : decode b_MC_look 94 = .ok (.i2l, 1) := by decide +kernel
theorem d_MC_look_95 : decode b_MC_look 95 = .ok (.goto 41, 3) := by decide +kernel
theorem d_MC_look_98 : decode b_MC_look 98 = .ok (.iload_n 1, 1) := by decide +kernel
theorem d_MC_look_99 : decode b_MC_look 99 = .ok (.iconst 3, 1) := by decide +kernel
theorem d_MC_look_100 : decode b_MC_look 100 = .ok (.if_icmp .ne 20, 3) := by decide +kernel
theorem d_MC_look_103 : decode b_MC_look 103 = .ok (.aload_n 0, 1) := by decide +kernel
theorem d_MC_look_104 : decode b_MC_look 104 = .ok (.getfield 57, 3) := by decide +kernel
theorem d_MC_look_107 : decode b_MC_look 107 = .ok (.iload_n 2, 1) := by decide +kernel
theorem d_MC_look_108 : decode b_MC_look 108 = .ok (.baload, 1) := by decide +kernel
theorem d_MC_look_109 : decode b_MC_look 109 = .ok (.ifCond .eq 7, 3) := by decide +kernel
theorem d_MC_look_112 : decode b_MC_look 112 = .ok (.lconst 0, 1) := by decide +kernel
theorem d_MC_look_113 : decode b_MC_look 113 = .ok (.goto 23, 3) := by decide +kernel
theorem d_MC_look_116 : decode b_MC_look 116 = .ok (.lconst 1, 1) := by decide +kernel
theorem d_MC_look_117 : decode b_MC_look 117 = .ok (.goto 19, 3) := by decide +kernel
theorem d_MC_look_120 : decode b_MC_look 120 = .ok (.iload_n 1, 1) := by decide +kernel
theorem d_MC_look_121 : decode b_MC_look 121 = .ok (.iconst 4, 1) := by decide +kernel
theorem d_MC_look_122 : decode b_MC_look 122 = .ok (.if_icmp .ne 13, 3) := by decide +kernel
theorem d_MC_look_125 : decode b_MC_look 125 = .ok (.aload_n 0, 1) := by decide +kernel
theorem d_MC_look_126 : decode b_MC_look 126 = .ok (.getfield 48, 3) := by decide +kernel
theorem d_MC_look_129 : decode b_MC_look 129 = .ok (.iload_n 2, 1) := by decide +kernel
theorem d_MC_look_130 : decode b_MC_look 130 = .ok (.iaload, 1) := by decide +kernel
theorem d_MC_look_131 : decode b_MC_look 131 = .ok (.i2l, 1) := by decide +kernel
theorem d_MC_look_132 : decode b_MC_look 132 = .ok (.goto 4, 3) := by decide +kernel
theorem d_MC_look_135 : decode b_MC_look 135 = .ok (.lload_n 3, 1) := by decide +kernel
theorem d_MC_look_136 : decode b_MC_look 136 = .ok (.lreturn, 1) := by decide +kernel
theorem d_MC_operand_0 : decode b_MC_operand 0 = .ok (.aload_n 0, 1) := by decide +kernel
theorem d_MC_operand_1 : decode b_MC_operand 1 = .ok (.getfield 80, 3) := by decide +kernel
theorem d_MC_operand_4 : decode b_MC_operand 4 = .ok (.iconst 1, 1) := by decide +kernel
theorem d_MC_operand_5 : decode b_MC_operand 5 = .ok (.if_icmp .ne 15, 3) := by decide +kernel
theorem d_MC_operand_8 : decode b_MC_operand 8 = .ok (.iload_n 1, 1) := by decide +kernel
theorem d_MC_operand_9 : decode b_MC_operand 9 = .ok (.ifCond .lt 11, 3) := by decide +kernel
theorem d_MC_operand_12 : decode b_MC_operand 12 = .ok (.iload_n 1, 1) := by decide +kernel
theorem d_MC_operand_13 : decode b_MC_operand 13 = .ok (.aload_n 0, 1) := by decide +kernel
theorem d_MC_operand_14 : decode b_MC_operand 14 = .ok (.getfield 101, 3) := by decide +kernel
theorem d_MC_operand_17 : decode b_MC_operand 17 = .ok (.if_icmp .lt 7, 3) := by decide +kernel
theorem d_MC_operand_20 : decode b_MC_operand 20 = .ok (.iconst (-1), 1) := by decide +kernel
theorem d_MC_operand_21 : decode b_MC_operand 21 = .ok (.goto 16, 3) := by decide +kernel
theorem d_MC_operand_24 : decode b_MC_operand 24 = .ok (.aload_n 0, 1) := by decide +kernel
theorem d_MC_operand_25 : decode b_MC_operand 25 = .ok (.getfield 45, 3) := by decide +kernel
theorem d_MC_operand_28 : decode b_MC_operand 28 = .ok (.aload_n 0, 1) := by decide +kernel
theorem d_MC_operand_29 : decode b_MC_operand 29 = .ok (.getfield 101, 3) := by decide +kernel
theorem d_MC_operand_32 : decode b_MC_operand 32 = .ok (.iconst 1, 1) := by decide +kernel
theorem d_MC_operand_33 : decode b_MC_operand 33 = .ok (.isub, 1) := by decide +kernel
theorem d_MC_operand_34 : decode b_MC_operand 34 = .ok (.iload_n 1, 1) := by decide +kernel
theorem d_MC_operand_35 : decode b_MC_operand 35 = .ok (.isub, 1) := by decide +kernel
theorem d_MC_operand_36 : decode b_MC_operand 36 = .ok (.iaload, 1) := by decide +kernel
theorem d_MC_operand_37 : decode b_MC_operand 37 = .ok (.ireturn, 1) := by decide +kernel
theorem d_CRows_init_0 : decode b_CRows_init 0 = .ok (.aload_n 0, 1) := by decide +kernel
theorem d_CRows_init_1 : decode b_CRows_init 1 = .ok (.invokespecial 3, 3) := by decide +kernel
theorem d_CRows_init_4 : decode b_CRows_init 4 = .ok (.aload_n 0, 1) := by decide +kernel
theorem d_CRows_init_5 : decode b_CRows_init 5 = .ok (.bipush 40, 2) := by decide +kernel
theorem d_CRows_init_7 : decode b_CRows_init 7 = .ok (.newarray .int, 2) := by decide +kernel
theorem d_CRows_init_9 : decode b_CRows_init 9 = .ok (.putfield 9, 3) := by decide +kernel
theorem d_CRows_init_12 : decode b_CRows_init 12 = .ok (.aload_n 0, 1) := by decide +kernel
theorem d_CRows_init_13 : decode b_CRows_init 13 = .ok (.sipush 480, 3) := by decide +kernel
theorem d_CRows_init_16 : decode b_CRows_init 16 = .ok (.newarray .int, 2) := by decide +kernel
theorem d_CRows_init_18 : decode b_CRows_init 18 = .ok (.putfield 15, 3) := by decide +kernel
theorem d_CRows_init_21 : decode b_CRows_init 21 = .ok (.aload_n 0, 1) := by decide +kernel
theorem d_CRows_init_22 : decode b_CRows_init 22 = .ok (.iload_n 1, 1) := by decide +kernel
theorem d_CRows_init_23 : decode b_CRows_init 23 = .ok (.putfield 18, 3) := by decide +kernel
theorem d_CRows_init_26 : decode b_CRows_init 26 = .ok (.return_, 1) := by decide +kernel
theorem d_CShelf_init_0 : decode b_CShelf_init 0 = .ok (.aload_n 0, 1) := by decide +kernel
theorem d_CShelf_init_1 : decode b_CShelf_init 1 = .ok (.invokespecial 3, 3) := by decide +kernel
theorem d_CShelf_init_4 : decode b_CShelf_init 4 = .ok (.aload_n 0, 1) := by decide +kernel
theorem d_CShelf_init_5 : decode b_CShelf_init 5 = .ok (.bipush 40, 2) := by decide +kernel
theorem d_CShelf_init_7 : decode b_CShelf_init 7 = .ok (.newarray .int, 2) := by decide +kernel
theorem d_CShelf_init_9 : decode b_CShelf_init 9 = .ok (.putfield 9, 3) := by decide +kernel
theorem d_CShelf_init_12 : decode b_CShelf_init 12 = .ok (.aload_n 0, 1) := by decide +kernel
theorem d_CShelf_init_13 : decode b_CShelf_init 13 = .ok (.bipush 40, 2) := by decide +kernel
theorem d_CShelf_init_15 : decode b_CShelf_init 15 = .ok (.newarray .boolean, 2) := by decide +kernel
theorem d_CShelf_init_17 : decode b_CShelf_init 17 = .ok (.putfield 15, 3) := by decide +kernel
theorem d_CShelf_init_20 : decode b_CShelf_init 20 = .ok (.return_, 1) := by decide +kernel
theorem d_CThings_init_0 : decode b_CThings_init 0 = .ok (.aload_n 0, 1) := by decide +kernel
theorem d_CThings_init_1 : decode b_CThings_init 1 = .ok (.invokespecial 3, 3) := by decide +kernel
theorem d_CThings_init_4 : decode b_CThings_init 4 = .ok (.aload_n 0, 1) := by decide +kernel
theorem d_CThings_init_5 : decode b_CThings_init 5 = .ok (.new 9, 3) := by decide +kernel
theorem d_CThings_init_8 : decode b_CThings_init 8 = .ok (.dup, 1) := by decide +kernel
theorem d_CThings_init_9 : decode b_CThings_init 9 = .ok (.iconst 0, 1) := by decide +kernel
theorem d_CThings_init_10 : decode b_CThings_init 10 = .ok (.invokespecial 11, 3) := by decide +kernel
theorem d_CThings_init_13 : decode b_CThings_init 13 = .ok (.putfield 14, 3) := by decide +kernel
theorem d_CThings_init_16 : decode b_CThings_init 16 = .ok (.aload_n 0, 1) := by decide +kernel
theorem d_CThings_init_17 : decode b_CThings_init 17 = .ok (.new 9, 3) := by decide +kernel
theorem d_CThings_init_20 : decode b_CThings_init 20 = .ok (.dup, 1) := by decide +kernel
theorem d_CThings_init_21 : decode b_CThings_init 21 = .ok (.iconst 1, 1) := by decide +kernel
theorem d_CThings_init_22 : decode b_CThings_init 22 = .ok (.invokespecial 11, 3) := by decide +kernel
theorem d_CThings_init_25 : decode b_CThings_init 25 = .ok (.putfield 20, 3) := by decide +kernel
theorem d_CThings_init_28 : decode b_CThings_init 28 = .ok (.aload_n 0, 1) := by decide +kernel
theorem d_CThings_init_29 : decode b_CThings_init 29 = .ok (.new 23, 3) := by decide +kernel
theorem d_CThings_init_32 : decode b_CThings_init 32 = .ok (.dup, 1) := by decide +kernel
theorem d_CThings_init_33 : decode b_CThings_init 33 = .ok (.invokespecial 25, 3) := by decide +kernel
theorem d_CThings_init_36 : decode b_CThings_init 36 = .ok (.putfield 26, 3) := by decide +kernel
theorem d_CThings_init_39 : decode b_CThings_init 39 = .ok (.aload_n 0, 1) := by decide +kernel
theorem d_CThings_init_40 : decode b_CThings_init 40 = .ok (.new 23, 3) := by decide +kernel
theorem d_CThings_init_43 : decode b_CThings_init 43 = .ok (.dup, 1) := by decide +kernel
theorem d_CThings_init_44 : decode b_CThings_init 44 = .ok (.invokespecial 25, 3) := by decide +kernel
theorem d_CThings_init_47 : decode b_CThings_init 47 = .ok (.putfield 30, 3) := by decide +kernel
theorem d_CThings_init_50 : decode b_CThings_init 50 = .ok (.aload_n 0, 1) := by decide +kernel
theorem d_CThings_init_51 : decode b_CThings_init 51 = .ok (.new 23, 3) := by decide +kernel
theorem d_CThings_init_54 : decode b_CThings_init 54 = .ok (.dup, 1) := by decide +kernel
theorem d_CThings_init_55 : decode b_CThings_init 55 = .ok (.invokespecial 25, 3) := by decide +kernel
theorem d_CThings_init_58 : decode b_CThings_init 58 = .ok (.putfield 33, 3) := by decide +kernel
theorem d_CThings_init_61 : decode b_CThings_init 61 = .ok (.aload_n 0, 1) := by decide +kernel
theorem d_CThings_init_62 : decode b_CThings_init 62 = .ok (.new 23, 3) := by decide +kernel
theorem d_CThings_init_65 : decode b_CThings_init 65 = .ok (.dup, 1) := by decide +kernel
theorem d_CThings_init_66 : decode b_CThings_init 66 = .ok (.invokespecial 25, 3) := by decide +kernel
theorem d_CThings_init_69 : decode b_CThings_init 69 = .ok (.putfield 36, 3) := by decide +kernel
theorem d_CThings_init_72 : decode b_CThings_init 72 = .ok (.aload_n 0, 1) := by decide +kernel
theorem d_CThings_init_73 : decode b_CThings_init 73 = .ok (.new 23, 3) := by decide +kernel
theorem d_CThings_init_76 : decode b_CThings_init 76 = .ok (.dup, 1) := by decide +kernel
theorem d_CThings_init_77 : decode b_CThings_init 77 = .ok (.invokespecial 25, 3) := by decide +kernel
theorem d_CThings_init_80 : decode b_CThings_init 80 = .ok (.putfield 39, 3) := by decide +kernel
theorem d_CThings_init_83 : decode b_CThings_init 83 = .ok (.aload_n 0, 1) := by decide +kernel
theorem d_CThings_init_84 : decode b_CThings_init 84 = .ok (.new 23, 3) := by decide +kernel
theorem d_CThings_init_87 : decode b_CThings_init 87 = .ok (.dup, 1) := by decide +kernel
theorem d_CThings_init_88 : decode b_CThings_init 88 = .ok (.invokespecial 25, 3) := by decide +kernel
theorem d_CThings_init_91 : decode b_CThings_init 91 = .ok (.putfield 42, 3) := by decide +kernel
theorem d_CThings_init_94 : decode b_CThings_init 94 = .ok (.return_, 1) := by decide +kernel
theorem d_CLocals_init_0 : decode b_CLocals_init 0 = .ok (.aload_n 0, 1) := by decide +kernel
theorem d_CLocals_init_1 : decode b_CLocals_init 1 = .ok (.invokespecial 3, 3) := by decide +kernel
theorem d_CLocals_init_4 : decode b_CLocals_init 4 = .ok (.aload_n 0, 1) := by decide +kernel
theorem d_CLocals_init_5 : decode b_CLocals_init 5 = .ok (.bipush 52, 2) := by decide +kernel
theorem d_CLocals_init_7 : decode b_CLocals_init 7 = .ok (.newarray .int, 2) := by decide +kernel
theorem d_CLocals_init_9 : decode b_CLocals_init 9 = .ok (.putfield 9, 3) := by decide +kernel
theorem d_CLocals_init_12 : decode b_CLocals_init 12 = .ok (.aload_n 0, 1) := by decide +kernel
theorem d_CLocals_init_13 : decode b_CLocals_init 13 = .ok (.bipush 52, 2) := by decide +kernel
theorem d_CLocals_init_15 : decode b_CLocals_init 15 = .ok (.newarray .long, 2) := by decide +kernel
theorem d_CLocals_init_17 : decode b_CLocals_init 17 = .ok (.putfield 15, 3) := by decide +kernel
theorem d_CLocals_init_20 : decode b_CLocals_init 20 = .ok (.return_, 1) := by decide +kernel
theorem d_CStack_init_0 : decode b_CStack_init 0 = .ok (.aload_n 0, 1) := by decide +kernel
theorem d_CStack_init_1 : decode b_CStack_init 1 = .ok (.invokespecial 3, 3) := by decide +kernel
theorem d_CStack_init_4 : decode b_CStack_init 4 = .ok (.aload_n 0, 1) := by decide +kernel
theorem d_CStack_init_5 : decode b_CStack_init 5 = .ok (.sipush 200, 3) := by decide +kernel
theorem d_CStack_init_8 : decode b_CStack_init 8 = .ok (.newarray .int, 2) := by decide +kernel
theorem d_CStack_init_10 : decode b_CStack_init 10 = .ok (.putfield 9, 3) := by decide +kernel
theorem d_CStack_init_13 : decode b_CStack_init 13 = .ok (.aload_n 0, 1) := by decide +kernel
theorem d_CStack_init_14 : decode b_CStack_init 14 = .ok (.bipush 60, 2) := by decide +kernel
theorem d_CStack_init_16 : decode b_CStack_init 16 = .ok (.newarray .int, 2) := by decide +kernel
theorem d_CStack_init_18 : decode b_CStack_init 18 = .ok (.putfield 15, 3) := by decide +kernel
theorem d_CStack_init_21 : decode b_CStack_init 21 = .ok (.aload_n 0, 1) := by decide +kernel
theorem d_CStack_init_22 : decode b_CStack_init 22 = .ok (.bipush 60, 2) := by decide +kernel
theorem d_CStack_init_24 : decode b_CStack_init 24 = .ok (.newarray .int, 2) := by decide +kernel
theorem d_CStack_init_26 : decode b_CStack_init 26 = .ok (.putfield 18, 3) := by decide +kernel
theorem d_CStack_init_29 : decode b_CStack_init 29 = .ok (.aload_n 0, 1) := by decide +kernel
theorem d_CStack_init_30 : decode b_CStack_init 30 = .ok (.bipush 60, 2) := by decide +kernel
theorem d_CStack_init_32 : decode b_CStack_init 32 = .ok (.newarray .int, 2) := by decide +kernel
theorem d_CStack_init_34 : decode b_CStack_init 34 = .ok (.putfield 21, 3) := by decide +kernel
theorem d_CStack_init_37 : decode b_CStack_init 37 = .ok (.aload_n 0, 1) := by decide +kernel
theorem d_CStack_init_38 : decode b_CStack_init 38 = .ok (.bipush 60, 2) := by decide +kernel
theorem d_CStack_init_40 : decode b_CStack_init 40 = .ok (.newarray .boolean, 2) := by decide +kernel
theorem d_CStack_init_42 : decode b_CStack_init 42 = .ok (.putfield 24, 3) := by decide +kernel
theorem d_CStack_init_45 : decode b_CStack_init 45 = .ok (.aload_n 0, 1) := by decide +kernel
theorem d_CStack_init_46 : decode b_CStack_init 46 = .ok (.bipush 12, 2) := by decide +kernel
theorem d_CStack_init_48 : decode b_CStack_init 48 = .ok (.newarray .int, 2) := by decide +kernel
theorem d_CStack_init_50 : decode b_CStack_init 50 = .ok (.putfield 28, 3) := by decide +kernel
theorem d_CStack_init_53 : decode b_CStack_init 53 = .ok (.aload_n 0, 1) := by decide +kernel
theorem d_CStack_init_54 : decode b_CStack_init 54 = .ok (.aload_n 1, 1) := by decide +kernel
theorem d_CStack_init_55 : decode b_CStack_init 55 = .ok (.putfield 31, 3) := by decide +kernel
theorem d_CStack_init_58 : decode b_CStack_init 58 = .ok (.return_, 1) := by decide +kernel
theorem d_CCode_init_0 : decode b_CCode_init 0 = .ok (.aload_n 0, 1) := by decide +kernel
theorem d_CCode_init_1 : decode b_CCode_init 1 = .ok (.invokespecial 3, 3) := by decide +kernel
theorem d_CCode_init_4 : decode b_CCode_init 4 = .ok (.aload_n 0, 1) := by decide +kernel
theorem d_CCode_init_5 : decode b_CCode_init 5 = .ok (.new 9, 3) := by decide +kernel
theorem d_CCode_init_8 : decode b_CCode_init 8 = .ok (.dup, 1) := by decide +kernel
theorem d_CCode_init_9 : decode b_CCode_init 9 = .ok (.invokespecial 11, 3) := by decide +kernel
theorem d_CCode_init_12 : decode b_CCode_init 12 = .ok (.putfield 12, 3) := by decide +kernel
theorem d_CCode_init_15 : decode b_CCode_init 15 = .ok (.aload_n 0, 1) := by decide +kernel
theorem d_CCode_init_16 : decode b_CCode_init 16 = .ok (.bipush 20, 2) := by decide +kernel
theorem d_CCode_init_18 : decode b_CCode_init 18 = .ok (.newarray .int, 2) := by decide +kernel
theorem d_CCode_init_20 : decode b_CCode_init 20 = .ok (.putfield 18, 3) := by decide +kernel
theorem d_CCode_init_23 : decode b_CCode_init 23 = .ok (.aload_n 0, 1) := by decide +kernel
theorem d_CCode_init_24 : decode b_CCode_init 24 = .ok (.iconst 0, 1) := by decide +kernel
theorem d_CCode_init_25 : decode b_CCode_init 25 = .ok (.putfield 22, 3) := by decide +kernel
theorem d_CCode_init_28 : decode b_CCode_init 28 = .ok (.aload_n 0, 1) := by decide +kernel
theorem d_CCode_init_29 : decode b_CCode_init 29 = .ok (.aload_n 1, 1) := by decide +kernel
theorem d_CCode_init_30 : decode b_CCode_init 30 = .ok (.putfield 26, 3) := by decide +kernel
theorem d_CCode_init_33 : decode b_CCode_init 33 = .ok (.aload_n 0, 1) := by decide +kernel
theorem d_CCode_init_34 : decode b_CCode_init 34 = .ok (.new 30, 3) := by decide +kernel
theorem d_CCode_init_37 : decode b_CCode_init 37 = .ok (.dup, 1) := by decide +kernel
theorem d_CCode_init_38 : decode b_CCode_init 38 = .ok (.aload_n 1, 1) := by decide +kernel
theorem d_CCode_init_39 : decode b_CCode_init 39 = .ok (.invokespecial 32, 3) := by decide +kernel
theorem d_CCode_init_42 : decode b_CCode_init 42 = .ok (.putfield 35, 3) := by decide +kernel
theorem d_CCode_init_45 : decode b_CCode_init 45 = .ok (.return_, 1) := by decide +kernel
theorem d_CC_init_0 : decode b_CC_init 0 = .ok (.aload_n 0, 1) := by decide +kernel
theorem d_CC_init_1 : decode b_CC_init 1 = .ok (.invokespecial 1, 3) := by decide +kernel
theorem d_CC_init_4 : decode b_CC_init 4 = .ok (.new 7, 3) := by decide +kernel
theorem d_CC_init_7 : decode b_CC_init 7 = .ok (.dup, 1) := by decide +kernel
theorem d_CC_init_8 : decode b_CC_init 8 = .ok (.invokespecial 9, 3) := by decide +kernel
theorem d_CC_init_11 : decode b_CC_init 11 = .ok (.astore_n 1, 1) := by decide +kernel
theorem d_CC_init_12 : decode b_CC_init 12 = .ok (.aload_n 0, 1) := by decide +kernel
theorem d_CC_init_13 : decode b_CC_init 13 = .ok (.aload_n 1, 1) := by decide +kernel
theorem d_CC_init_14 : decode b_CC_init 14 = .ok (.putfield 10, 3) := by decide +kernel
theorem d_CC_init_17 : decode b_CC_init 17 = .ok (.aload_n 0, 1) := by decide +kernel
theorem d_CC_init_18 : decode b_CC_init 18 = .ok (.new 16, 3) := by decide +kernel
theorem d_CC_init_21 : decode b_CC_init 21 = .ok (.dup, 1) := by decide +kernel
theorem d_CC_init_22 : decode b_CC_init 22 = .ok (.aload_n 1, 1) := by decide +kernel
theorem d_CC_init_23 : decode b_CC_init 23 = .ok (.invokespecial 18, 3) := by decide +kernel
theorem d_CC_init_26 : decode b_CC_init 26 = .ok (.putfield 21, 3) := by decide +kernel
theorem d_CC_init_29 : decode b_CC_init 29 = .ok (.return_, 1) := by decide +kernel
theorem d_MC_init_0 : decode b_MC_init 0 = .ok (.aload_n 0, 1) := by decide +kernel
theorem d_MC_init_1 : decode b_MC_init 1 = .ok (.invokespecial 1, 3) := by decide +kernel
theorem d_MC_init_4 : decode b_MC_init 4 = .ok (.aload_n 0, 1) := by decide +kernel
theorem d_MC_init_5 : decode b_MC_init 5 = .ok (.bipush 40, 2) := by decide +kernel
theorem d_MC_init_7 : decode b_MC_init 7 = .ok (.newarray .int, 2) := by decide +kernel
theorem d_MC_init_9 : decode b_MC_init 9 = .ok (.putfield 7, 3) := by decide +kernel
theorem d_MC_init_12 : decode b_MC_init 12 = .ok (.aload_n 0, 1) := by decide +kernel
theorem d_MC_init_13 : decode b_MC_init 13 = .ok (.bipush 40, 2) := by decide +kernel
theorem d_MC_init_15 : decode b_MC_init 15 = .ok (.newarray .int, 2) := by decide +kernel
theorem d_MC_init_17 : decode b_MC_init 17 = .ok (.putfield 13, 3) := by decide +kernel
theorem d_MC_init_20 : decode b_MC_init 20 = .ok (.aload_n 0, 1) := by decide +kernel
theorem d_MC_init_21 : decode b_MC_init 21 = .ok (.sipush 480, 3) := by decide +kernel
theorem d_MC_init_24 : decode b_MC_init 24 = .ok (.newarray .int, 2) := by decide +kernel
theorem d_MC_init_26 : decode b_MC_init 26 = .ok (.putfield 16, 3) := by decide +kernel
theorem d_MC_init_29 : decode b_MC_init 29 = .ok (.aload_n 0, 1) := by decide +kernel
theorem d_MC_init_30 : decode b_MC_init 30 = .ok (.sipush 480, 3) := by decide +kernel
theorem d_MC_init_33 : decode b_MC_init 33 = .ok (.newarray .int, 2) := by decide +kernel
theorem d_MC_init_35 : decode b_MC_init 35 = .ok (.putfield 19, 3) := by decide +kernel
theorem d_MC_init_38 : decode b_MC_init 38 = .ok (.aload_n 0, 1) := by decide +kernel
theorem d_MC_init_39 : decode b_MC_init 39 = .ok (.bipush 6, 2) := by decide +kernel
theorem d_MC_init_41 : decode b_MC_init 41 = .ok (.newarray .int, 2) := by decide +kernel
theorem d_MC_init_43 : decode b_MC_init 43 = .ok (.putfield 22, 3) := by decide +kernel
theorem d_MC_init_46 : decode b_MC_init 46 = .ok (.aload_n 0, 1) := by decide +kernel
theorem d_MC_init_47 : decode b_MC_init 47 = .ok (.sipush 240, 3) := by decide +kernel
theorem d_MC_init_50 : decode b_MC_init 50 = .ok (.newarray .int, 2) := by decide +kernel
theorem d_MC_init_52 : decode b_MC_init 52 = .ok (.putfield 25, 3) := by decide +kernel
theorem d_MC_init_55 : decode b_MC_init 55 = .ok (.aload_n 0, 1) := by decide +kernel
theorem d_MC_init_56 : decode b_MC_init 56 = .ok (.sipush 240, 3) := by decide +kernel
theorem d_MC_init_59 : decode b_MC_init 59 = .ok (.newarray .int, 2) := by decide +kernel
theorem d_MC_init_61 : decode b_MC_init 61 = .ok (.putfield 28, 3) := by decide +kernel
theorem d_MC_init_64 : decode b_MC_init 64 = .ok (.aload_n 0, 1) := by decide +kernel
theorem d_MC_init_65 : decode b_MC_init 65 = .ok (.bipush 40, 2) := by decide +kernel
theorem d_MC_init_67 : decode b_MC_init 67 = .ok (.newarray .boolean, 2) := by decide +kernel
theorem d_MC_init_69 : decode b_MC_init 69 = .ok (.putfield 31, 3) := by decide +kernel
theorem d_MC_init_72 : decode b_MC_init 72 = .ok (.aload_n 0, 1) := by decide +kernel
theorem d_MC_init_73 : decode b_MC_init 73 = .ok (.bipush 60, 2) := by decide +kernel
theorem d_MC_init_75 : decode b_MC_init 75 = .ok (.newarray .int, 2) := by decide +kernel
theorem d_MC_init_77 : decode b_MC_init 77 = .ok (.putfield 35, 3) := by decide +kernel
theorem d_MC_init_80 : decode b_MC_init 80 = .ok (.aload_n 0, 1) := by decide +kernel
theorem d_MC_init_81 : decode b_MC_init 81 = .ok (.bipush 60, 2) := by decide +kernel
theorem d_MC_init_83 : decode b_MC_init 83 = .ok (.newarray .long, 2) := by decide +kernel
theorem d_MC_init_85 : decode b_MC_init 85 = .ok (.putfield 38, 3) := by decide +kernel
theorem d_MC_init_88 : decode b_MC_init 88 = .ok (.aload_n 0, 1) := by decide +kernel
theorem d_MC_init_89 : decode b_MC_init 89 = .ok (.bipush 20, 2) := by decide +kernel
theorem d_MC_init_91 : decode b_MC_init 91 = .ok (.newarray .int, 2) := by decide +kernel
theorem d_MC_init_93 : decode b_MC_init 93 = .ok (.putfield 42, 3) := by decide +kernel
theorem d_MC_init_96 : decode b_MC_init 96 = .ok (.aload_n 0, 1) := by decide +kernel
theorem d_MC_init_97 : decode b_MC_init 97 = .ok (.sipush 260, 3) := by decide +kernel
theorem d_MC_init_100 : decode b_MC_init 100 = .ok (.newarray .int, 2) := by decide +kernel
theorem d_MC_init_102 : decode b_MC_init 102 = .ok (.putfield 45, 3) := by decide +kernel
theorem d_MC_init_105 : decode b_MC_init 105 = .ok (.aload_n 0, 1) := by decide +kernel
theorem d_MC_init_106 : decode b_MC_init 106 = .ok (.bipush 62, 2) := by decide +kernel
theorem d_MC_init_108 : decode b_MC_init 108 = .ok (.newarray .int, 2) := by decide +kernel
theorem d_MC_init_110 : decode b_MC_init 110 = .ok (.putfield 48, 3) := by decide +kernel
theorem d_MC_init_113 : decode b_MC_init 113 = .ok (.aload_n 0, 1) := by decide +kernel
theorem d_MC_init_114 : decode b_MC_init 114 = .ok (.bipush 62, 2) := by decide +kernel
theorem d_MC_init_116 : decode b_MC_init 116 = .ok (.newarray .int, 2) := by decide +kernel
theorem d_MC_init_118 : decode b_MC_init 118 = .ok (.putfield 51, 3) := by decide +kernel
theorem d_MC_init_121 : decode b_MC_init 121 = .ok (.aload_n 0, 1) := by decide +kernel
theorem d_MC_init_122 : decode b_MC_init 122 = .ok (.bipush 62, 2) := by decide +kernel
theorem d_MC_init_124 : decode b_MC_init 124 = .ok (.newarray .int, 2) := by decide +kernel
theorem d_MC_init_126 : decode b_MC_init 126 = .ok (.putfield 54, 3) := by decide +kernel
theorem d_MC_init_129 : decode b_MC_init 129 = .ok (.aload_n 0, 1) := by decide +kernel
theorem d_MC_init_130 : decode b_MC_init 130 = .ok (.bipush 62, 2) := by decide +kernel
theorem d_MC_init_132 : decode b_MC_init 132 = .ok (.newarray .boolean, 2) := by decide +kernel
theorem d_MC_init_134 : decode b_MC_init 134 = .ok (.putfield 57, 3) := by decide +kernel
theorem d_MC_init_137 : decode b_MC_init 137 = .ok (.aload_n 0, 1) := by decide +kernel
theorem d_MC_init_138 : decode b_MC_init 138 = .ok (.sipush 600, 3) := by decide +kernel
theorem d_MC_init_141 : decode b_MC_init 141 = .ok (.newarray .int, 2) := by decide +kernel
theorem d_MC_init_143 : decode b_MC_init 143 = .ok (.putfield 60, 3) := by decide +kernel
theorem d_MC_init_146 : decode b_MC_init 146 = .ok (.aload_n 0, 1) := by decide +kernel
theorem d_MC_init_147 : decode b_MC_init 147 = .ok (.bipush 64, 2) := by decide +kernel
theorem d_MC_init_149 : decode b_MC_init 149 = .ok (.newarray .int, 2) := by decide +kernel
theorem d_MC_init_151 : decode b_MC_init 151 = .ok (.putfield 63, 3) := by decide +kernel
theorem d_MC_init_154 : decode b_MC_init 154 = .ok (.aload_n 0, 1) := by decide +kernel
theorem d_MC_init_155 : decode b_MC_init 155 = .ok (.bipush 16, 2) := by decide +kernel
theorem d_MC_init_157 : decode b_MC_init 157 = .ok (.newarray .int, 2) := by decide +kernel
theorem d_MC_init_159 : decode b_MC_init 159 = .ok (.putfield 66, 3) := by decide +kernel
theorem d_MC_init_162 : decode b_MC_init 162 = .ok (.return_, 1) := by decide +kernel
theorem d_law_law_0 : decode code 0 = .ok (.new 7, 3) := by decide +kernel
theorem d_law_law_3 : decode code 3 = .ok (.dup, 1) := by decide +kernel
theorem d_law_law_4 : decode code 4 = .ok (.invokespecial 9, 3) := by decide +kernel
theorem d_law_law_7 : decode code 7 = .ok (.astore_n 1, 1) := by decide +kernel
theorem d_law_law_8 : decode code 8 = .ok (.new 10, 3) := by decide +kernel
theorem d_law_law_11 : decode code 11 = .ok (.dup, 1) := by decide +kernel
theorem d_law_law_12 : decode code 12 = .ok (.invokespecial 12, 3) := by decide +kernel
theorem d_law_law_15 : decode code 15 = .ok (.astore_n 2, 1) := by decide +kernel
theorem d_law_law_16 : decode code 16 = .ok (.iconst 0, 1) := by decide +kernel
theorem d_law_law_17 : decode code 17 = .ok (.istore_n 3, 1) := by decide +kernel
theorem d_law_law_18 : decode code 18 = .ok (.iload_n 3, 1) := by decide +kernel
theorem d_law_law_19 : decode code 19 = .ok (.aload_n 0, 1) := by decide +kernel
theorem d_law_law_20 : decode code 20 = .ok (.arraylength, 1) := by decide +kernel
theorem d_law_law_21 : decode code 21 = .ok (.iconst 4, 1) := by decide +kernel
theorem d_law_law_22 : decode code 22 = .ok (.isub, 1) := by decide +kernel
theorem d_law_law_23 : decode code 23 = .ok (.if_icmp .gt 422, 3) := by decide +kernel
theorem d_law_law_26 : decode code 26 = .ok (.aload_n 0, 1) := by decide +kernel
theorem d_law_law_27 : decode code 27 = .ok (.iload_n 3, 1) := by decide +kernel
theorem d_law_law_28 : decode code 28 = .ok (.iaload, 1) := by decide +kernel
theorem d_law_law_29 : decode code 29 = .ok (.bipush 15, 2) := by decide +kernel
theorem d_law_law_31 : decode code 31 = .ok (.iand, 1) := by decide +kernel
theorem d_law_law_32 : decode code 32 = .ok (.tableswitch 407 0 11 #[64, 77, 126, 169, 192, 215, 248, 281, 304, 347, 360, 384], 64) := by decide +kernel
theorem d_law_law_96 : decode code 96 = .ok (.aload_n 1, 1) := by decide +kernel
theorem d_law_law_97 : decode code 97 = .ok (.invokevirtual 13, 3) := by decide +kernel
theorem d_law_law_100 : decode code 100 = .ok (.aload_n 2, 1) := by decide +kernel
theorem d_law_law_101 : decode code 101 = .ok (.invokevirtual 17, 3) := by decide +kernel
theorem d_law_law_104 : decode code 104 = .ok (.if_icmp .eq 335, 3) := by decide +kernel
theorem d_law_law_109 : decode code 109 = .ok (.aload_n 1, 1) := by decide +kernel
theorem d_law_law_110 : decode code 110 = .ok (.aload_n 0, 1) := by decide +kernel
theorem d_law_law_111 : decode code 111 = .ok (.iload_n 3, 1) := by decide +kernel
theorem d_law_law_112 : decode code 112 = .ok (.iconst 1, 1) := by decide +kernel
theorem d_law_law_113 : decode code 113 = .ok (.iadd, 1) := by decide +kernel
theorem d_law_law_114 : decode code 114 = .ok (.iaload, 1) := by decide +kernel
theorem d_law_law_115 : decode code 115 = .ok (.ifCond .eq 7, 3) := by decide +kernel
theorem d_law_law_118 : decode code 118 = .ok (.iconst 1, 1) := by decide +kernel
theorem d_law_law_119 : decode code 119 = .ok (.goto 4, 3) := by decide +kernel
theorem d_law_law_122 : decode code 122 = .ok (.iconst 0, 1) := by decide +kernel
theorem d_law_law_123 : decode code 123 = .ok (.aload_n 0, 1) := by decide +kernel
theorem d_law_law_124 : decode code 124 = .ok (.iload_n 3, 1) := by decide +kernel
theorem d_law_law_125 : decode code 125 = .ok (.iconst 2, 1) := by decide +kernel
theorem d_law_law_126 : decode code 126 = .ok (.iadd, 1) := by decide +kernel
theorem d_law_law_127 : decode code 127 = .ok (.iaload, 1) := by decide +kernel
theorem d_law_law_128 : decode code 128 = .ok (.invokevirtual 18, 3) := by decide +kernel
theorem d_law_law_131 : decode code 131 = .ok (.aload_n 2, 1) := by decide +kernel
theorem d_law_law_132 : decode code 132 = .ok (.aload_n 0, 1) := by decide +kernel
theorem d_law_law_133 : decode code 133 = .ok (.iload_n 3, 1) := by decide +kernel
theorem d_law_law_134 : decode code 134 = .ok (.iconst 1, 1) := by decide +kernel
theorem d_law_law_135 : decode code 135 = .ok (.iadd, 1) := by decide +kernel
theorem d_law_law_136 : decode code 136 = .ok (.iaload, 1) := by decide +kernel
theorem d_law_law_137 : decode code 137 = .ok (.ifCond .eq 7, 3) := by decide +kernel
theorem d_law_law_140 : decode code 140 = .ok (.iconst 1, 1) := by decide +kernel
theorem d_law_law_141 : decode code 141 = .ok (.goto 4, 3) := by decide +kernel
theorem d_law_law_144 : decode code 144 = .ok (.iconst 0, 1) := by decide +kernel
theorem d_law_law_145 : decode code 145 = .ok (.aload_n 0, 1) := by decide +kernel
theorem d_law_law_146 : decode code 146 = .ok (.iload_n 3, 1) := by decide +kernel
theorem d_law_law_147 : decode code 147 = .ok (.iconst 2, 1) := by decide +kernel
theorem d_law_law_148 : decode code 148 = .ok (.iadd, 1) := by decide +kernel
theorem d_law_law_149 : decode code 149 = .ok (.iaload, 1) := by decide +kernel
theorem d_law_law_150 : decode code 150 = .ok (.invokevirtual 22, 3) := by decide +kernel
theorem d_law_law_153 : decode code 153 = .ok (.if_icmp .eq 286, 3) := by decide +kernel
theorem d_law_law_158 : decode code 158 = .ok (.aload_n 1, 1) := by decide +kernel
theorem d_law_law_159 : decode code 159 = .ok (.aload_n 0, 1) := by decide +kernel
theorem d_law_law_160 : decode code 160 = .ok (.iload_n 3, 1) := by decide +kernel
theorem d_law_law_161 : decode code 161 = .ok (.iconst 1, 1) := by decide +kernel
theorem d_law_law_162 : decode code 162 = .ok (.iadd, 1) := by decide +kernel
theorem d_law_law_163 : decode code 163 = .ok (.iaload, 1) := by decide +kernel
theorem d_law_law_164 : decode code 164 = .ok (.aload_n 0, 1) := by decide +kernel
theorem d_law_law_165 : decode code 165 = .ok (.iload_n 3, 1) := by decide +kernel
theorem d_law_law_166 : decode code 166 = .ok (.iconst 2, 1) := by decide +kernel
theorem d_law_law_167 : decode code 167 = .ok (.iadd, 1) := by decide +kernel
theorem d_law_law_168 : decode code 168 = .ok (.iaload, 1) := by decide +kernel
theorem d_law_law_169 : decode code 169 = .ok (.aload_n 0, 1) := by decide +kernel
theorem d_law_law_170 : decode code 170 = .ok (.iload_n 3, 1) := by decide +kernel
theorem d_law_law_171 : decode code 171 = .ok (.iconst 3, 1) := by decide +kernel
theorem d_law_law_172 : decode code 172 = .ok (.iadd, 1) := by decide +kernel
theorem d_law_law_173 : decode code 173 = .ok (.iaload, 1) := by decide +kernel
theorem d_law_law_174 : decode code 174 = .ok (.invokevirtual 23, 3) := by decide +kernel
theorem d_law_law_177 : decode code 177 = .ok (.aload_n 2, 1) := by decide +kernel
theorem d_law_law_178 : decode code 178 = .ok (.aload_n 0, 1) := by decide +kernel
theorem d_law_law_179 : decode code 179 = .ok (.iload_n 3, 1) := by decide +kernel
theorem d_law_law_180 : decode code 180 = .ok (.iconst 1, 1) := by decide +kernel
theorem d_law_law_181 : decode code 181 = .ok (.iadd, 1) := by decide +kernel
theorem d_law_law_182 : decode code 182 = .ok (.iaload, 1) := by decide +kernel
theorem d_law_law_183 : decode code 183 = .ok (.aload_n 0, 1) := by decide +kernel
theorem d_law_law_184 : decode code 184 = .ok (.iload_n 3, 1) := by decide +kernel
theorem d_law_law_185 : decode code 185 = .ok (.iconst 2, 1) := by decide +kernel
theorem d_law_law_186 : decode code 186 = .ok (.iadd, 1) := by decide +kernel
theorem d_law_law_187 : decode code 187 = .ok (.iaload, 1) := by decide +kernel
theorem d_law_law_188 : decode code 188 = .ok (.aload_n 0, 1) := by decide +kernel
theorem d_law_law_189 : decode code 189 = .ok (.iload_n 3, 1) := by decide +kernel
theorem d_law_law_190 : decode code 190 = .ok (.iconst 3, 1) := by decide +kernel
theorem d_law_law_191 : decode code 191 = .ok (.iadd, 1) := by decide +kernel
theorem d_law_law_192 : decode code 192 = .ok (.iaload, 1) := by decide +kernel
theorem d_law_law_193 : decode code 193 = .ok (.invokevirtual 27, 3) := by decide +kernel
theorem d_law_law_196 : decode code 196 = .ok (.if_icmp .eq 243, 3) := by decide +kernel
theorem d_law_law_201 : decode code 201 = .ok (.aload_n 1, 1) := by decide +kernel
theorem d_law_law_202 : decode code 202 = .ok (.aload_n 0, 1) := by decide +kernel
theorem d_law_law_203 : decode code 203 = .ok (.iload_n 3, 1) := by decide +kernel
theorem d_law_law_204 : decode code 204 = .ok (.iconst 1, 1) := by decide +kernel
theorem d_law_law_205 : decode code 205 = .ok (.iadd, 1) := by decide +kernel
theorem d_law_law_206 : decode code 206 = .ok (.iaload, 1) := by decide +kernel
theorem d_law_law_207 : decode code 207 = .ok (.invokevirtual 28, 3) := by decide +kernel
theorem d_law_law_210 : decode code 210 = .ok (.aload_n 2, 1) := by decide +kernel
theorem d_law_law_211 : decode code 211 = .ok (.aload_n 0, 1) := by decide +kernel
theorem d_law_law_212 : decode code 212 = .ok (.iload_n 3, 1) := by decide +kernel
