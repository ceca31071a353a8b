theorem d_CLocals_append_47 : decode b_CLocals_append 47 = .ok (.getfield 19, 3) := by decide +kernel
theorem d_CLocals_append_50 : decode b_CLocals_append 50 = .ok (.iload_n 1, 1) := by decide +kernel
theorem d_CLocals_append_51 : decode b_CLocals_append 51 = .ok (.iastore, 1) := by decide +kernel
theorem d_CLocals_append_52 : decode b_CLocals_append 52 = .ok (.aload_n 0, 1) := by decide +kernel
theorem d_CLocals_append_53 : decode b_CLocals_append 53 = .ok (.getfield 15, 3) := by decide +kernel
theorem d_CLocals_append_56 : decode b_CLocals_append 56 = .ok (.aload_n 0, 1) := by decide +kernel
theorem d_CLocals_append_57 : decode b_CLocals_append 57 = .ok (.getfield 19, 3) := by decide +kernel
theorem d_CLocals_append_60 : decode b_CLocals_append 60 = .ok (.aload_n 0, 1) := by decide +kernel
theorem d_CLocals_append_61 : decode b_CLocals_append 61 = .ok (.getfield 23, 3) := by decide +kernel
theorem d_CLocals_append_64 : decode b_CLocals_append 64 = .ok (.lastore, 1) := by decide +kernel
theorem d_CLocals_append_65 : decode b_CLocals_append 65 = .ok (.aload_n 0, 1) := by decide +kernel
theorem d_CLocals_append_66 : decode b_CLocals_append 66 = .ok (.dup, 1) := by decide +kernel
theorem d_CLocals_append_67 : decode b_CLocals_append 67 = .ok (.getfield 19, 3) := by decide +kernel
theorem d_CLocals_append_70 : decode b_CLocals_append 70 = .ok (.iconst 1, 1) := by decide +kernel
theorem d_CLocals_append_71 : decode b_CLocals_append 71 = .ok (.iadd, 1) := by decide +kernel
theorem d_CLocals_append_72 : decode b_CLocals_append 72 = .ok (.putfield 19, 3) := by decide +kernel
theorem d_CLocals_append_75 : decode b_CLocals_append 75 = .ok (.return_, 1) := by decide +kernel
theorem d_CC_constant_0 : decode b_CC_constant 0 = .ok (.iload_n 1, 1) := by decide +kernel
theorem d_CC_constant_1 : decode b_CC_constant 1 = .ok (.invokestatic 33, 3) := by decide +kernel
theorem d_CC_constant_4 : decode b_CC_constant 4 = .ok (.ifCond .eq 7, 3) := by decide +kernel
theorem d_CC_constant_7 : decode b_CC_constant 7 = .ok (.iload_n 2, 1) := by decide +kernel
theorem d_CC_constant_8 : decode b_CC_constant 8 = .ok (.ifCond .ge 5, 3) := by decide +kernel
theorem d_CC_constant_11 : decode b_CC_constant 11 = .ok (.iconst 0, 1) := by decide +kernel
theorem d_CC_constant_12 : decode b_CC_constant 12 = .ok (.ireturn, 1) := by decide +kernel
theorem d_CC_constant_13 : decode b_CC_constant 13 = .ok (.aload_n 0, 1) := by decide +kernel
theorem d_CC_constant_14 : decode b_CC_constant 14 = .ok (.getfield 21, 3) := by decide +kernel
theorem d_CC_constant_17 : decode b_CC_constant 17 = .ok (.iload_n 1, 1) := by decide +kernel
theorem d_CC_constant_18 : decode b_CC_constant 18 = .ok (.iload_n 2, 1) := by decide +kernel
theorem d_CC_constant_19 : decode b_CC_constant 19 = .ok (.invokevirtual 61, 3) := by decide +kernel
theorem d_CC_constant_22 : decode b_CC_constant 22 = .ok (.iconst 1, 1) := by decide +kernel
theorem d_CC_constant_23 : decode b_CC_constant 23 = .ok (.ireturn, 1) := by decide +kernel
theorem d_CCode_openConstant_0 : decode b_CCode_openConstant 0 = .ok (.aload_n 0, 1) := by decide +kernel
theorem d_CCode_openConstant_1 : decode b_CCode_openConstant 1 = .ok (.iload_n 1, 1) := by decide +kernel
theorem d_CCode_openConstant_2 : decode b_CCode_openConstant 2 = .ok (.sipush 128, 3) := by decide +kernel
theorem d_CCode_openConstant_5 : decode b_CCode_openConstant 5 = .ok (.isub, 1) := by decide +kernel
theorem d_CCode_openConstant_6 : decode b_CCode_openConstant 6 = .ok (.iconst 1, 1) := by decide +kernel
theorem d_CCode_openConstant_7 : decode b_CCode_openConstant 7 = .ok (.invokevirtual 59, 3) := by decide +kernel
theorem d_CCode_openConstant_10 : decode b_CCode_openConstant 10 = .ok (.aload_n 0, 1) := by decide +kernel
theorem d_CCode_openConstant_11 : decode b_CCode_openConstant 11 = .ok (.iload_n 2, 1) := by decide +kernel
theorem d_CCode_openConstant_12 : decode b_CCode_openConstant 12 = .ok (.putfield 83, 3) := by decide +kernel
theorem d_CCode_openConstant_15 : decode b_CCode_openConstant 15 = .ok (.return_, 1) := by decide +kernel
theorem d_CC_local_0 : decode b_CC_local 0 = .ok (.aload_n 0, 1) := by decide +kernel
theorem d_CC_local_1 : decode b_CC_local 1 = .ok (.getfield 21, 3) := by decide +kernel
theorem d_CC_local_4 : decode b_CC_local 4 = .ok (.iload_n 1, 1) := by decide +kernel
theorem d_CC_local_5 : decode b_CC_local 5 = .ok (.iload_n 2, 1) := by decide +kernel
theorem d_CC_local_6 : decode b_CC_local 6 = .ok (.invokevirtual 65, 3) := by decide +kernel
theorem d_CC_local_9 : decode b_CC_local 9 = .ok (.ireturn, 1) := by decide +kernel
theorem d_CCode_addLocals_0 : decode b_CCode_addLocals 0 = .ok (.aload_n 0, 1) := by decide +kernel
theorem d_CCode_addLocals_1 : decode b_CCode_addLocals 1 = .ok (.invokevirtual 86, 3) := by decide +kernel
theorem d_CCode_addLocals_4 : decode b_CCode_addLocals 4 = .ok (.ifCond .eq 33, 3) := by decide +kernel
theorem d_CCode_addLocals_7 : decode b_CCode_addLocals 7 = .ok (.aload_n 0, 1) := by decide +kernel
theorem d_CCode_addLocals_8 : decode b_CCode_addLocals 8 = .ok (.getfield 56, 3) := by decide +kernel
theorem d_CCode_addLocals_11 : decode b_CCode_addLocals 11 = .ok (.ifCond .ne 26, 3) := by decide +kernel
theorem d_CCode_addLocals_14 : decode b_CCode_addLocals 14 = .ok (.aload_n 0, 1) := by decide +kernel
theorem d_CCode_addLocals_15 : decode b_CCode_addLocals 15 = .ok (.getfield 52, 3) := by decide +kernel
theorem d_CCode_addLocals_18 : decode b_CCode_addLocals 18 = .ok (.ifCond .ne 19, 3) := by decide +kernel
theorem d_CCode_addLocals_21 : decode b_CCode_addLocals 21 = .ok (.iload_n 1, 1) := by decide +kernel
theorem d_CCode_addLocals_22 : decode b_CCode_addLocals 22 = .ok (.invokestatic 90, 3) := by decide +kernel
theorem d_CCode_addLocals_25 : decode b_CCode_addLocals 25 = .ok (.ifCond .eq 12, 3) := by decide +kernel
theorem d_CCode_addLocals_28 : decode b_CCode_addLocals 28 = .ok (.aload_n 0, 1) := by decide +kernel
theorem d_CCode_addLocals_29 : decode b_CCode_addLocals 29 = .ok (.getfield 49, 3) := by decide +kernel
theorem d_CCode_addLocals_32 : decode b_CCode_addLocals 32 = .ok (.bipush 40, 2) := by decide +kernel
theorem d_CCode_addLocals_34 : decode b_CCode_addLocals 34 = .ok (.if_icmp .lt 5, 3) := by decide +kernel
theorem d_CCode_addLocals_37 : decode b_CCode_addLocals 37 = .ok (.iconst 0, 1) := by decide +kernel
theorem d_CCode_addLocals_38 : decode b_CCode_addLocals 38 = .ok (.ireturn, 1) := by decide +kernel
theorem d_CCode_addLocals_39 : decode b_CCode_addLocals 39 = .ok (.aload_n 0, 1) := by decide +kernel
theorem d_CCode_addLocals_40 : decode b_CCode_addLocals 40 = .ok (.getfield 12, 3) := by decide +kernel
theorem d_CCode_addLocals_43 : decode b_CCode_addLocals 43 = .ok (.iload_n 1, 1) := by decide +kernel
theorem d_CCode_addLocals_44 : decode b_CCode_addLocals 44 = .ok (.iload_n 2, 1) := by decide +kernel
theorem d_CCode_addLocals_45 : decode b_CCode_addLocals 45 = .ok (.invokestatic 94, 3) := by decide +kernel
theorem d_CCode_addLocals_48 : decode b_CCode_addLocals 48 = .ok (.invokevirtual 79, 3) := by decide +kernel
theorem d_CCode_addLocals_51 : decode b_CCode_addLocals 51 = .ok (.aload_n 0, 1) := by decide +kernel
theorem d_CCode_addLocals_52 : decode b_CCode_addLocals 52 = .ok (.dup, 1) := by decide +kernel
theorem d_CCode_addLocals_53 : decode b_CCode_addLocals 53 = .ok (.getfield 49, 3) := by decide +kernel
theorem d_CCode_addLocals_56 : decode b_CCode_addLocals 56 = .ok (.iconst 1, 1) := by decide +kernel
theorem d_CCode_addLocals_57 : decode b_CCode_addLocals 57 = .ok (.iadd, 1) := by decide +kernel
theorem d_CCode_addLocals_58 : decode b_CCode_addLocals 58 = .ok (.putfield 49, 3) := by decide +kernel
theorem d_CCode_addLocals_61 : decode b_CCode_addLocals 61 = .ok (.iconst 1, 1) := by decide +kernel
theorem d_CCode_addLocals_62 : decode b_CCode_addLocals 62 = .ok (.ireturn, 1) := by decide +kernel
theorem d_CC_withoutSign_0 : decode b_CC_withoutSign 0 = .ok (.iload_n 0, 1) := by decide +kernel
theorem d_CC_withoutSign_1 : decode b_CC_withoutSign 1 = .ok (.i2l, 1) := by decide +kernel
theorem d_CC_withoutSign_2 : decode b_CC_withoutSign 2 = .ok (.ldc2_w 105, 3) := by decide +kernel
theorem d_CC_withoutSign_5 : decode b_CC_withoutSign 5 = .ok (.land, 1) := by decide +kernel
theorem d_CC_withoutSign_6 : decode b_CC_withoutSign 6 = .ok (.lreturn, 1) := by decide +kernel
theorem d_CC_label_0 : decode b_CC_label 0 = .ok (.aload_n 0, 1) := by decide +kernel
theorem d_CC_label_1 : decode b_CC_label 1 = .ok (.getfield 21, 3) := by decide +kernel
theorem d_CC_label_4 : decode b_CC_label 4 = .ok (.iload_n 1, 1) := by decide +kernel
theorem d_CC_label_5 : decode b_CC_label 5 = .ok (.invokevirtual 69, 3) := by decide +kernel
theorem d_CC_label_8 : decode b_CC_label 8 = .ok (.ireturn, 1) := by decide +kernel
theorem d_CCode_addLabel_0 : decode b_CCode_addLabel 0 = .ok (.aload_n 0, 1) := by decide +kernel
theorem d_CCode_addLabel_1 : decode b_CCode_addLabel 1 = .ok (.invokevirtual 86, 3) := by decide +kernel
theorem d_CCode_addLabel_4 : decode b_CCode_addLabel 4 = .ok (.ifCond .eq 22, 3) := by decide +kernel
theorem d_CCode_addLabel_7 : decode b_CCode_addLabel 7 = .ok (.aload_n 0, 1) := by decide +kernel
theorem d_CCode_addLabel_8 : decode b_CCode_addLabel 8 = .ok (.getfield 46, 3) := by decide +kernel
theorem d_CCode_addLabel_11 : decode b_CCode_addLabel 11 = .ok (.ifCond .lt 15, 3) := by decide +kernel
theorem d_CCode_addLabel_14 : decode b_CCode_addLabel 14 = .ok (.aload_n 0, 1) := by decide +kernel
theorem d_CCode_addLabel_15 : decode b_CCode_addLabel 15 = .ok (.getfield 46, 3) := by decide +kernel
theorem d_CCode_addLabel_18 : decode b_CCode_addLabel 18 = .ok (.aload_n 0, 1) := by decide +kernel
theorem d_CCode_addLabel_19 : decode b_CCode_addLabel 19 = .ok (.getfield 18, 3) := by decide +kernel
theorem d_CCode_addLabel_22 : decode b_CCode_addLabel 22 = .ok (.arraylength, 1) := by decide +kernel
theorem d_CCode_addLabel_23 : decode b_CCode_addLabel 23 = .ok (.if_icmp .lt 5, 3) := by decide +kernel
theorem d_CCode_addLabel_26 : decode b_CCode_addLabel 26 = .ok (.iconst (-1), 1) := by decide +kernel
theorem d_CCode_addLabel_27 : decode b_CCode_addLabel 27 = .ok (.ireturn, 1) := by decide +kernel
theorem d_CCode_addLabel_28 : decode b_CCode_addLabel 28 = .ok (.aload_n 0, 1) := by decide +kernel
theorem d_CCode_addLabel_29 : decode b_CCode_addLabel 29 = .ok (.getfield 18, 3) := by decide +kernel
theorem d_CCode_addLabel_32 : decode b_CCode_addLabel 32 = .ok (.aload_n 0, 1) := by decide +kernel
theorem d_CCode_addLabel_33 : decode b_CCode_addLabel 33 = .ok (.getfield 46, 3) := by decide +kernel
theorem d_CCode_addLabel_36 : decode b_CCode_addLabel 36 = .ok (.iload_n 1, 1) := by decide +kernel
theorem d_CCode_addLabel_37 : decode b_CCode_addLabel 37 = .ok (.iastore, 1) := by decide +kernel
theorem d_CCode_addLabel_38 : decode b_CCode_addLabel 38 = .ok (.aload_n 0, 1) := by decide +kernel
theorem d_CCode_addLabel_39 : decode b_CCode_addLabel 39 = .ok (.dup, 1) := by decide +kernel
theorem d_CCode_addLabel_40 : decode b_CCode_addLabel 40 = .ok (.getfield 46, 3) := by decide +kernel
theorem d_CCode_addLabel_43 : decode b_CCode_addLabel 43 = .ok (.iconst 1, 1) := by decide +kernel
theorem d_CCode_addLabel_44 : decode b_CCode_addLabel 44 = .ok (.iadd, 1) := by decide +kernel
theorem d_CCode_addLabel_45 : decode b_CCode_addLabel 45 = .ok (.putfield 46, 3) := by decide +kernel
theorem d_CCode_addLabel_48 : decode b_CCode_addLabel 48 = .ok (.aload_n 0, 1) := by decide +kernel
theorem d_CCode_addLabel_49 : decode b_CCode_addLabel 49 = .ok (.getfield 46, 3) := by decide +kernel
theorem d_CCode_addLabel_52 : decode b_CCode_addLabel 52 = .ok (.ireturn, 1) := by decide +kernel
theorem d_CC_step_0 : decode b_CC_step 0 = .ok (.aload_n 0, 1) := by decide +kernel
theorem d_CC_step_1 : decode b_CC_step 1 = .ok (.getfield 21, 3) := by decide +kernel
theorem d_CC_step_4 : decode b_CC_step 4 = .ok (.invokevirtual 29, 3) := by decide +kernel
theorem d_CC_step_7 : decode b_CC_step 7 = .ok (.ifCond .ne 5, 3) := by decide +kernel
theorem d_CC_step_10 : decode b_CC_step 10 = .ok (.iconst (-1), 1) := by decide +kernel
theorem d_CC_step_11 : decode b_CC_step 11 = .ok (.ireturn, 1) := by decide +kernel
theorem d_CC_step_12 : decode b_CC_step 12 = .ok (.aload_n 0, 1) := by decide +kernel
theorem d_CC_step_13 : decode b_CC_step 13 = .ok (.getfield 21, 3) := by decide +kernel
theorem d_CC_step_16 : decode b_CC_step 16 = .ok (.iload_n 1, 1) := by decide +kernel
theorem d_CC_step_17 : decode b_CC_step 17 = .ok (.iload_n 2, 1) := by decide +kernel
theorem d_CC_step_18 : decode b_CC_step 18 = .ok (.iload_n 3, 1) := by decide +kernel
theorem d_CC_step_19 : decode b_CC_step 19 = .ok (.invokevirtual 73, 3) := by decide +kernel
theorem d_CC_step_22 : decode b_CC_step 22 = .ok (.istore 4, 2) := by decide +kernel
theorem d_CC_step_24 : decode b_CC_step 24 = .ok (.iload 4, 2) := by decide +kernel
theorem d_CC_step_26 : decode b_CC_step 26 = .ok (.ifCond .ne 14, 3) := by decide +kernel
theorem d_CC_step_29 : decode b_CC_step 29 = .ok (.aload_n 0, 1) := by decide +kernel
theorem d_CC_step_30 : decode b_CC_step 30 = .ok (.getfield 21, 3) := by decide +kernel
theorem d_CC_step_33 : decode b_CC_step 33 = .ok (.iload_n 1, 1) := by decide +kernel
theorem d_CC_step_34 : decode b_CC_step 34 = .ok (.iload_n 2, 1) := by decide +kernel
theorem d_CC_step_35 : decode b_CC_step 35 = .ok (.invokevirtual 76, 3) := by decide +kernel
theorem d_CC_step_38 : decode b_CC_step 38 = .ok (.istore 4, 2) := by decide +kernel
theorem d_CC_step_40 : decode b_CC_step 40 = .ok (.aload_n 0, 1) := by decide +kernel
theorem d_CC_step_41 : decode b_CC_step 41 = .ok (.getfield 21, 3) := by decide +kernel
theorem d_CC_step_44 : decode b_CC_step 44 = .ok (.iload 4, 2) := by decide +kernel
theorem d_CC_step_46 : decode b_CC_step 46 = .ok (.invokevirtual 80, 3) := by decide +kernel
theorem d_CC_step_49 : decode b_CC_step 49 = .ok (.iload 4, 2) := by decide +kernel
theorem d_CC_step_51 : decode b_CC_step 51 = .ok (.ireturn, 1) := by decide +kernel
theorem d_CCode_faultAhead_0 : decode b_CCode_faultAhead 0 = .ok (.aload_n 0, 1) := by decide +kernel
theorem d_CCode_faultAhead_1 : decode b_CCode_faultAhead 1 = .ok (.iload_n 1, 1) := by decide +kernel
theorem d_CCode_faultAhead_2 : decode b_CCode_faultAhead 2 = .ok (.iload_n 2, 1) := by decide +kernel
theorem d_CCode_faultAhead_3 : decode b_CCode_faultAhead 3 = .ok (.invokevirtual 120, 3) := by decide +kernel
theorem d_CCode_faultAhead_6 : decode b_CCode_faultAhead 6 = .ok (.ifCond .eq 6, 3) := by decide +kernel
theorem d_CCode_faultAhead_9 : decode b_CCode_faultAhead 9 = .ok (.bipush 13, 2) := by decide +kernel
theorem d_CCode_faultAhead_11 : decode b_CCode_faultAhead 11 = .ok (.ireturn, 1) := by decide +kernel
theorem d_CCode_faultAhead_12 : decode b_CCode_faultAhead 12 = .ok (.aload_n 0, 1) := by decide +kernel
theorem d_CCode_faultAhead_13 : decode b_CCode_faultAhead 13 = .ok (.getfield 56, 3) := by decide +kernel
theorem d_CCode_faultAhead_16 : decode b_CCode_faultAhead 16 = .ok (.ifCond .eq 15, 3) := by decide +kernel
theorem d_CCode_faultAhead_19 : decode b_CCode_faultAhead 19 = .ok (.aload_n 0, 1) := by decide +kernel
theorem d_CCode_faultAhead_20 : decode b_CCode_faultAhead 20 = .ok (.iload_n 1, 1) := by decide +kernel
theorem d_CCode_faultAhead_21 : decode b_CCode_faultAhead 21 = .ok (.iload_n 2, 1) := by decide +kernel
theorem d_CCode_faultAhead_22 : decode b_CCode_faultAhead 22 = .ok (.invokevirtual 124, 3) := by decide +kernel
theorem d_CCode_faultAhead_25 : decode b_CCode_faultAhead 25 = .ok (.ifCond .ne 6, 3) := by decide +kernel
theorem d_CCode_faultAhead_28 : decode b_CCode_faultAhead 28 = .ok (.bipush 14, 2) := by decide +kernel
theorem d_CCode_faultAhead_30 : decode b_CCode_faultAhead 30 = .ok (.ireturn, 1) := by decide +kernel
theorem d_CCode_faultAhead_31 : decode b_CCode_faultAhead 31 = .ok (.aload_n 0, 1) := by decide +kernel
theorem d_CCode_faultAhead_32 : decode b_CCode_faultAhead 32 = .ok (.iload_n 1, 1) := by decide +kernel
theorem d_CCode_faultAhead_33 : decode b_CCode_faultAhead 33 = .ok (.iload_n 2, 1) := by decide +kernel
theorem d_CCode_faultAhead_34 : decode b_CCode_faultAhead 34 = .ok (.iload_n 3, 1) := by decide +kernel
theorem d_CCode_faultAhead_35 : decode b_CCode_faultAhead 35 = .ok (.invokevirtual 127, 3) := by decide +kernel
theorem d_CCode_faultAhead_38 : decode b_CCode_faultAhead 38 = .ok (.ifCond .eq 6, 3) := by decide +kernel
theorem d_CCode_faultAhead_41 : decode b_CCode_faultAhead 41 = .ok (.bipush 12, 2) := by decide +kernel
theorem d_CCode_faultAhead_43 : decode b_CCode_faultAhead 43 = .ok (.ireturn, 1) := by decide +kernel
theorem d_CCode_faultAhead_44 : decode b_CCode_faultAhead 44 = .ok (.aload_n 0, 1) := by decide +kernel
theorem d_CCode_faultAhead_45 : decode b_CCode_faultAhead 45 = .ok (.iload_n 1, 1) := by decide +kernel
theorem d_CCode_faultAhead_46 : decode b_CCode_faultAhead 46 = .ok (.iload_n 2, 1) := by decide +kernel
theorem d_CCode_faultAhead_47 : decode b_CCode_faultAhead 47 = .ok (.iload_n 3, 1) := by decide +kernel
theorem d_CCode_faultAhead_48 : decode b_CCode_faultAhead 48 = .ok (.invokevirtual 131, 3) := by decide +kernel
theorem d_CCode_faultAhead_51 : decode b_CCode_faultAhead 51 = .ok (.ireturn, 1) := by decide +kernel
theorem d_CCode_isMalformed_0 : decode b_CCode_isMalformed 0 = .ok (.iload_n 1, 1) := by decide +kernel
theorem d_CCode_isMalformed_1 : decode b_CCode_isMalformed 1 = .ok (.lookupswitch 90 #[(2, 51), (3, 51), (4, 51), (28, 64), (208, 77)], 51) := by decide +kernel
theorem d_CCode_isMalformed_52 : decode b_CCode_isMalformed 52 = .ok (.iload_n 2, 1) := by decide +kernel
theorem d_CCode_isMalformed_53 : decode b_CCode_isMalformed 53 = .ok (.invokestatic 135, 3) := by decide +kernel
theorem d_CCode_isMalformed_56 : decode b_CCode_isMalformed 56 = .ok (.ifCond .ne 7, 3) := by decide +kernel
theorem d_CCode_isMalformed_59 : decode b_CCode_isMalformed 59 = .ok (.iconst 1, 1) := by decide +kernel
theorem d_CCode_isMalformed_60 : decode b_CCode_isMalformed 60 = .ok (.goto 4, 3) := by decide +kernel
theorem d_CCode_isMalformed_63 : decode b_CCode_isMalformed 63 = .ok (.iconst 0, 1) := by decide +kernel
theorem d_CCode_isMalformed_64 : decode b_CCode_isMalformed 64 = .ok (.ireturn, 1) := by decide +kernel
theorem d_CCode_isMalformed_65 : decode b_CCode_isMalformed 65 = .ok (.iload_n 2, 1) := by decide +kernel
theorem d_CCode_isMalformed_66 : decode b_CCode_isMalformed 66 = .ok (.invokestatic 90, 3) := by decide +kernel
theorem d_CCode_isMalformed_69 : decode b_CCode_isMalformed 69 = .ok (.ifCond .ne 7, 3) := by decide +kernel
theorem d_CCode_isMalformed_72 : decode b_CCode_isMalformed 72 = .ok (.iconst 1, 1) := by decide +kernel
theorem d_CCode_isMalformed_73 : decode b_CCode_isMalformed 73 = .ok (.goto 4, 3) := by decide +kernel
theorem d_CCode_isMalformed_76 : decode b_CCode_isMalformed 76 = .ok (.iconst 0, 1) := by decide +kernel
theorem d_CCode_isMalformed_77 : decode b_CCode_isMalformed 77 = .ok (.ireturn, 1) := by decide +kernel
theorem d_CCode_isMalformed_78 : decode b_CCode_isMalformed 78 = .ok (.iload_n 2, 1) := by decide +kernel
theorem d_CCode_isMalformed_79 : decode b_CCode_isMalformed 79 = .ok (.invokestatic 138, 3) := by decide +kernel
theorem d_CCode_isMalformed_82 : decode b_CCode_isMalformed 82 = .ok (.ifCond .ne 7, 3) := by decide +kernel
theorem d_CCode_isMalformed_85 : decode b_CCode_isMalformed 85 = .ok (.iconst 1, 1) := by decide +kernel
theorem d_CCode_isMalformed_86 : decode b_CCode_isMalformed 86 = .ok (.goto 4, 3) := by decide +kernel
theorem d_CCode_isMalformed_89 : decode b_CCode_isMalformed 89 = .ok (.iconst 0, 1) := by decide +kernel
theorem d_CCode_isMalformed_90 : decode b_CCode_isMalformed 90 = .ok (.ireturn, 1) := by decide +kernel
theorem d_CCode_isMalformed_91 : decode b_CCode_isMalformed 91 = .ok (.iload_n 1, 1) := by decide +kernel
theorem d_CCode_isMalformed_92 : decode b_CCode_isMalformed 92 = .ok (.invokestatic 141, 3) := by decide +kernel
theorem d_CCode_isMalformed_95 : decode b_CCode_isMalformed 95 = .ok (.ifCond .ne 7, 3) := by decide +kernel
theorem d_CCode_isMalformed_98 : decode b_CCode_isMalformed 98 = .ok (.iconst 1, 1) := by decide +kernel
theorem d_CCode_isMalformed_99 : decode b_CCode_isMalformed 99 = .ok (.goto 4, 3) := by decide +kernel
theorem d_CCode_isMalformed_102 : decode b_CCode_isMalformed 102 = .ok (.iconst 0, 1) := by decide +kernel
theorem d_CCode_isMalformed_103 : decode b_CCode_isMalformed 103 = .ok (.ireturn, 1) := by decide +kernel
theorem d_CC_isInstruction_0 : decode b_CC_isInstruction 0 = .ok (.iconst 0, 1) := by decide +kernel
theorem d_CC_isInstruction_1 : decode b_CC_isInstruction 1 = .ok (.istore_n 1, 1) := by decide +kernel
theorem d_CC_isInstruction_2 : decode b_CC_isInstruction 2 = .ok (.iload_n 1, 1) := by decide +kernel
theorem d_CC_isInstruction_3 : decode b_CC_isInstruction 3 = .ok (.iconst 1, 1) := by decide +kernel
theorem d_CC_isInstruction_4 : decode b_CC_isInstruction 4 = .ok (.iadd, 1) := by decide +kernel
theorem d_CC_isInstruction_5 : decode b_CC_isInstruction 5 = .ok (.getstatic 107, 3) := by decide +kernel
theorem d_CC_isInstruction_8 : decode b_CC_isInstruction 8 = .ok (.arraylength, 1) := by decide +kernel
theorem d_CC_isInstruction_9 : decode b_CC_isInstruction 9 = .ok (.if_icmp .ge 31, 3) := by decide +kernel
theorem d_CC_isInstruction_12 : decode b_CC_isInstruction 12 = .ok (.iload_n 0, 1) := by decide +kernel
theorem d_CC_isInstruction_13 : decode b_CC_isInstruction 13 = .ok (.getstatic 107, 3) := by decide +kernel
theorem d_CC_isInstruction_16 : decode b_CC_isInstruction 16 = .ok (.iload_n 1, 1) := by decide +kernel
theorem d_CC_isInstruction_17 : decode b_CC_isInstruction 17 = .ok (.iaload, 1) := by decide +kernel
theorem d_CC_isInstruction_18 : decode b_CC_isInstruction 18 = .ok (.if_icmp .lt 16, 3) := by decide +kernel
theorem d_CC_isInstruction_21 : decode b_CC_isInstruction 21 = .ok (.iload_n 0, 1) := by decide +kernel
theorem d_CC_isInstruction_22 : decode b_CC_isInstruction 22 = .ok (.getstatic 107, 3) := by decide +kernel
theorem d_CC_isInstruction_25 : decode b_CC_isInstruction 25 = .ok (.iload_n 1, 1) := by decide +kernel
theorem d_CC_isInstruction_26 : decode b_CC_isInstruction 26 = .ok (.iconst 1, 1) := by decide +kernel
theorem d_CC_isInstruction_27 : decode b_CC_isInstruction 27 = .ok (.iadd, 1) := by decide +kernel
theorem d_CC_isInstruction_28 : decode b_CC_isInstruction 28 = .ok (.iaload, 1) := by decide +kernel
theorem d_CC_isInstruction_29 : decode b_CC_isInstruction 29 = .ok (.if_icmp .gt 5, 3) := by decide +kernel
theorem d_CC_isInstruction_32 : decode b_CC_isInstruction 32 = .ok (.iconst 1, 1) := by decide +kernel
theorem d_CC_isInstruction_33 : decode b_CC_isInstruction 33 = .ok (.ireturn, 1) := by decide +kernel
theorem d_CC_isInstruction_34 : decode b_CC_isInstruction 34 = .ok (.iinc 1 2, 3) := by decide +kernel
theorem d_CC_isInstruction_37 : decode b_CC_isInstruction 37 = .ok (.goto (-35), 3) := by decide +kernel
theorem d_CC_isInstruction_40 : decode b_CC_isInstruction 40 = .ok (.iconst 0, 1) := by decide +kernel
theorem d_CC_isInstruction_41 : decode b_CC_isInstruction 41 = .ok (.ireturn, 1) := by decide +kernel
theorem d_CC_isBlockType_0 : decode b_CC_isBlockType 0 = .ok (.iload_n 0, 1) := by decide +kernel
theorem d_CC_isBlockType_1 : decode b_CC_isBlockType 1 = .ok (.ifCond .ge 20, 3) := by decide +kernel
theorem d_CC_isBlockType_4 : decode b_CC_isBlockType 4 = .ok (.iload_n 0, 1) := by decide +kernel
theorem d_CC_isBlockType_5 : decode b_CC_isBlockType 5 = .ok (.bipush (-64), 2) := by decide +kernel
theorem d_CC_isBlockType_7 : decode b_CC_isBlockType 7 = .ok (.if_icmp .eq 14, 3) := by decide +kernel
theorem d_CC_isBlockType_10 : decode b_CC_isBlockType 10 = .ok (.iload_n 0, 1) := by decide +kernel
theorem d_CC_isBlockType_11 : decode b_CC_isBlockType 11 = .ok (.sipush 128, 3) := by decide +kernel
theorem d_CC_isBlockType_14 : decode b_CC_isBlockType 14 = .ok (.iadd, 1) := by decide +kernel
theorem d_CC_isBlockType_15 : decode b_CC_isBlockType 15 = .ok (.invokestatic 33, 3) := by decide +kernel
theorem d_CC_isBlockType_18 : decode b_CC_isBlockType 18 = .ok (.ifCond .eq 7, 3) := by decide +kernel
theorem d_CC_isBlockType_21 : decode b_CC_isBlockType 21 = .ok (.iconst 1, 1) := by decide +kernel
theorem d_CC_isBlockType_22 : decode b_CC_isBlockType 22 = .ok (.goto 4, 3) := by decide +kernel
theorem d_CC_isBlockType_25 : decode b_CC_isBlockType 25 = .ok (.iconst 0, 1) := by decide +kernel
theorem d_CC_isBlockType_26 : decode b_CC_isBlockType 26 = .ok (.ireturn, 1) := by decide +kernel
theorem d_CCode_mayStandInConstant_0 : decode b_CCode_mayStandInConstant 0 = .ok (.iload_n 1, 1) := by decide +kernel
theorem d_CCode_mayStandInConstant_1 : decode b_CCode_mayStandInConstant 1 = .ok (.bipush 35, 2) := by decide +kernel
theorem d_CCode_mayStandInConstant_3 : decode b_CCode_mayStandInConstant 3 = .ok (.if_icmp .ne 45, 3) := by decide +kernel
theorem d_CCode_mayStandInConstant_6 : decode b_CCode_mayStandInConstant 6 = .ok (.aload_n 0, 1) := by decide +kernel
theorem d_CCode_mayStandInConstant_7 : decode b_CCode_mayStandInConstant 7 = .ok (.getfield 26, 3) := by decide +kernel
theorem d_CCode_mayStandInConstant_10 : decode b_CCode_mayStandInConstant 10 = .ok (.getfield 144, 3) := by decide +kernel
theorem d_CCode_mayStandInConstant_13 : decode b_CCode_mayStandInConstant 13 = .ok (.iload_n 2, 1) := by decide +kernel
theorem d_CCode_mayStandInConstant_14 : decode b_CCode_mayStandInConstant 14 = .ok (.invokevirtual 148, 3) := by decide +kernel
theorem d_CCode_mayStandInConstant_17 : decode b_CCode_mayStandInConstant 17 = .ok (.ifCond .eq 29, 3) := by decide +kernel
theorem d_CCode_mayStandInConstant_20 : decode b_CCode_mayStandInConstant 20 = .ok (.iload_n 2, 1) := by decide +kernel
theorem d_CCode_mayStandInConstant_21 : decode b_CCode_mayStandInConstant 21 = .ok (.aload_n 0, 1) := by decide +kernel
theorem d_CCode_mayStandInConstant_22 : decode b_CCode_mayStandInConstant 22 = .ok (.getfield 83, 3) := by decide +kernel
theorem d_CCode_mayStandInConstant_25 : decode b_CCode_mayStandInConstant 25 = .ok (.if_icmp .ge 21, 3) := by decide +kernel
theorem d_CCode_mayStandInConstant_28 : decode b_CCode_mayStandInConstant 28 = .ok (.aload_n 0, 1) := by decide +kernel
theorem d_CCode_mayStandInConstant_29 : decode b_CCode_mayStandInConstant 29 = .ok (.getfield 26, 3) := by decide +kernel
theorem d_CCode_mayStandInConstant_32 : decode b_CCode_mayStandInConstant 32 = .ok (.getfield 144, 3) := by decide +kernel
theorem d_CCode_mayStandInConstant_35 : decode b_CCode_mayStandInConstant 35 = .ok (.iload_n 2, 1) := by decide +kernel
theorem d_CCode_mayStandInConstant_36 : decode b_CCode_mayStandInConstant 36 = .ok (.invokevirtual 153, 3) := by decide +kernel
theorem d_CCode_mayStandInConstant_39 : decode b_CCode_mayStandInConstant 39 = .ok (.ifCond .ne 7, 3) := by decide +kernel
theorem d_CCode_mayStandInConstant_42 : decode b_CCode_mayStandInConstant 42 = .ok (.iconst 1, 1) := by decide +kernel
theorem d_CCode_mayStandInConstant_43 : decode b_CCode_mayStandInConstant 43 = .ok (.goto 4, 3) := by decide +kernel
theorem d_CCode_mayStandInConstant_46 : decode b_CCode_mayStandInConstant 46 = .ok (.iconst 0, 1) := by decide +kernel
theorem d_CCode_mayStandInConstant_47 : decode b_CCode_mayStandInConstant 47 = .ok (.ireturn, 1) := by decide +kernel
theorem d_CCode_mayStandInConstant_48 : decode b_CCode_mayStandInConstant 48 = .ok (.iload_n 1, 1) := by decide +kernel
theorem d_CCode_mayStandInConstant_49 : decode b_CCode_mayStandInConstant 49 = .ok (.bipush 11, 2) := by decide +kernel
theorem d_CCode_mayStandInConstant_51 : decode b_CCode_mayStandInConstant 51 = .ok (.if_icmp .eq 29, 3) := by decide +kernel
theorem d_CCode_mayStandInConstant_54 : decode b_CCode_mayStandInConstant 54 = .ok (.iload_n 1, 1) := by decide +kernel
theorem d_CCode_mayStandInConstant_55 : decode b_CCode_mayStandInConstant 55 = .ok (.bipush 65, 2) := by decide +kernel
theorem d_CCode_mayStandInConstant_57 : decode b_CCode_mayStandInConstant 57 = .ok (.if_icmp .lt 9, 3) := by decide +kernel
theorem d_CCode_mayStandInConstant_60 : decode b_CCode_mayStandInConstant 60 = .ok (.iload_n 1, 1) := by decide +kernel
theorem d_CCode_mayStandInConstant_61 : decode b_CCode_mayStandInConstant 61 = .ok (.bipush 68, 2) := by decide +kernel
theorem d_CCode_mayStandInConstant_63 : decode b_CCode_mayStandInConstant 63 = .ok (.if_icmp .le 17, 3) := by decide +kernel
theorem d_CCode_mayStandInConstant_66 : decode b_CCode_mayStandInConstant 66 = .ok (.iload_n 1, 1) := by decide +kernel
theorem d_CCode_mayStandInConstant_67 : decode b_CCode_mayStandInConstant 67 = .ok (.sipush 208, 3) := by decide +kernel
theorem d_CCode_mayStandInConstant_70 : decode b_CCode_mayStandInConstant 70 = .ok (.if_icmp .eq 10, 3) := by decide +kernel
theorem d_CCode_mayStandInConstant_73 : decode b_CCode_mayStandInConstant 73 = .ok (.iload_n 1, 1) := by decide +kernel
theorem d_CCode_mayStandInConstant_74 : decode b_CCode_mayStandInConstant 74 = .ok (.sipush 210, 3) := by decide +kernel
theorem d_CCode_mayStandInConstant_77 : decode b_CCode_mayStandInConstant 77 = .ok (.if_icmp .ne 7, 3) := by decide +kernel
theorem d_CCode_mayStandInConstant_80 : decode b_CCode_mayStandInConstant 80 = .ok (.iconst 1, 1) := by decide +kernel
theorem d_CCode_mayStandInConstant_81 : decode b_CCode_mayStandInConstant 81 = .ok (.goto 4, 3) := by decide +kernel
theorem d_CCode_mayStandInConstant_84 : decode b_CCode_mayStandInConstant 84 = .ok (.iconst 0, 1) := by decide +kernel
theorem d_CCode_mayStandInConstant_85 : decode b_CCode_mayStandInConstant 85 = .ok (.ireturn, 1) := by decide +kernel
theorem d_CShelf_isMarked_0 : decode b_CShelf_isMarked 0 = .ok (.aload_n 0, 1) := by decide +kernel
theorem d_CShelf_isMarked_1 : decode b_CShelf_isMarked 1 = .ok (.iload_n 1, 1) := by decide +kernel
theorem d_CShelf_isMarked_2 : decode b_CShelf_isMarked 2 = .ok (.invokevirtual 23, 3) := by decide +kernel
theorem d_CShelf_isMarked_5 : decode b_CShelf_isMarked 5 = .ok (.ifCond .eq 25, 3) := by decide +kernel
theorem d_CShelf_isMarked_8 : decode b_CShelf_isMarked 8 = .ok (.iload_n 1, 1) := by decide +kernel
theorem d_CShelf_isMarked_9 : decode b_CShelf_isMarked 9 = .ok (.aload_n 0, 1) := by decide +kernel
theorem d_CShelf_isMarked_10 : decode b_CShelf_isMarked 10 = .ok (.getfield 15, 3) := by decide +kernel
theorem d_CShelf_isMarked_13 : decode b_CShelf_isMarked 13 = .ok (.arraylength, 1) := by decide +kernel
theorem d_CShelf_isMarked_14 : decode b_CShelf_isMarked 14 = .ok (.if_icmp .ge 16, 3) := by decide +kernel
theorem d_CShelf_isMarked_17 : decode b_CShelf_isMarked 17 = .ok (.aload_n 0, 1) := by decide +kernel
theorem d_CShelf_isMarked_18 : decode b_CShelf_isMarked 18 = .ok (.getfield 15, 3) := by decide +kernel
theorem d_CShelf_isMarked_21 : decode b_CShelf_isMarked 21 = .ok (.iload_n 1, 1) := by decide +kernel
theorem d_CShelf_isMarked_22 : decode b_CShelf_isMarked 22 = .ok (.baload, 1) := by decide +kernel
theorem d_CShelf_isMarked_23 : decode b_CShelf_isMarked 23 = .ok (.ifCond .eq 7, 3) := by decide +kernel
theorem d_CShelf_isMarked_26 : decode b_CShelf_isMarked 26 = .ok (.iconst 1, 1) := by decide +kernel
theorem d_CShelf_isMarked_27 : decode b_CShelf_isMarked 27 = .ok (.goto 4, 3) := by decide +kernel
theorem d_CShelf_isMarked_30 : decode b_CShelf_isMarked 30 = .ok (.iconst 0, 1) := by decide +kernel
theorem d_CShelf_isMarked_31 : decode b_CShelf_isMarked 31 = .ok (.ireturn, 1) := by decide +kernel
theorem d_CCode_namesWhatIsMissing_0 : decode b_CCode_namesWhatIsMissing 0 = .ok (.iload_n 1, 1) := by decide +kernel
theorem d_CCode_namesWhatIsMissing_1 : decode b_CCode_namesWhatIsMissing 1 = .ok (.lookupswitch 481 #[(2, 203), (3, 203), (4, 203), (12, 224), (13, 224), (14, 241), (16, 265), (17, 285), (32, 316), (33, 316), (34, 316), (35, 333), (36, 333), (37, 353), (38, 353), (210, 265), (264, 373), (265, 373), (268, 393), (269, 427), (270, 447), (271, 353), (272, 353), (273, 353)], 203) := by decide +kernel
theorem d_CCode_namesWhatIsMissing_204 : decode b_CCode_namesWhatIsMissing 204 = .ok (.iload_n 2, 1) := by decide +kernel
theorem d_CCode_namesWhatIsMissing_205 : decode b_CCode_namesWhatIsMissing 205 = .ok (.ifCond .lt 18, 3) := by decide +kernel
theorem d_CCode_namesWhatIsMissing_208 : decode b_CCode_namesWhatIsMissing 208 = .ok (.aload_n 0, 1) := by decide +kernel
theorem d_CCode_namesWhatIsMissing_209 : decode b_CCode_namesWhatIsMissing 209 = .ok (.getfield 26, 3) := by decide +kernel
theorem d_CCode_namesWhatIsMissing_212 : decode b_CCode_namesWhatIsMissing 212 = .ok (.iload_n 2, 1) := by decide +kernel
theorem d_CCode_namesWhatIsMissing_213 : decode b_CCode_namesWhatIsMissing 213 = .ok (.invokevirtual 156, 3) := by decide +kernel
theorem d_CCode_namesWhatIsMissing_216 : decode b_CCode_namesWhatIsMissing 216 = .ok (.ifCond .ne 7, 3) := by decide +kernel
theorem d_CCode_namesWhatIsMissing_219 : decode b_CCode_namesWhatIsMissing 219 = .ok (.iconst 1, 1) := by decide +kernel
theorem d_CCode_namesWhatIsMissing_220 : decode b_CCode_namesWhatIsMissing 220 = .ok (.goto 4, 3) := by decide +kernel
theorem d_CCode_namesWhatIsMissing_223 : decode b_CCode_namesWhatIsMissing 223 = .ok (.iconst 0, 1) := by decide +kernel
theorem d_CCode_namesWhatIsMissing_224 : decode b_CCode_namesWhatIsMissing 224 = .ok (.ireturn, 1) := by decide +kernel
theorem d_CCode_namesWhatIsMissing_225 : decode b_CCode_namesWhatIsMissing 225 = .ok (.aload_n 0, 1) := by decide +kernel
theorem d_CCode_namesWhatIsMissing_226 : decode b_CCode_namesWhatIsMissing 226 = .ok (.getfield 35, 3) := by decide +kernel
theorem d_CCode_namesWhatIsMissing_229 : decode b_CCode_namesWhatIsMissing 229 = .ok (.iload_n 2, 1) := by decide +kernel
theorem d_CCode_namesWhatIsMissing_230 : decode b_CCode_namesWhatIsMissing 230 = .ok (.invokevirtual 159, 3) := by decide +kernel
theorem d_CCode_namesWhatIsMissing_233 : decode b_CCode_namesWhatIsMissing 233 = .ok (.ifCond .ne 7, 3) := by decide +kernel
theorem d_CCode_namesWhatIsMissing_236 : decode b_CCode_namesWhatIsMissing 236 = .ok (.iconst 1, 1) := by decide +kernel
theorem d_CCode_namesWhatIsMissing_237 : decode b_CCode_namesWhatIsMissing 237 = .ok (.goto 4, 3) := by decide +kernel
theorem d_CCode_namesWhatIsMissing_240 : decode b_CCode_namesWhatIsMissing 240 = .ok (.iconst 0, 1) := by decide +kernel
theorem d_CCode_namesWhatIsMissing_241 : decode b_CCode_namesWhatIsMissing 241 = .ok (.ireturn, 1) := by decide +kernel
theorem d_CCode_namesWhatIsMissing_242 : decode b_CCode_namesWhatIsMissing 242 = .ok (.aload_n 0, 1) := by decide +kernel
theorem d_CCode_namesWhatIsMissing_243 : decode b_CCode_namesWhatIsMissing 243 = .ok (.getfield 35, 3) := by decide +kernel
theorem d_CCode_namesWhatIsMissing_246 : decode b_CCode_namesWhatIsMissing 246 = .ok (.iload_n 2, 1) := by decide +kernel
theorem d_CCode_namesWhatIsMissing_247 : decode b_CCode_namesWhatIsMissing 247 = .ok (.invokevirtual 159, 3) := by decide +kernel
theorem d_CCode_namesWhatIsMissing_250 : decode b_CCode_namesWhatIsMissing 250 = .ok (.ifCond .eq 10, 3) := by decide +kernel
theorem d_CCode_namesWhatIsMissing_253 : decode b_CCode_namesWhatIsMissing 253 = .ok (.aload_n 0, 1) := by decide +kernel
theorem d_CCode_namesWhatIsMissing_254 : decode b_CCode_namesWhatIsMissing 254 = .ok (.invokevirtual 162, 3) := by decide +kernel
theorem d_CCode_namesWhatIsMissing_257 : decode b_CCode_namesWhatIsMissing 257 = .ok (.ifCond .eq 7, 3) := by decide +kernel
theorem d_CCode_namesWhatIsMissing_260 : decode b_CCode_namesWhatIsMissing 260 = .ok (.iconst 1, 1) := by decide +kernel
theorem d_CCode_namesWhatIsMissing_261 : decode b_CCode_namesWhatIsMissing 261 = .ok (.goto 4, 3) := by decide +kernel
theorem d_CCode_namesWhatIsMissing_264 : decode b_CCode_namesWhatIsMissing 264 = .ok (.iconst 0, 1) := by decide +kernel
theorem d_CCode_namesWhatIsMissing_265 : decode b_CCode_namesWhatIsMissing 265 = .ok (.ireturn, 1) := by decide +kernel
theorem d_CCode_namesWhatIsMissing_266 : decode b_CCode_namesWhatIsMissing 266 = .ok (.aload_n 0, 1) := by decide +kernel
theorem d_CCode_namesWhatIsMissing_267 : decode b_CCode_namesWhatIsMissing 267 = .ok (.getfield 26, 3) := by decide +kernel
theorem d_CCode_namesWhatIsMissing_270 : decode b_CCode_namesWhatIsMissing 270 = .ok (.getfield 165, 3) := by decide +kernel
theorem d_CCode_namesWhatIsMissing_273 : decode b_CCode_namesWhatIsMissing 273 = .ok (.iload_n 2, 1) := by decide +kernel
theorem d_CCode_namesWhatIsMissing_274 : decode b_CCode_namesWhatIsMissing 274 = .ok (.invokevirtual 148, 3) := by decide +kernel
theorem d_CCode_namesWhatIsMissing_277 : decode b_CCode_namesWhatIsMissing 277 = .ok (.ifCond .ne 7, 3) := by decide +kernel
theorem d_CCode_namesWhatIsMissing_280 : decode b_CCode_namesWhatIsMissing 280 = .ok (.iconst 1, 1) := by decide +kernel
theorem d_CCode_namesWhatIsMissing_281 : decode b_CCode_namesWhatIsMissing 281 = .ok (.goto 4, 3) := by decide +kernel
theorem d_CCode_namesWhatIsMissing_284 : decode b_CCode_namesWhatIsMissing 284 = .ok (.iconst 0, 1) := by decide +kernel
theorem d_CCode_namesWhatIsMissing_285 : decode b_CCode_namesWhatIsMissing 285 = .ok (.ireturn, 1) := by decide +kernel
theorem d_CCode_namesWhatIsMissing_286 : decode b_CCode_namesWhatIsMissing 286 = .ok (.aload_n 0, 1) := by decide +kernel
theorem d_CCode_namesWhatIsMissing_287 : decode b_CCode_namesWhatIsMissing 287 = .ok (.getfield 26, 3) := by decide +kernel
theorem d_CCode_namesWhatIsMissing_290 : decode b_CCode_namesWhatIsMissing 290 = .ok (.iload_n 2, 1) := by decide +kernel
theorem d_CCode_namesWhatIsMissing_291 : decode b_CCode_namesWhatIsMissing 291 = .ok (.invokevirtual 156, 3) := by decide +kernel
theorem d_CCode_namesWhatIsMissing_294 : decode b_CCode_namesWhatIsMissing 294 = .ok (.ifCond .eq 17, 3) := by decide +kernel
theorem d_CCode_namesWhatIsMissing_297 : decode b_CCode_namesWhatIsMissing 297 = .ok (.aload_n 0, 1) := by decide +kernel
theorem d_CCode_namesWhatIsMissing_298 : decode b_CCode_namesWhatIsMissing 298 = .ok (.getfield 26, 3) := by decide +kernel
theorem d_CCode_namesWhatIsMissing_301 : decode b_CCode_namesWhatIsMissing 301 = .ok (.getfield 168, 3) := by decide +kernel
theorem d_CCode_namesWhatIsMissing_304 : decode b_CCode_namesWhatIsMissing 304 = .ok (.iload_n 3, 1) := by decide +kernel
theorem d_CCode_namesWhatIsMissing_305 : decode b_CCode_namesWhatIsMissing 305 = .ok (.invokevirtual 148, 3) := by decide +kernel
theorem d_CCode_namesWhatIsMissing_308 : decode b_CCode_namesWhatIsMissing 308 = .ok (.ifCond .ne 7, 3) := by decide +kernel
theorem d_CCode_namesWhatIsMissing_311 : decode b_CCode_namesWhatIsMissing 311 = .ok (.iconst 1, 1) := by decide +kernel
theorem d_CCode_namesWhatIsMissing_312 : decode b_CCode_namesWhatIsMissing 312 = .ok (.goto 4, 3) := by decide +kernel
theorem d_CCode_namesWhatIsMissing_315 : decode b_CCode_namesWhatIsMissing 315 = .ok (.iconst 0, 1) := by decide +kernel
theorem d_CCode_namesWhatIsMissing_316 : decode b_CCode_namesWhatIsMissing 316 = .ok (.ireturn, 1) := by decide +kernel
theorem d_CCode_namesWhatIsMissing_317 : decode b_CCode_namesWhatIsMissing 317 = .ok (.aload_n 0, 1) := by decide +kernel
theorem d_CCode_namesWhatIsMissing_318 : decode b_CCode_namesWhatIsMissing 318 = .ok (.getfield 12, 3) := by decide +kernel
theorem d_CCode_namesWhatIsMissing_321 : decode b_CCode_namesWhatIsMissing 321 = .ok (.iload_n 2, 1) := by decide +kernel
theorem d_CCode_namesWhatIsMissing_322 : decode b_CCode_namesWhatIsMissing 322 = .ok (.invokevirtual 171, 3) := by decide +kernel
theorem d_CCode_namesWhatIsMissing_325 : decode b_CCode_namesWhatIsMissing 325 = .ok (.ifCond .ne 7, 3) := by decide +kernel
theorem d_CCode_namesWhatIsMissing_328 : decode b_CCode_namesWhatIsMissing 328 = .ok (.iconst 1, 1) := by decide +kernel
theorem d_CCode_namesWhatIsMissing_329 : decode b_CCode_namesWhatIsMissing 329 = .ok (.goto 4, 3) := by decide +kernel
theorem d_CCode_namesWhatIsMissing_332 : decode b_CCode_namesWhatIsMissing 332 = .ok (.iconst 0, 1) := by decide +kernel
theorem d_CCode_namesWhatIsMissing_333 : decode b_CCode_namesWhatIsMissing 333 = .ok (.ireturn, 1) := by decide +kernel
theorem d_CCode_namesWhatIsMissing_334 : decode b_CCode_namesWhatIsMissing 334 = .ok (.aload_n 0, 1) := by decide +kernel
theorem d_CCode_namesWhatIsMissing_335 : decode b_CCode_namesWhatIsMissing 335 = .ok (.getfield 26, 3) := by decide +kernel
theorem d_CCode_namesWhatIsMissing_338 : decode b_CCode_namesWhatIsMissing 338 = .ok (.getfield 144, 3) := by decide +kernel
theorem d_CCode_namesWhatIsMissing_341 : decode b_CCode_namesWhatIsMissing 341 = .ok (.iload_n 2, 1) := by decide +kernel
theorem d_CCode_namesWhatIsMissing_342 : decode b_CCode_namesWhatIsMissing 342 = .ok (.invokevirtual 148, 3) := by decide +kernel
theorem d_CCode_namesWhatIsMissing_345 : decode b_CCode_namesWhatIsMissing 345 = .ok (.ifCond .ne 7, 3) := by decide +kernel
theorem d_CCode_namesWhatIsMissing_348 : decode b_CCode_namesWhatIsMissing 348 = .ok (.iconst 1, 1) := by decide +kernel
theorem d_CCode_namesWhatIsMissing_349 : decode b_CCode_namesWhatIsMissing 349 = .ok (.goto 4, 3) := by decide +kernel
theorem d_CCode_namesWhatIsMissing_352 : decode b_CCode_namesWhatIsMissing 352 = .ok (.iconst 0, 1) := by decide +kernel
theorem d_CCode_namesWhatIsMissing_353 : decode b_CCode_namesWhatIsMissing 353 = .ok (.ireturn, 1) := by decide +kernel
theorem d_CCode_namesWhatIsMissing_354 : decode b_CCode_namesWhatIsMissing 354 = .ok (.aload_n 0, 1) := by decide +kernel
theorem d_CCode_namesWhatIsMissing_355 : decode b_CCode_namesWhatIsMissing 355 = .ok (.getfield 26, 3) := by decide +kernel
theorem d_CCode_namesWhatIsMissing_358 : decode b_CCode_namesWhatIsMissing 358 = .ok (.getfield 168, 3) := by decide +kernel
theorem d_CCode_namesWhatIsMissing_361 : decode b_CCode_namesWhatIsMissing 361 = .ok (.iload_n 2, 1) := by decide +kernel
theorem d_CCode_namesWhatIsMissing_362 : decode b_CCode_namesWhatIsMissing 362 = .ok (.invokevirtual 148, 3) := by decide +kernel
theorem d_CCode_namesWhatIsMissing_365 : decode b_CCode_namesWhatIsMissing 365 = .ok (.ifCond .ne 7, 3) := by decide +kernel
theorem d_CCode_namesWhatIsMissing_368 : decode b_CCode_namesWhatIsMissing 368 = .ok (.iconst 1, 1) := by decide +kernel
theorem d_CCode_namesWhatIsMissing_369 : decode b_CCode_namesWhatIsMissing 369 = .ok (.goto 4, 3) := by decide +kernel
theorem d_CCode_namesWhatIsMissing_372 : decode b_CCode_namesWhatIsMissing 372 = .ok (.iconst 0, 1) := by decide +kernel
theorem d_CCode_namesWhatIsMissing_373 : decode b_CCode_namesWhatIsMissing 373 = .ok (.ireturn, 1) := by decide +kernel
theorem d_CCode_namesWhatIsMissing_374 : decode b_CCode_namesWhatIsMissing 374 = .ok (.aload_n 0, 1) := by decide +kernel
theorem d_CCode_namesWhatIsMissing_375 : decode b_CCode_namesWhatIsMissing 375 = .ok (.getfield 26, 3) := by decide +kernel
theorem d_CCode_namesWhatIsMissing_378 : decode b_CCode_namesWhatIsMissing 378 = .ok (.getfield 172, 3) := by decide +kernel
theorem d_CCode_namesWhatIsMissing_381 : decode b_CCode_namesWhatIsMissing 381 = .ok (.iload_n 2, 1) := by decide +kernel
theorem d_CCode_namesWhatIsMissing_382 : decode b_CCode_namesWhatIsMissing 382 = .ok (.invokevirtual 148, 3) := by decide +kernel
theorem d_CCode_namesWhatIsMissing_385 : decode b_CCode_namesWhatIsMissing 385 = .ok (.ifCond .ne 7, 3) := by decide +kernel
theorem d_CCode_namesWhatIsMissing_388 : decode b_CCode_namesWhatIsMissing 388 = .ok (.iconst 1, 1) := by decide +kernel
theorem d_CCode_namesWhatIsMissing_389 : decode b_CCode_namesWhatIsMissing 389 = .ok (.goto 4, 3) := by decide +kernel
theorem d_CCode_namesWhatIsMissing_392 : decode b_CCode_namesWhatIsMissing 392 = .ok (.iconst 0, 1) := by decide +kernel
theorem d_CCode_namesWhatIsMissing_393 : decode b_CCode_namesWhatIsMissing 393 = .ok (.ireturn, 1) := by decide +kernel
theorem d_CCode_namesWhatIsMissing_394 : decode b_CCode_namesWhatIsMissing 394 = .ok (.aload_n 0, 1) := by decide +kernel
theorem d_CCode_namesWhatIsMissing_395 : decode b_CCode_namesWhatIsMissing 395 = .ok (.getfield 26, 3) := by decide +kernel
theorem d_CCode_namesWhatIsMissing_398 : decode b_CCode_namesWhatIsMissing 398 = .ok (.getfield 175, 3) := by decide +kernel
theorem d_CCode_namesWhatIsMissing_401 : decode b_CCode_namesWhatIsMissing 401 = .ok (.iload_n 2, 1) := by decide +kernel
theorem d_CCode_namesWhatIsMissing_402 : decode b_CCode_namesWhatIsMissing 402 = .ok (.invokevirtual 148, 3) := by decide +kernel
theorem d_CCode_namesWhatIsMissing_405 : decode b_CCode_namesWhatIsMissing 405 = .ok (.ifCond .eq 17, 3) := by decide +kernel
theorem d_CCode_namesWhatIsMissing_408 : decode b_CCode_namesWhatIsMissing 408 = .ok (.aload_n 0, 1) := by decide +kernel
theorem d_CCode_namesWhatIsMissing_409 : decode b_CCode_namesWhatIsMissing 409 = .ok (.getfield 26, 3) := by decide +kernel
theorem d_CCode_namesWhatIsMissing_412 : decode b_CCode_namesWhatIsMissing 412 = .ok (.getfield 168, 3) := by decide +kernel
theorem d_CCode_namesWhatIsMissing_415 : decode b_CCode_namesWhatIsMissing 415 = .ok (.iload_n 3, 1) := by decide +kernel
theorem d_CCode_namesWhatIsMissing_416 : decode b_CCode_namesWhatIsMissing 416 = .ok (.invokevirtual 148, 3) := by decide +kernel
theorem d_CCode_namesWhatIsMissing_419 : decode b_CCode_namesWhatIsMissing 419 = .ok (.ifCond .ne 7, 3) := by decide +kernel
theorem d_CCode_namesWhatIsMissing_422 : decode b_CCode_namesWhatIsMissing 422 = .ok (.iconst 1, 1) := by decide +kernel
theorem d_CCode_namesWhatIsMissing_423 : decode b_CCode_namesWhatIsMissing 423 = .ok (.goto 4, 3) := by decide +kernel
theorem d_CCode_namesWhatIsMissing_426 : decode b_CCode_namesWhatIsMissing 426 = .ok (.iconst 0, 1) := by decide +kernel
theorem d_CCode_namesWhatIsMissing_427 : decode b_CCode_namesWhatIsMissing 427 = .ok (.ireturn, 1) := by decide +kernel
theorem d_CCode_namesWhatIsMissing_428 : decode b_CCode_namesWhatIsMissing 428 = .ok (.aload_n 0, 1) := by decide +kernel
theorem d_CCode_namesWhatIsMissing_429 : decode b_CCode_namesWhatIsMissing 429 = .ok (.getfield 26, 3) := by decide +kernel
theorem d_CCode_namesWhatIsMissing_432 : decode b_CCode_namesWhatIsMissing 432 = .ok (.getfield 175, 3) := by decide +kernel
theorem d_CCode_namesWhatIsMissing_435 : decode b_CCode_namesWhatIsMissing 435 = .ok (.iload_n 2, 1) := by decide +kernel
theorem d_CCode_namesWhatIsMissing_436 : decode b_CCode_namesWhatIsMissing 436 = .ok (.invokevirtual 148, 3) := by decide +kernel
theorem d_CCode_namesWhatIsMissing_439 : decode b_CCode_namesWhatIsMissing 439 = .ok (.ifCond .ne 7, 3) := by decide +kernel
theorem d_CCode_namesWhatIsMissing_442 : decode b_CCode_namesWhatIsMissing 442 = .ok (.iconst 1, 1) := by decide +kernel
theorem d_CCode_namesWhatIsMissing_443 : decode b_CCode_namesWhatIsMissing 443 = .ok (.goto 4, 3) := by decide +kernel
theorem d_CCode_namesWhatIsMissing_446 : decode b_CCode_namesWhatIsMissing 446 = .ok (.iconst 0, 1) := by decide +kernel
theorem d_CCode_namesWhatIsMissing_447 : decode b_CCode_namesWhatIsMissing 447 = .ok (.ireturn, 1) := by decide +kernel
theorem d_CCode_namesWhatIsMissing_448 : decode b_CCode_namesWhatIsMissing 448 = .ok (.aload_n 0, 1) := by decide +kernel
theorem d_CCode_namesWhatIsMissing_449 : decode b_CCode_namesWhatIsMissing 449 = .ok (.getfield 26, 3) := by decide +kernel
theorem d_CCode_namesWhatIsMissing_452 : decode b_CCode_namesWhatIsMissing 452 = .ok (.getfield 168, 3) := by decide +kernel
theorem d_CCode_namesWhatIsMissing_455 : decode b_CCode_namesWhatIsMissing 455 = .ok (.iload_n 2, 1) := by decide +kernel
theorem d_CCode_namesWhatIsMissing_456 : decode b_CCode_namesWhatIsMissing 456 = .ok (.invokevirtual 148, 3) := by decide +kernel
theorem d_CCode_namesWhatIsMissing_459 : decode b_CCode_namesWhatIsMissing 459 = .ok (.ifCond .eq 17, 3) := by decide +kernel
theorem d_CCode_namesWhatIsMissing_462 : decode b_CCode_namesWhatIsMissing 462 = .ok (.aload_n 0, 1) := by decide +kernel
theorem d_CCode_namesWhatIsMissing_463 : decode b_CCode_namesWhatIsMissing 463 = .ok (.getfield 26, 3) := by decide +kernel
theorem d_CCode_namesWhatIsMissing_466 : decode b_CCode_namesWhatIsMissing 466 = .ok (.getfield 168, 3) := by decide +kernel
theorem d_CCode_namesWhatIsMissing_469 : decode b_CCode_namesWhatIsMissing 469 = .ok (.iload_n 3, 1) := by decide +kernel
theorem d_CCode_namesWhatIsMissing_470 : decode b_CCode_namesWhatIsMissing 470 = .ok (.invokevirtual 148, 3) := by decide +kernel
theorem d_CCode_namesWhatIsMissing_473 : decode b_CCode_namesWhatIsMissing 473 = .ok (.ifCond .ne 7, 3) := by decide +kernel
theorem d_CCode_namesWhatIsMissing_476 : decode b_CCode_namesWhatIsMissing 476 = .ok (.iconst 1, 1) := by decide +kernel
theorem d_CCode_namesWhatIsMissing_477 : decode b_CCode_namesWhatIsMissing 477 = .ok (.goto 4, 3) := by decide +kernel
theorem d_CCode_namesWhatIsMissing_480 : decode b_CCode_namesWhatIsMissing 480 = .ok (.iconst 0, 1) := by decide +kernel
theorem d_CCode_namesWhatIsMissing_481 : decode b_CCode_namesWhatIsMissing 481 = .ok (.ireturn, 1) := by decide +kernel
theorem d_CCode_namesWhatIsMissing_482 : decode b_CCode_namesWhatIsMissing 482 = .ok (.iconst 0, 1) := by decide +kernel
theorem d_CCode_namesWhatIsMissing_483 : decode b_CCode_namesWhatIsMissing 483 = .ok (.ireturn, 1) := by decide +kernel
theorem d_CLocals_has_0 : decode b_CLocals_has 0 = .ok (.iload_n 1, 1) := by decide +kernel
theorem d_CLocals_has_1 : decode b_CLocals_has 1 = .ok (.invokestatic 27, 3) := by decide +kernel
theorem d_CLocals_has_4 : decode b_CLocals_has 4 = .ok (.aload_n 0, 1) := by decide +kernel
theorem d_CLocals_has_5 : decode b_CLocals_has 5 = .ok (.getfield 23, 3) := by decide +kernel
theorem d_CLocals_has_8 : decode b_CLocals_has 8 = .ok (.lcmp, 1) := by decide +kernel
theorem d_CLocals_has_9 : decode b_CLocals_has 9 = .ok (.ifCond .ge 7, 3) := by decide +kernel
theorem d_CLocals_has_12 : decode b_CLocals_has 12 = .ok (.iconst 1, 1) := by decide +kernel
theorem d_CLocals_has_13 : decode b_CLocals_has 13 = .ok (.goto 4, 3) := by decide +kernel
theorem d_CLocals_has_16 : decode b_CLocals_has 16 = .ok (.iconst 0, 1) := by decide +kernel
theorem d_CLocals_has_17 : decode b_CLocals_has 17 = .ok (.ireturn, 1) := by decide +kernel
theorem d_CStack_hasBlock_0 : decode b_CStack_hasBlock 0 = .ok (.iload_n 1, 1) := by decide +kernel
theorem d_CStack_hasBlock_1 : decode b_CStack_hasBlock 1 = .ok (.ifCond .lt 15, 3) := by decide +kernel
theorem d_CStack_hasBlock_4 : decode b_CStack_hasBlock 4 = .ok (.iload_n 1, 1) := by decide +kernel
theorem d_CStack_hasBlock_5 : decode b_CStack_hasBlock 5 = .ok (.aload_n 0, 1) := by decide +kernel
theorem d_CStack_hasBlock_6 : decode b_CStack_hasBlock 6 = .ok (.getfield 39, 3) := by decide +kernel
theorem d_CStack_hasBlock_9 : decode b_CStack_hasBlock 9 = .ok (.if_icmp .ge 7, 3) := by decide +kernel
theorem d_CStack_hasBlock_12 : decode b_CStack_hasBlock 12 = .ok (.iconst 1, 1) := by decide +kernel
theorem d_CStack_hasBlock_13 : decode b_CStack_hasBlock 13 = .ok (.goto 4, 3) := by decide +kernel
theorem d_CStack_hasBlock_16 : decode b_CStack_hasBlock 16 = .ok (.iconst 0, 1) := by decide +kernel
theorem d_CStack_hasBlock_17 : decode b_CStack_hasBlock 17 = .ok (.ireturn, 1) := by decide +kernel
theorem d_CCode_isLabelMissing_0 : decode b_CCode_isLabelMissing 0 = .ok (.iconst 0, 1) := by decide +kernel
theorem d_CCode_isLabelMissing_1 : decode b_CCode_isLabelMissing 1 = .ok (.istore_n 1, 1) := by decide +kernel
theorem d_CCode_isLabelMissing_2 : decode b_CCode_isLabelMissing 2 = .ok (.iload_n 1, 1) := by decide +kernel
theorem d_CCode_isLabelMissing_3 : decode b_CCode_isLabelMissing 3 = .ok (.aload_n 0, 1) := by decide +kernel
theorem d_CCode_isLabelMissing_4 : decode b_CCode_isLabelMissing 4 = .ok (.getfield 46, 3) := by decide +kernel
theorem d_CCode_isLabelMissing_7 : decode b_CCode_isLabelMissing 7 = .ok (.if_icmp .ge 36, 3) := by decide +kernel
theorem d_CCode_isLabelMissing_10 : decode b_CCode_isLabelMissing 10 = .ok (.iload_n 1, 1) := by decide +kernel
theorem d_CCode_isLabelMissing_11 : decode b_CCode_isLabelMissing 11 = .ok (.aload_n 0, 1) := by decide +kernel
theorem d_CCode_isLabelMissing_12 : decode b_CCode_isLabelMissing 12 = .ok (.getfield 18, 3) := by decide +kernel
theorem d_CCode_isLabelMissing_15 : decode b_CCode_isLabelMissing 15 = .ok (.arraylength, 1) := by decide +kernel
theorem d_CCode_isLabelMissing_16 : decode b_CCode_isLabelMissing 16 = .ok (.if_icmp .ge 27, 3) := by decide +kernel
theorem d_CCode_isLabelMissing_19 : decode b_CCode_isLabelMissing 19 = .ok (.aload_n 0, 1) := by decide +kernel
theorem d_CCode_isLabelMissing_20 : decode b_CCode_isLabelMissing 20 = .ok (.getfield 35, 3) := by decide +kernel
theorem d_CCode_isLabelMissing_23 : decode b_CCode_isLabelMissing 23 = .ok (.aload_n 0, 1) := by decide +kernel
theorem d_CCode_isLabelMissing_24 : decode b_CCode_isLabelMissing 24 = .ok (.getfield 18, 3) := by decide +kernel
theorem d_CCode_isLabelMissing_27 : decode b_CCode_isLabelMissing 27 = .ok (.iload_n 1, 1) := by decide +kernel
theorem d_CCode_isLabelMissing_28 : decode b_CCode_isLabelMissing 28 = .ok (.iaload, 1) := by decide +kernel
theorem d_CCode_isLabelMissing_29 : decode b_CCode_isLabelMissing 29 = .ok (.invokevirtual 159, 3) := by decide +kernel
theorem d_CCode_isLabelMissing_32 : decode b_CCode_isLabelMissing 32 = .ok (.ifCond .ne 5, 3) := by decide +kernel
theorem d_CCode_isLabelMissing_35 : decode b_CCode_isLabelMissing 35 = .ok (.iconst 1, 1) := by decide +kernel
theorem d_CCode_isLabelMissing_36 : decode b_CCode_isLabelMissing 36 = .ok (.ireturn, 1) := by decide +kernel
theorem d_CCode_isLabelMissing_37 : decode b_CCode_isLabelMissing 37 = .ok (.iinc 1 1, 3) := by decide +kernel
theorem d_CCode_isLabelMissing_40 : decode b_CCode_isLabelMissing 40 = .ok (.goto (-38), 3) := by decide +kernel
theorem d_CCode_isLabelMissing_43 : decode b_CCode_isLabelMissing 43 = .ok (.iconst 0, 1) := by decide +kernel
theorem d_CCode_isLabelMissing_44 : decode b_CCode_isLabelMissing 44 = .ok (.ireturn, 1) := by decide +kernel
theorem d_CCode_misfit_0 : decode b_CCode_misfit 0 = .ok (.iload_n 1, 1) := by decide +kernel
theorem d_CCode_misfit_1 : decode b_CCode_misfit 1 = .ok (.bipush 40, 2) := by decide +kernel
theorem d_CCode_misfit_3 : decode b_CCode_misfit 3 = .ok (.if_icmp .lt 16, 3) := by decide +kernel
theorem d_CCode_misfit_6 : decode b_CCode_misfit 6 = .ok (.iload_n 1, 1) := by decide +kernel
theorem d_CCode_misfit_7 : decode b_CCode_misfit 7 = .ok (.bipush 62, 2) := by decide +kernel
theorem d_CCode_misfit_9 : decode b_CCode_misfit 9 = .ok (.if_icmp .gt 10, 3) := by decide +kernel
theorem d_CCode_misfit_12 : decode b_CCode_misfit 12 = .ok (.aload_n 0, 1) := by decide +kernel
