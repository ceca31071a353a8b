theorem d_MC_call_3 : decode b_MC_call 3 = .ok (.invokevirtual 231, 3) := by decide +kernel
theorem d_MC_call_6 : decode b_MC_call 6 = .ok (.aload_n 0, 1) := by decide +kernel
theorem d_MC_call_7 : decode b_MC_call 7 = .ok (.invokevirtual 215, 3) := by decide +kernel
theorem d_MC_call_10 : decode b_MC_call 10 = .ok (.aload_n 0, 1) := by decide +kernel
theorem d_MC_call_11 : decode b_MC_call 11 = .ok (.invokevirtual 196, 3) := by decide +kernel
theorem d_MC_call_14 : decode b_MC_call 14 = .ok (.aload_n 0, 1) := by decide +kernel
theorem d_MC_call_15 : decode b_MC_call 15 = .ok (.iload_n 1, 1) := by decide +kernel
theorem d_MC_call_16 : decode b_MC_call 16 = .ok (.iconst 1, 1) := by decide +kernel
theorem d_MC_call_17 : decode b_MC_call 17 = .ok (.invokevirtual 231, 3) := by decide +kernel
theorem d_MC_call_20 : decode b_MC_call 20 = .ok (.aload_n 0, 1) := by decide +kernel
theorem d_MC_call_21 : decode b_MC_call 21 = .ok (.invokevirtual 218, 3) := by decide +kernel
theorem d_MC_call_24 : decode b_MC_call 24 = .ok (.return_, 1) := by decide +kernel
theorem d_MC_wantParts_0 : decode b_MC_wantParts 0 = .ok (.iload_n 2, 1) := by decide +kernel
theorem d_MC_wantParts_1 : decode b_MC_wantParts 1 = .ok (.ifCond .eq 12, 3) := by decide +kernel
theorem d_MC_wantParts_4 : decode b_MC_wantParts 4 = .ok (.aload_n 0, 1) := by decide +kernel
theorem d_MC_wantParts_5 : decode b_MC_wantParts 5 = .ok (.getfield 13, 3) := by decide +kernel
theorem d_MC_wantParts_8 : decode b_MC_wantParts 8 = .ok (.iload_n 1, 1) := by decide +kernel
theorem d_MC_wantParts_9 : decode b_MC_wantParts 9 = .ok (.iaload, 1) := by decide +kernel
theorem d_MC_wantParts_10 : decode b_MC_wantParts 10 = .ok (.goto 9, 3) := by decide +kernel
theorem d_MC_wantParts_13 : decode b_MC_wantParts 13 = .ok (.aload_n 0, 1) := by decide +kernel
theorem d_MC_wantParts_14 : decode b_MC_wantParts 14 = .ok (.getfield 7, 3) := by decide +kernel
theorem d_MC_wantParts_17 : decode b_MC_wantParts 17 = .ok (.iload_n 1, 1) := by decide +kernel
theorem d_MC_wantParts_18 : decode b_MC_wantParts 18 = .ok (.iaload, 1) := by decide +kernel
theorem d_MC_wantParts_19 : decode b_MC_wantParts 19 = .ok (.istore_n 3, 1) := by decide +kernel
theorem d_MC_wantParts_20 : decode b_MC_wantParts 20 = .ok (.iconst 0, 1) := by decide +kernel
theorem d_MC_wantParts_21 : decode b_MC_wantParts 21 = .ok (.istore 4, 2) := by decide +kernel
theorem d_MC_wantParts_23 : decode b_MC_wantParts 23 = .ok (.iload 4, 2) := by decide +kernel
theorem d_MC_wantParts_25 : decode b_MC_wantParts 25 = .ok (.iload_n 3, 1) := by decide +kernel
theorem d_MC_wantParts_26 : decode b_MC_wantParts 26 = .ok (.if_icmp .ge 44, 3) := by decide +kernel
theorem d_MC_wantParts_29 : decode b_MC_wantParts 29 = .ok (.aload_n 0, 1) := by decide +kernel
theorem d_MC_wantParts_30 : decode b_MC_wantParts 30 = .ok (.iload_n 2, 1) := by decide +kernel
theorem d_MC_wantParts_31 : decode b_MC_wantParts 31 = .ok (.ifCond .eq 18, 3) := by decide +kernel
theorem d_MC_wantParts_34 : decode b_MC_wantParts 34 = .ok (.aload_n 0, 1) := by decide +kernel
theorem d_MC_wantParts_35 : decode b_MC_wantParts 35 = .ok (.getfield 19, 3) := by decide +kernel
theorem d_MC_wantParts_38 : decode b_MC_wantParts 38 = .ok (.bipush 12, 2) := by decide +kernel
theorem d_MC_wantParts_40 : decode b_MC_wantParts 40 = .ok (.iload_n 1, 1) := by decide +kernel
theorem d_MC_wantParts_41 : decode b_MC_wantParts 41 = .ok (.imul, 1) := by decide +kernel
theorem d_MC_wantParts_42 : decode b_MC_wantParts 42 = .ok (.iload 4, 2) := by decide +kernel
theorem d_MC_wantParts_44 : decode b_MC_wantParts 44 = .ok (.iadd, 1) := by decide +kernel
theorem d_MC_wantParts_45 : decode b_MC_wantParts 45 = .ok (.iaload, 1) := by decide +kernel
theorem d_MC_wantParts_46 : decode b_MC_wantParts 46 = .ok (.goto 15, 3) := by decide +kernel
theorem d_MC_wantParts_49 : decode b_MC_wantParts 49 = .ok (.aload_n 0, 1) := by decide +kernel
theorem d_MC_wantParts_50 : decode b_MC_wantParts 50 = .ok (.getfield 16, 3) := by decide +kernel
theorem d_MC_wantParts_53 : decode b_MC_wantParts 53 = .ok (.bipush 12, 2) := by decide +kernel
theorem d_MC_wantParts_55 : decode b_MC_wantParts 55 = .ok (.iload_n 1, 1) := by decide +kernel
theorem d_MC_wantParts_56 : decode b_MC_wantParts 56 = .ok (.imul, 1) := by decide +kernel
theorem d_MC_wantParts_57 : decode b_MC_wantParts 57 = .ok (.iload 4, 2) := by decide +kernel
theorem d_MC_wantParts_59 : decode b_MC_wantParts 59 = .ok (.iadd, 1) := by decide +kernel
theorem d_MC_wantParts_60 : decode b_MC_wantParts 60 = .ok (.iaload, 1) := by decide +kernel
theorem d_MC_wantParts_61 : decode b_MC_wantParts 61 = .ok (.invokevirtual 159, 3) := by decide +kernel
theorem d_MC_wantParts_64 : decode b_MC_wantParts 64 = .ok (.iinc 4 1, 3) := by decide +kernel
theorem d_MC_wantParts_67 : decode b_MC_wantParts 67 = .ok (.goto (-44), 3) := by decide +kernel
theorem d_MC_wantParts_70 : decode b_MC_wantParts 70 = .ok (.return_, 1) := by decide +kernel
theorem d_MC_wantOne_0 : decode b_MC_wantOne 0 = .ok (.aload_n 0, 1) := by decide +kernel
theorem d_MC_wantOne_1 : decode b_MC_wantOne 1 = .ok (.getfield 63, 3) := by decide +kernel
theorem d_MC_wantOne_4 : decode b_MC_wantOne 4 = .ok (.aload_n 0, 1) := by decide +kernel
theorem d_MC_wantOne_5 : decode b_MC_wantOne 5 = .ok (.getfield 156, 3) := by decide +kernel
theorem d_MC_wantOne_8 : decode b_MC_wantOne 8 = .ok (.iload_n 1, 1) := by decide +kernel
theorem d_MC_wantOne_9 : decode b_MC_wantOne 9 = .ok (.iastore, 1) := by decide +kernel
theorem d_MC_wantOne_10 : decode b_MC_wantOne 10 = .ok (.aload_n 0, 1) := by decide +kernel
theorem d_MC_wantOne_11 : decode b_MC_wantOne 11 = .ok (.dup, 1) := by decide +kernel
theorem d_MC_wantOne_12 : decode b_MC_wantOne 12 = .ok (.getfield 156, 3) := by decide +kernel
theorem d_MC_wantOne_15 : decode b_MC_wantOne 15 = .ok (.iconst 1, 1) := by decide +kernel
theorem d_MC_wantOne_16 : decode b_MC_wantOne 16 = .ok (.iadd, 1) := by decide +kernel
theorem d_MC_wantOne_17 : decode b_MC_wantOne 17 = .ok (.putfield 156, 3) := by decide +kernel
theorem d_MC_wantOne_20 : decode b_MC_wantOne 20 = .ok (.return_, 1) := by decide +kernel
theorem d_MC_takeWanted_0 : decode b_MC_takeWanted 0 = .ok (.aload_n 0, 1) := by decide +kernel
theorem d_MC_takeWanted_1 : decode b_MC_takeWanted 1 = .ok (.getfield 156, 3) := by decide +kernel
theorem d_MC_takeWanted_4 : decode b_MC_takeWanted 4 = .ok (.iconst 1, 1) := by decide +kernel
theorem d_MC_takeWanted_5 : decode b_MC_takeWanted 5 = .ok (.isub, 1) := by decide +kernel
theorem d_MC_takeWanted_6 : decode b_MC_takeWanted 6 = .ok (.istore_n 1, 1) := by decide +kernel
theorem d_MC_takeWanted_7 : decode b_MC_takeWanted 7 = .ok (.iload_n 1, 1) := by decide +kernel
theorem d_MC_takeWanted_8 : decode b_MC_takeWanted 8 = .ok (.ifCond .lt 19, 3) := by decide +kernel
theorem d_MC_takeWanted_11 : decode b_MC_takeWanted 11 = .ok (.aload_n 0, 1) := by decide +kernel
theorem d_MC_takeWanted_12 : decode b_MC_takeWanted 12 = .ok (.aload_n 0, 1) := by decide +kernel
theorem d_MC_takeWanted_13 : decode b_MC_takeWanted 13 = .ok (.getfield 63, 3) := by decide +kernel
theorem d_MC_takeWanted_16 : decode b_MC_takeWanted 16 = .ok (.iload_n 1, 1) := by decide +kernel
theorem d_MC_takeWanted_17 : decode b_MC_takeWanted 17 = .ok (.iaload, 1) := by decide +kernel
theorem d_MC_takeWanted_18 : decode b_MC_takeWanted 18 = .ok (.invokevirtual 153, 3) := by decide +kernel
theorem d_MC_takeWanted_21 : decode b_MC_takeWanted 21 = .ok (.iinc 1 (-1), 3) := by decide +kernel
theorem d_MC_takeWanted_24 : decode b_MC_takeWanted 24 = .ok (.goto (-17), 3) := by decide +kernel
theorem d_MC_takeWanted_27 : decode b_MC_takeWanted 27 = .ok (.return_, 1) := by decide +kernel
theorem d_MC_take_0 : decode b_MC_take 0 = .ok (.aload_n 0, 1) := by decide +kernel
theorem d_MC_take_1 : decode b_MC_take 1 = .ok (.getfield 137, 3) := by decide +kernel
theorem d_MC_take_4 : decode b_MC_take 4 = .ok (.ifCond .le 4, 3) := by decide +kernel
theorem d_MC_take_7 : decode b_MC_take 7 = .ok (.return_, 1) := by decide +kernel
theorem d_MC_take_8 : decode b_MC_take 8 = .ok (.aload_n 0, 1) := by decide +kernel
theorem d_MC_take_9 : decode b_MC_take 9 = .ok (.getfield 104, 3) := by decide +kernel
theorem d_MC_take_12 : decode b_MC_take 12 = .ok (.iconst 1, 1) := by decide +kernel
theorem d_MC_take_13 : decode b_MC_take 13 = .ok (.isub, 1) := by decide +kernel
theorem d_MC_take_14 : decode b_MC_take 14 = .ok (.istore_n 2, 1) := by decide +kernel
theorem d_MC_take_15 : decode b_MC_take 15 = .ok (.aload_n 0, 1) := by decide +kernel
theorem d_MC_take_16 : decode b_MC_take 16 = .ok (.iconst 0, 1) := by decide +kernel
theorem d_MC_take_17 : decode b_MC_take 17 = .ok (.putfield 140, 3) := by decide +kernel
theorem d_MC_take_20 : decode b_MC_take 20 = .ok (.aload_n 0, 1) := by decide +kernel
theorem d_MC_take_21 : decode b_MC_take 21 = .ok (.getfield 143, 3) := by decide +kernel
theorem d_MC_take_24 : decode b_MC_take 24 = .ok (.aload_n 0, 1) := by decide +kernel
theorem d_MC_take_25 : decode b_MC_take 25 = .ok (.getfield 54, 3) := by decide +kernel
theorem d_MC_take_28 : decode b_MC_take 28 = .ok (.iload_n 2, 1) := by decide +kernel
theorem d_MC_take_29 : decode b_MC_take 29 = .ok (.iaload, 1) := by decide +kernel
theorem d_MC_take_30 : decode b_MC_take 30 = .ok (.if_icmp .ne 18, 3) := by decide +kernel
theorem d_MC_take_33 : decode b_MC_take 33 = .ok (.aload_n 0, 1) := by decide +kernel
theorem d_MC_take_34 : decode b_MC_take 34 = .ok (.getfield 57, 3) := by decide +kernel
theorem d_MC_take_37 : decode b_MC_take 37 = .ok (.iload_n 2, 1) := by decide +kernel
theorem d_MC_take_38 : decode b_MC_take 38 = .ok (.baload, 1) := by decide +kernel
theorem d_MC_take_39 : decode b_MC_take 39 = .ok (.ifCond .ne 8, 3) := by decide +kernel
theorem d_MC_take_42 : decode b_MC_take 42 = .ok (.aload_n 0, 1) := by decide +kernel
theorem d_MC_take_43 : decode b_MC_take 43 = .ok (.iconst 1, 1) := by decide +kernel
theorem d_MC_take_44 : decode b_MC_take 44 = .ok (.invokevirtual 146, 3) := by decide +kernel
theorem d_MC_take_47 : decode b_MC_take 47 = .ok (.return_, 1) := by decide +kernel
theorem d_MC_take_48 : decode b_MC_take 48 = .ok (.aload_n 0, 1) := by decide +kernel
theorem d_MC_take_49 : decode b_MC_take 49 = .ok (.dup, 1) := by decide +kernel
theorem d_MC_take_50 : decode b_MC_take 50 = .ok (.getfield 143, 3) := by decide +kernel
theorem d_MC_take_53 : decode b_MC_take 53 = .ok (.iconst 1, 1) := by decide +kernel
theorem d_MC_take_54 : decode b_MC_take 54 = .ok (.isub, 1) := by decide +kernel
theorem d_MC_take_55 : decode b_MC_take 55 = .ok (.putfield 143, 3) := by decide +kernel
theorem d_MC_take_58 : decode b_MC_take 58 = .ok (.aload_n 0, 1) := by decide +kernel
theorem d_MC_take_59 : decode b_MC_take 59 = .ok (.aload_n 0, 1) := by decide +kernel
theorem d_MC_take_60 : decode b_MC_take 60 = .ok (.getfield 60, 3) := by decide +kernel
theorem d_MC_take_63 : decode b_MC_take 63 = .ok (.aload_n 0, 1) := by decide +kernel
theorem d_MC_take_64 : decode b_MC_take 64 = .ok (.getfield 143, 3) := by decide +kernel
theorem d_MC_take_67 : decode b_MC_take 67 = .ok (.iaload, 1) := by decide +kernel
theorem d_MC_take_68 : decode b_MC_take 68 = .ok (.putfield 140, 3) := by decide +kernel
theorem d_MC_take_71 : decode b_MC_take 71 = .ok (.iload_n 1, 1) := by decide +kernel
theorem d_MC_take_72 : decode b_MC_take 72 = .ok (.iconst (-1), 1) := by decide +kernel
theorem d_MC_take_73 : decode b_MC_take 73 = .ok (.if_icmp .eq 23, 3) := by decide +kernel
theorem d_MC_take_76 : decode b_MC_take 76 = .ok (.aload_n 0, 1) := by decide +kernel
theorem d_MC_take_77 : decode b_MC_take 77 = .ok (.getfield 140, 3) := by decide +kernel
theorem d_MC_take_80 : decode b_MC_take 80 = .ok (.ifCond .eq 16, 3) := by decide +kernel
theorem d_MC_take_83 : decode b_MC_take 83 = .ok (.aload_n 0, 1) := by decide +kernel
theorem d_MC_take_84 : decode b_MC_take 84 = .ok (.getfield 140, 3) := by decide +kernel
theorem d_MC_take_87 : decode b_MC_take 87 = .ok (.iload_n 1, 1) := by decide +kernel
theorem d_MC_take_88 : decode b_MC_take 88 = .ok (.if_icmp .eq 8, 3) := by decide +kernel
theorem d_MC_take_91 : decode b_MC_take 91 = .ok (.aload_n 0, 1) := by decide +kernel
theorem d_MC_take_92 : decode b_MC_take 92 = .ok (.iconst 1, 1) := by decide +kernel
theorem d_MC_take_93 : decode b_MC_take 93 = .ok (.invokevirtual 146, 3) := by decide +kernel
theorem d_MC_take_96 : decode b_MC_take 96 = .ok (.return_, 1) := by decide +kernel
theorem d_MC_giveWanted_0 : decode b_MC_giveWanted 0 = .ok (.iconst 0, 1) := by decide +kernel
theorem d_MC_giveWanted_1 : decode b_MC_giveWanted 1 = .ok (.istore_n 1, 1) := by decide +kernel
theorem d_MC_giveWanted_2 : decode b_MC_giveWanted 2 = .ok (.iload_n 1, 1) := by decide +kernel
theorem d_MC_giveWanted_3 : decode b_MC_giveWanted 3 = .ok (.aload_n 0, 1) := by decide +kernel
theorem d_MC_giveWanted_4 : decode b_MC_giveWanted 4 = .ok (.getfield 156, 3) := by decide +kernel
theorem d_MC_giveWanted_7 : decode b_MC_giveWanted 7 = .ok (.if_icmp .ge 19, 3) := by decide +kernel
theorem d_MC_giveWanted_10 : decode b_MC_giveWanted 10 = .ok (.aload_n 0, 1) := by decide +kernel
theorem d_MC_giveWanted_11 : decode b_MC_giveWanted 11 = .ok (.aload_n 0, 1) := by decide +kernel
theorem d_MC_giveWanted_12 : decode b_MC_giveWanted 12 = .ok (.getfield 63, 3) := by decide +kernel
theorem d_MC_giveWanted_15 : decode b_MC_giveWanted 15 = .ok (.iload_n 1, 1) := by decide +kernel
theorem d_MC_giveWanted_16 : decode b_MC_giveWanted 16 = .ok (.iaload, 1) := by decide +kernel
theorem d_MC_giveWanted_17 : decode b_MC_giveWanted 17 = .ok (.invokevirtual 169, 3) := by decide +kernel
theorem d_MC_giveWanted_20 : decode b_MC_giveWanted 20 = .ok (.iinc 1 1, 3) := by decide +kernel
theorem d_MC_giveWanted_23 : decode b_MC_giveWanted 23 = .ok (.goto (-21), 3) := by decide +kernel
theorem d_MC_giveWanted_26 : decode b_MC_giveWanted 26 = .ok (.return_, 1) := by decide +kernel
theorem d_MC_give_0 : decode b_MC_give 0 = .ok (.aload_n 0, 1) := by decide +kernel
theorem d_MC_give_1 : decode b_MC_give 1 = .ok (.getfield 143, 3) := by decide +kernel
theorem d_MC_give_4 : decode b_MC_give 4 = .ok (.sipush 200, 3) := by decide +kernel
theorem d_MC_give_7 : decode b_MC_give 7 = .ok (.if_icmp .ne 9, 3) := by decide +kernel
theorem d_MC_give_10 : decode b_MC_give 10 = .ok (.aload_n 0, 1) := by decide +kernel
theorem d_MC_give_11 : decode b_MC_give 11 = .ok (.bipush 15, 2) := by decide +kernel
theorem d_MC_give_13 : decode b_MC_give 13 = .ok (.invokevirtual 146, 3) := by decide +kernel
theorem d_MC_give_16 : decode b_MC_give 16 = .ok (.aload_n 0, 1) := by decide +kernel
theorem d_MC_give_17 : decode b_MC_give 17 = .ok (.getfield 137, 3) := by decide +kernel
theorem d_MC_give_20 : decode b_MC_give 20 = .ok (.ifCond .le 4, 3) := by decide +kernel
theorem d_MC_give_23 : decode b_MC_give 23 = .ok (.return_, 1) := by decide +kernel
theorem d_MC_give_24 : decode b_MC_give 24 = .ok (.aload_n 0, 1) := by decide +kernel
theorem d_MC_give_25 : decode b_MC_give 25 = .ok (.getfield 60, 3) := by decide +kernel
theorem d_MC_give_28 : decode b_MC_give 28 = .ok (.aload_n 0, 1) := by decide +kernel
theorem d_MC_give_29 : decode b_MC_give 29 = .ok (.getfield 143, 3) := by decide +kernel
theorem d_MC_give_32 : decode b_MC_give 32 = .ok (.iload_n 1, 1) := by decide +kernel
theorem d_MC_give_33 : decode b_MC_give 33 = .ok (.iastore, 1) := by decide +kernel
theorem d_MC_give_34 : decode b_MC_give 34 = .ok (.aload_n 0, 1) := by decide +kernel
theorem d_MC_give_35 : decode b_MC_give 35 = .ok (.dup, 1) := by decide +kernel
theorem d_MC_give_36 : decode b_MC_give 36 = .ok (.getfield 143, 3) := by decide +kernel
theorem d_MC_give_39 : decode b_MC_give 39 = .ok (.iconst 1, 1) := by decide +kernel
theorem d_MC_give_40 : decode b_MC_give 40 = .ok (.iadd, 1) := by decide +kernel
theorem d_MC_give_41 : decode b_MC_give 41 = .ok (.putfield 143, 3) := by decide +kernel
theorem d_MC_give_44 : decode b_MC_give 44 = .ok (.return_, 1) := by decide +kernel
theorem d_MC_wantBlock_0 : decode b_MC_wantBlock 0 = .ok (.iconst 0, 1) := by decide +kernel
theorem d_MC_wantBlock_1 : decode b_MC_wantBlock 1 = .ok (.istore_n 3, 1) := by decide +kernel
theorem d_MC_wantBlock_2 : decode b_MC_wantBlock 2 = .ok (.iload_n 3, 1) := by decide +kernel
theorem d_MC_wantBlock_3 : decode b_MC_wantBlock 3 = .ok (.aload_n 0, 1) := by decide +kernel
theorem d_MC_wantBlock_4 : decode b_MC_wantBlock 4 = .ok (.iload_n 1, 1) := by decide +kernel
theorem d_MC_wantBlock_5 : decode b_MC_wantBlock 5 = .ok (.iload_n 2, 1) := by decide +kernel
theorem d_MC_wantBlock_6 : decode b_MC_wantBlock 6 = .ok (.invokevirtual 129, 3) := by decide +kernel
theorem d_MC_wantBlock_9 : decode b_MC_wantBlock 9 = .ok (.if_icmp .ge 20, 3) := by decide +kernel
theorem d_MC_wantBlock_12 : decode b_MC_wantBlock 12 = .ok (.aload_n 0, 1) := by decide +kernel
theorem d_MC_wantBlock_13 : decode b_MC_wantBlock 13 = .ok (.aload_n 0, 1) := by decide +kernel
theorem d_MC_wantBlock_14 : decode b_MC_wantBlock 14 = .ok (.iload_n 1, 1) := by decide +kernel
theorem d_MC_wantBlock_15 : decode b_MC_wantBlock 15 = .ok (.iload_n 2, 1) := by decide +kernel
theorem d_MC_wantBlock_16 : decode b_MC_wantBlock 16 = .ok (.iload_n 3, 1) := by decide +kernel
theorem d_MC_wantBlock_17 : decode b_MC_wantBlock 17 = .ok (.invokevirtual 133, 3) := by decide +kernel
theorem d_MC_wantBlock_20 : decode b_MC_wantBlock 20 = .ok (.invokevirtual 159, 3) := by decide +kernel
theorem d_MC_wantBlock_23 : decode b_MC_wantBlock 23 = .ok (.iinc 3 1, 3) := by decide +kernel
theorem d_MC_wantBlock_26 : decode b_MC_wantBlock 26 = .ok (.goto (-24), 3) := by decide +kernel
theorem d_MC_wantBlock_29 : decode b_MC_wantBlock 29 = .ok (.return_, 1) := by decide +kernel
theorem d_MC_countOf_0 : decode b_MC_countOf 0 = .ok (.iload_n 1, 1) := by decide +kernel
theorem d_MC_countOf_1 : decode b_MC_countOf 1 = .ok (.ifCond .ne 32, 3) := by decide +kernel
theorem d_MC_countOf_4 : decode b_MC_countOf 4 = .ok (.iload_n 2, 1) := by decide +kernel
theorem d_MC_countOf_5 : decode b_MC_countOf 5 = .ok (.ifCond .ne 7, 3) := by decide +kernel
theorem d_MC_countOf_8 : decode b_MC_countOf 8 = .ok (.iconst 0, 1) := by decide +kernel
theorem d_MC_countOf_9 : decode b_MC_countOf 9 = .ok (.goto 23, 3) := by decide +kernel
theorem d_MC_countOf_12 : decode b_MC_countOf 12 = .ok (.aload_n 0, 1) := by decide +kernel
theorem d_MC_countOf_13 : decode b_MC_countOf 13 = .ok (.getfield 85, 3) := by decide +kernel
theorem d_MC_countOf_16 : decode b_MC_countOf 16 = .ok (.ifCond .eq 15, 3) := by decide +kernel
theorem d_MC_countOf_19 : decode b_MC_countOf 19 = .ok (.aload_n 0, 1) := by decide +kernel
theorem d_MC_countOf_20 : decode b_MC_countOf 20 = .ok (.getfield 13, 3) := by decide +kernel
theorem d_MC_countOf_23 : decode b_MC_countOf 23 = .ok (.aload_n 0, 1) := by decide +kernel
theorem d_MC_countOf_24 : decode b_MC_countOf 24 = .ok (.getfield 111, 3) := by decide +kernel
theorem d_MC_countOf_27 : decode b_MC_countOf 27 = .ok (.iaload, 1) := by decide +kernel
theorem d_MC_countOf_28 : decode b_MC_countOf 28 = .ok (.goto 4, 3) := by decide +kernel
theorem d_MC_countOf_31 : decode b_MC_countOf 31 = .ok (.iconst 1, 1) := by decide +kernel
theorem d_MC_countOf_32 : decode b_MC_countOf 32 = .ok (.ireturn, 1) := by decide +kernel
theorem d_MC_countOf_33 : decode b_MC_countOf 33 = .ok (.aload_n 0, 1) := by decide +kernel
theorem d_MC_countOf_34 : decode b_MC_countOf 34 = .ok (.getfield 51, 3) := by decide +kernel
theorem d_MC_countOf_37 : decode b_MC_countOf 37 = .ok (.iload_n 1, 1) := by decide +kernel
theorem d_MC_countOf_38 : decode b_MC_countOf 38 = .ok (.iaload, 1) := by decide +kernel
theorem d_MC_countOf_39 : decode b_MC_countOf 39 = .ok (.istore_n 3, 1) := by decide +kernel
theorem d_MC_countOf_40 : decode b_MC_countOf 40 = .ok (.iload_n 3, 1) := by decide +kernel
theorem d_MC_countOf_41 : decode b_MC_countOf 41 = .ok (.ifCond .lt 25, 3) := by decide +kernel
theorem d_MC_countOf_44 : decode b_MC_countOf 44 = .ok (.iload_n 2, 1) := by decide +kernel
theorem d_MC_countOf_45 : decode b_MC_countOf 45 = .ok (.ifCond .eq 12, 3) := by decide +kernel
theorem d_MC_countOf_48 : decode b_MC_countOf 48 = .ok (.aload_n 0, 1) := by decide +kernel
theorem d_MC_countOf_49 : decode b_MC_countOf 49 = .ok (.getfield 13, 3) := by decide +kernel
theorem d_MC_countOf_52 : decode b_MC_countOf 52 = .ok (.iload_n 3, 1) := by decide +kernel
theorem d_MC_countOf_53 : decode b_MC_countOf 53 = .ok (.iaload, 1) := by decide +kernel
theorem d_MC_countOf_54 : decode b_MC_countOf 54 = .ok (.goto 27, 3) := by decide +kernel
theorem d_MC_countOf_57 : decode b_MC_countOf 57 = .ok (.aload_n 0, 1) := by decide +kernel
theorem d_MC_countOf_58 : decode b_MC_countOf 58 = .ok (.getfield 7, 3) := by decide +kernel
theorem d_MC_countOf_61 : decode b_MC_countOf 61 = .ok (.iload_n 3, 1) := by decide +kernel
theorem d_MC_countOf_62 : decode b_MC_countOf 62 = .ok (.iaload, 1) := by decide +kernel
theorem d_MC_countOf_63 : decode b_MC_countOf 63 = .ok (.goto 18, 3) := by decide +kernel
theorem d_MC_countOf_66 : decode b_MC_countOf 66 = .ok (.iload_n 2, 1) := by decide +kernel
theorem d_MC_countOf_67 : decode b_MC_countOf 67 = .ok (.ifCond .eq 13, 3) := by decide +kernel
theorem d_MC_countOf_70 : decode b_MC_countOf 70 = .ok (.iload_n 3, 1) := by decide +kernel
theorem d_MC_countOf_71 : decode b_MC_countOf 71 = .ok (.bipush (-64), 2) := by decide +kernel
theorem d_MC_countOf_73 : decode b_MC_countOf 73 = .ok (.if_icmp .eq 7, 3) := by decide +kernel
theorem d_MC_countOf_76 : decode b_MC_countOf 76 = .ok (.iconst 1, 1) := by decide +kernel
theorem d_MC_countOf_77 : decode b_MC_countOf 77 = .ok (.goto 4, 3) := by decide +kernel
theorem d_MC_countOf_80 : decode b_MC_countOf 80 = .ok (.iconst 0, 1) := by decide +kernel
theorem d_MC_countOf_81 : decode b_MC_countOf 81 = .ok (.ireturn, 1) := by decide +kernel
theorem d_MC_partOf_0 : decode b_MC_partOf 0 = .ok (.iload_n 1, 1) := by decide +kernel
theorem d_MC_partOf_1 : decode b_MC_partOf 1 = .ok (.ifCond .ne 32, 3) := by decide +kernel
theorem d_MC_partOf_4 : decode b_MC_partOf 4 = .ok (.aload_n 0, 1) := by decide +kernel
theorem d_MC_partOf_5 : decode b_MC_partOf 5 = .ok (.getfield 85, 3) := by decide +kernel
theorem d_MC_partOf_8 : decode b_MC_partOf 8 = .ok (.ifCond .eq 20, 3) := by decide +kernel
theorem d_MC_partOf_11 : decode b_MC_partOf 11 = .ok (.aload_n 0, 1) := by decide +kernel
theorem d_MC_partOf_12 : decode b_MC_partOf 12 = .ok (.getfield 19, 3) := by decide +kernel
theorem d_MC_partOf_15 : decode b_MC_partOf 15 = .ok (.bipush 12, 2) := by decide +kernel
theorem d_MC_partOf_17 : decode b_MC_partOf 17 = .ok (.aload_n 0, 1) := by decide +kernel
theorem d_MC_partOf_18 : decode b_MC_partOf 18 = .ok (.getfield 111, 3) := by decide +kernel
theorem d_MC_partOf_21 : decode b_MC_partOf 21 = .ok (.imul, 1) := by decide +kernel
theorem d_MC_partOf_22 : decode b_MC_partOf 22 = .ok (.iload_n 3, 1) := by decide +kernel
theorem d_MC_partOf_23 : decode b_MC_partOf 23 = .ok (.iadd, 1) := by decide +kernel
theorem d_MC_partOf_24 : decode b_MC_partOf 24 = .ok (.iaload, 1) := by decide +kernel
theorem d_MC_partOf_25 : decode b_MC_partOf 25 = .ok (.goto 7, 3) := by decide +kernel
theorem d_MC_partOf_28 : decode b_MC_partOf 28 = .ok (.aload_n 0, 1) := by decide +kernel
theorem d_MC_partOf_29 : decode b_MC_partOf 29 = .ok (.getfield 118, 3) := by decide +kernel
theorem d_MC_partOf_32 : decode b_MC_partOf 32 = .ok (.ireturn, 1) := by decide +kernel
theorem d_MC_partOf_33 : decode b_MC_partOf 33 = .ok (.aload_n 0, 1) := by decide +kernel
theorem d_MC_partOf_34 : decode b_MC_partOf 34 = .ok (.getfield 51, 3) := by decide +kernel
theorem d_MC_partOf_37 : decode b_MC_partOf 37 = .ok (.iload_n 1, 1) := by decide +kernel
theorem d_MC_partOf_38 : decode b_MC_partOf 38 = .ok (.iaload, 1) := by decide +kernel
theorem d_MC_partOf_39 : decode b_MC_partOf 39 = .ok (.istore 4, 2) := by decide +kernel
theorem d_MC_partOf_41 : decode b_MC_partOf 41 = .ok (.iload 4, 2) := by decide +kernel
theorem d_MC_partOf_43 : decode b_MC_partOf 43 = .ok (.ifCond .lt 37, 3) := by decide +kernel
theorem d_MC_partOf_46 : decode b_MC_partOf 46 = .ok (.iload_n 2, 1) := by decide +kernel
theorem d_MC_partOf_47 : decode b_MC_partOf 47 = .ok (.ifCond .eq 18, 3) := by decide +kernel
theorem d_MC_partOf_50 : decode b_MC_partOf 50 = .ok (.aload_n 0, 1) := by decide +kernel
theorem d_MC_partOf_51 : decode b_MC_partOf 51 = .ok (.getfield 19, 3) := by decide +kernel
theorem d_MC_partOf_54 : decode b_MC_partOf 54 = .ok (.bipush 12, 2) := by decide +kernel
theorem d_MC_partOf_56 : decode b_MC_partOf 56 = .ok (.iload 4, 2) := by decide +kernel
theorem d_MC_partOf_58 : decode b_MC_partOf 58 = .ok (.imul, 1) := by decide +kernel
theorem d_MC_partOf_59 : decode b_MC_partOf 59 = .ok (.iload_n 3, 1) := by decide +kernel
theorem d_MC_partOf_60 : decode b_MC_partOf 60 = .ok (.iadd, 1) := by decide +kernel
theorem d_MC_partOf_61 : decode b_MC_partOf 61 = .ok (.iaload, 1) := by decide +kernel
theorem d_MC_partOf_62 : decode b_MC_partOf 62 = .ok (.goto 24, 3) := by decide +kernel
theorem d_MC_partOf_65 : decode b_MC_partOf 65 = .ok (.aload_n 0, 1) := by decide +kernel
theorem d_MC_partOf_66 : decode b_MC_partOf 66 = .ok (.getfield 16, 3) := by decide +kernel
theorem d_MC_partOf_69 : decode b_MC_partOf 69 = .ok (.bipush 12, 2) := by decide +kernel
theorem d_MC_partOf_71 : decode b_MC_partOf 71 = .ok (.iload 4, 2) := by decide +kernel
theorem d_MC_partOf_73 : decode b_MC_partOf 73 = .ok (.imul, 1) := by decide +kernel
theorem d_MC_partOf_74 : decode b_MC_partOf 74 = .ok (.iload_n 3, 1) := by decide +kernel
theorem d_MC_partOf_75 : decode b_MC_partOf 75 = .ok (.iadd, 1) := by decide +kernel
theorem d_MC_partOf_76 : decode b_MC_partOf 76 = .ok (.iaload, 1) := by decide +kernel
theorem d_MC_partOf_77 : decode b_MC_partOf 77 = .ok (.goto 9, 3) := by decide +kernel
theorem d_MC_partOf_80 : decode b_MC_partOf 80 = .ok (.iload 4, 2) := by decide +kernel
theorem d_MC_partOf_82 : decode b_MC_partOf 82 = .ok (.sipush 128, 3) := by decide +kernel
theorem d_MC_partOf_85 : decode b_MC_partOf 85 = .ok (.iadd, 1) := by decide +kernel
theorem d_MC_partOf_86 : decode b_MC_partOf 86 = .ok (.ireturn, 1) := by decide +kernel
theorem d_MC_die_0 : decode b_MC_die 0 = .ok (.aload_n 0, 1) := by decide +kernel
theorem d_MC_die_1 : decode b_MC_die 1 = .ok (.getfield 137, 3) := by decide +kernel
theorem d_MC_die_4 : decode b_MC_die 4 = .ok (.ifCond .le 4, 3) := by decide +kernel
theorem d_MC_die_7 : decode b_MC_die 7 = .ok (.return_, 1) := by decide +kernel
theorem d_MC_die_8 : decode b_MC_die 8 = .ok (.aload_n 0, 1) := by decide +kernel
theorem d_MC_die_9 : decode b_MC_die 9 = .ok (.aload_n 0, 1) := by decide +kernel
theorem d_MC_die_10 : decode b_MC_die 10 = .ok (.getfield 54, 3) := by decide +kernel
theorem d_MC_die_13 : decode b_MC_die 13 = .ok (.aload_n 0, 1) := by decide +kernel
theorem d_MC_die_14 : decode b_MC_die 14 = .ok (.getfield 104, 3) := by decide +kernel
theorem d_MC_die_17 : decode b_MC_die 17 = .ok (.iconst 1, 1) := by decide +kernel
theorem d_MC_die_18 : decode b_MC_die 18 = .ok (.isub, 1) := by decide +kernel
theorem d_MC_die_19 : decode b_MC_die 19 = .ok (.iaload, 1) := by decide +kernel
theorem d_MC_die_20 : decode b_MC_die 20 = .ok (.putfield 143, 3) := by decide +kernel
theorem d_MC_die_23 : decode b_MC_die 23 = .ok (.aload_n 0, 1) := by decide +kernel
theorem d_MC_die_24 : decode b_MC_die 24 = .ok (.iconst 1, 1) := by decide +kernel
theorem d_MC_die_25 : decode b_MC_die 25 = .ok (.putfield 150, 3) := by decide +kernel
theorem d_MC_die_28 : decode b_MC_die 28 = .ok (.return_, 1) := by decide +kernel
theorem d_MC_table_0 : decode b_MC_table 0 = .ok (.aload_n 0, 1) := by decide +kernel
theorem d_MC_table_1 : decode b_MC_table 1 = .ok (.bipush 127, 2) := by decide +kernel
theorem d_MC_table_3 : decode b_MC_table 3 = .ok (.invokevirtual 153, 3) := by decide +kernel
theorem d_MC_table_6 : decode b_MC_table 6 = .ok (.aload_n 0, 1) := by decide +kernel
theorem d_MC_table_7 : decode b_MC_table 7 = .ok (.iload_n 1, 1) := by decide +kernel
theorem d_MC_table_8 : decode b_MC_table 8 = .ok (.invokevirtual 162, 3) := by decide +kernel
theorem d_MC_table_11 : decode b_MC_table 11 = .ok (.istore_n 2, 1) := by decide +kernel
theorem d_MC_table_12 : decode b_MC_table 12 = .ok (.iconst 0, 1) := by decide +kernel
theorem d_MC_table_13 : decode b_MC_table 13 = .ok (.istore_n 3, 1) := by decide +kernel
theorem d_MC_table_14 : decode b_MC_table 14 = .ok (.iload_n 3, 1) := by decide +kernel
theorem d_MC_table_15 : decode b_MC_table 15 = .ok (.aload_n 0, 1) := by decide +kernel
theorem d_MC_table_16 : decode b_MC_table 16 = .ok (.getfield 98, 3) := by decide +kernel
theorem d_MC_table_19 : decode b_MC_table 19 = .ok (.if_icmp .ge 119, 3) := by decide +kernel
theorem d_MC_table_22 : decode b_MC_table 22 = .ok (.aload_n 0, 1) := by decide +kernel
theorem d_MC_table_23 : decode b_MC_table 23 = .ok (.aload_n 0, 1) := by decide +kernel
theorem d_MC_table_24 : decode b_MC_table 24 = .ok (.getfield 42, 3) := by decide +kernel
theorem d_MC_table_27 : decode b_MC_table 27 = .ok (.iload_n 3, 1) := by decide +kernel
theorem d_MC_table_28 : decode b_MC_table 28 = .ok (.iaload, 1) := by decide +kernel
theorem d_MC_table_29 : decode b_MC_table 29 = .ok (.invokevirtual 162, 3) := by decide +kernel
theorem d_MC_table_32 : decode b_MC_table 32 = .ok (.iload_n 2, 1) := by decide +kernel
theorem d_MC_table_33 : decode b_MC_table 33 = .ok (.if_icmp .eq 8, 3) := by decide +kernel
theorem d_MC_table_36 : decode b_MC_table 36 = .ok (.aload_n 0, 1) := by decide +kernel
theorem d_MC_table_37 : decode b_MC_table 37 = .ok (.iconst 5, 1) := by decide +kernel
theorem d_MC_table_38 : decode b_MC_table 38 = .ok (.invokevirtual 146, 3) := by decide +kernel
theorem d_MC_table_41 : decode b_MC_table 41 = .ok (.aload_n 0, 1) := by decide +kernel
theorem d_MC_table_42 : decode b_MC_table 42 = .ok (.invokevirtual 196, 3) := by decide +kernel
theorem d_MC_table_45 : decode b_MC_table 45 = .ok (.aload_n 0, 1) := by decide +kernel
theorem d_MC_table_46 : decode b_MC_table 46 = .ok (.aload_n 0, 1) := by decide +kernel
theorem d_MC_table_47 : decode b_MC_table 47 = .ok (.getfield 42, 3) := by decide +kernel
theorem d_MC_table_50 : decode b_MC_table 50 = .ok (.iload_n 3, 1) := by decide +kernel
theorem d_MC_table_51 : decode b_MC_table 51 = .ok (.iaload, 1) := by decide +kernel
theorem d_MC_table_52 : decode b_MC_table 52 = .ok (.invokevirtual 212, 3) := by decide +kernel
theorem d_MC_table_55 : decode b_MC_table 55 = .ok (.aload_n 0, 1) := by decide +kernel
theorem d_MC_table_56 : decode b_MC_table 56 = .ok (.getfield 156, 3) := by decide +kernel
theorem d_MC_table_59 : decode b_MC_table 59 = .ok (.iconst 1, 1) := by decide +kernel
theorem d_MC_table_60 : decode b_MC_table 60 = .ok (.isub, 1) := by decide +kernel
theorem d_MC_table_61 : decode b_MC_table 61 = .ok (.istore 4, 2) := by decide +kernel
theorem d_MC_table_63 : decode b_MC_table 63 = .ok (.iload 4, 2) := by decide +kernel
theorem d_MC_table_65 : decode b_MC_table 65 = .ok (.ifCond .lt 38, 3) := by decide +kernel
theorem d_MC_table_68 : decode b_MC_table 68 = .ok (.aload_n 0, 1) := by decide +kernel
theorem d_MC_table_69 : decode b_MC_table 69 = .ok (.getfield 137, 3) := by decide +kernel
theorem d_MC_table_72 : decode b_MC_table 72 = .ok (.ifCond .ne 31, 3) := by decide +kernel
theorem d_MC_table_75 : decode b_MC_table 75 = .ok (.aload_n 0, 1) := by decide +kernel
theorem d_MC_table_76 : decode b_MC_table 76 = .ok (.aload_n 0, 1) := by decide +kernel
theorem d_MC_table_77 : decode b_MC_table 77 = .ok (.getfield 63, 3) := by decide +kernel
theorem d_MC_table_80 : decode b_MC_table 80 = .ok (.iload 4, 2) := by decide +kernel
theorem d_MC_table_82 : decode b_MC_table 82 = .ok (.iaload, 1) := by decide +kernel
theorem d_MC_table_83 : decode b_MC_table 83 = .ok (.invokevirtual 153, 3) := by decide +kernel
theorem d_MC_table_86 : decode b_MC_table 86 = .ok (.aload_n 0, 1) := by decide +kernel
theorem d_MC_table_87 : decode b_MC_table 87 = .ok (.getfield 66, 3) := by decide +kernel
theorem d_MC_table_90 : decode b_MC_table 90 = .ok (.iload 4, 2) := by decide +kernel
theorem d_MC_table_92 : decode b_MC_table 92 = .ok (.aload_n 0, 1) := by decide +kernel
theorem d_MC_table_93 : decode b_MC_table 93 = .ok (.getfield 140, 3) := by decide +kernel
theorem d_MC_table_96 : decode b_MC_table 96 = .ok (.iastore, 1) := by decide +kernel
theorem d_MC_table_97 : decode b_MC_table 97 = .ok (.iinc 4 (-1), 3) := by decide +kernel
theorem d_MC_table_100 : decode b_MC_table 100 = .ok (.goto (-37), 3) := by decide +kernel
theorem d_MC_table_103 : decode b_MC_table 103 = .ok (.iconst 0, 1) := by decide +kernel
theorem d_MC_table_104 : decode b_MC_table 104 = .ok (.istore 4, 2) := by decide +kernel
theorem d_MC_table_106 : decode b_MC_table 106 = .ok (.iload 4, 2) := by decide +kernel
theorem d_MC_table_108 : decode b_MC_table 108 = .ok (.aload_n 0, 1) := by decide +kernel
theorem d_MC_table_109 : decode b_MC_table 109 = .ok (.getfield 156, 3) := by decide +kernel
theorem d_MC_table_112 : decode b_MC_table 112 = .ok (.if_icmp .ge 20, 3) := by decide +kernel
theorem d_MC_table_115 : decode b_MC_table 115 = .ok (.aload_n 0, 1) := by decide +kernel
theorem d_MC_table_116 : decode b_MC_table 116 = .ok (.aload_n 0, 1) := by decide +kernel
theorem d_MC_table_117 : decode b_MC_table 117 = .ok (.getfield 66, 3) := by decide +kernel
theorem d_MC_table_120 : decode b_MC_table 120 = .ok (.iload 4, 2) := by decide +kernel
theorem d_MC_table_122 : decode b_MC_table 122 = .ok (.iaload, 1) := by decide +kernel
theorem d_MC_table_123 : decode b_MC_table 123 = .ok (.invokevirtual 169, 3) := by decide +kernel
theorem d_MC_table_126 : decode b_MC_table 126 = .ok (.iinc 4 1, 3) := by decide +kernel
theorem d_MC_table_129 : decode b_MC_table 129 = .ok (.goto (-23), 3) := by decide +kernel
theorem d_MC_table_132 : decode b_MC_table 132 = .ok (.iinc 3 1, 3) := by decide +kernel
theorem d_MC_table_135 : decode b_MC_table 135 = .ok (.goto (-121), 3) := by decide +kernel
theorem d_MC_table_138 : decode b_MC_table 138 = .ok (.aload_n 0, 1) := by decide +kernel
theorem d_MC_table_139 : decode b_MC_table 139 = .ok (.invokevirtual 196, 3) := by decide +kernel
theorem d_MC_table_142 : decode b_MC_table 142 = .ok (.aload_n 0, 1) := by decide +kernel
theorem d_MC_table_143 : decode b_MC_table 143 = .ok (.iload_n 1, 1) := by decide +kernel
theorem d_MC_table_144 : decode b_MC_table 144 = .ok (.invokevirtual 212, 3) := by decide +kernel
theorem d_MC_table_147 : decode b_MC_table 147 = .ok (.aload_n 0, 1) := by decide +kernel
theorem d_MC_table_148 : decode b_MC_table 148 = .ok (.invokevirtual 215, 3) := by decide +kernel
theorem d_MC_table_151 : decode b_MC_table 151 = .ok (.aload_n 0, 1) := by decide +kernel
theorem d_MC_table_152 : decode b_MC_table 152 = .ok (.invokevirtual 199, 3) := by decide +kernel
theorem d_MC_table_155 : decode b_MC_table 155 = .ok (.return_, 1) := by decide +kernel
theorem d_MC_labelCount_0 : decode b_MC_labelCount 0 = .ok (.aload_n 0, 1) := by decide +kernel
theorem d_MC_labelCount_1 : decode b_MC_labelCount 1 = .ok (.aload_n 0, 1) := by decide +kernel
theorem d_MC_labelCount_2 : decode b_MC_labelCount 2 = .ok (.iload_n 1, 1) := by decide +kernel
theorem d_MC_labelCount_3 : decode b_MC_labelCount 3 = .ok (.invokevirtual 125, 3) := by decide +kernel
theorem d_MC_labelCount_6 : decode b_MC_labelCount 6 = .ok (.aload_n 0, 1) := by decide +kernel
theorem d_MC_labelCount_7 : decode b_MC_labelCount 7 = .ok (.getfield 48, 3) := by decide +kernel
theorem d_MC_labelCount_10 : decode b_MC_labelCount 10 = .ok (.aload_n 0, 1) := by decide +kernel
theorem d_MC_labelCount_11 : decode b_MC_labelCount 11 = .ok (.iload_n 1, 1) := by decide +kernel
theorem d_MC_labelCount_12 : decode b_MC_labelCount 12 = .ok (.invokevirtual 125, 3) := by decide +kernel
theorem d_MC_labelCount_15 : decode b_MC_labelCount 15 = .ok (.iaload, 1) := by decide +kernel
theorem d_MC_labelCount_16 : decode b_MC_labelCount 16 = .ok (.iconst 3, 1) := by decide +kernel
theorem d_MC_labelCount_17 : decode b_MC_labelCount 17 = .ok (.if_icmp .eq 7, 3) := by decide +kernel
theorem d_MC_labelCount_20 : decode b_MC_labelCount 20 = .ok (.iconst 1, 1) := by decide +kernel
theorem d_MC_labelCount_21 : decode b_MC_labelCount 21 = .ok (.goto 4, 3) := by decide +kernel
theorem d_MC_labelCount_24 : decode b_MC_labelCount 24 = .ok (.iconst 0, 1) := by decide +kernel
theorem d_MC_labelCount_25 : decode b_MC_labelCount 25 = .ok (.invokevirtual 129, 3) := by decide +kernel
theorem d_MC_labelCount_28 : decode b_MC_labelCount 28 = .ok (.ireturn, 1) := by decide +kernel
theorem d_MC_blockOf_0 : decode b_MC_blockOf 0 = .ok (.aload_n 0, 1) := by decide +kernel
theorem d_MC_blockOf_1 : decode b_MC_blockOf 1 = .ok (.getfield 104, 3) := by decide +kernel
theorem d_MC_blockOf_4 : decode b_MC_blockOf 4 = .ok (.iconst 1, 1) := by decide +kernel
theorem d_MC_blockOf_5 : decode b_MC_blockOf 5 = .ok (.isub, 1) := by decide +kernel
theorem d_MC_blockOf_6 : decode b_MC_blockOf 6 = .ok (.iload_n 1, 1) := by decide +kernel
theorem d_MC_blockOf_7 : decode b_MC_blockOf 7 = .ok (.isub, 1) := by decide +kernel
theorem d_MC_blockOf_8 : decode b_MC_blockOf 8 = .ok (.ireturn, 1) := by decide +kernel
theorem d_MC_wantLabel_0 : decode b_MC_wantLabel 0 = .ok (.iconst 0, 1) := by decide +kernel
theorem d_MC_wantLabel_1 : decode b_MC_wantLabel 1 = .ok (.istore_n 2, 1) := by decide +kernel
theorem d_MC_wantLabel_2 : decode b_MC_wantLabel 2 = .ok (.iload_n 2, 1) := by decide +kernel
theorem d_MC_wantLabel_3 : decode b_MC_wantLabel 3 = .ok (.aload_n 0, 1) := by decide +kernel
theorem d_MC_wantLabel_4 : decode b_MC_wantLabel 4 = .ok (.iload_n 1, 1) := by decide +kernel
theorem d_MC_wantLabel_5 : decode b_MC_wantLabel 5 = .ok (.invokevirtual 162, 3) := by decide +kernel
theorem d_MC_wantLabel_8 : decode b_MC_wantLabel 8 = .ok (.if_icmp .ge 19, 3) := by decide +kernel
theorem d_MC_wantLabel_11 : decode b_MC_wantLabel 11 = .ok (.aload_n 0, 1) := by decide +kernel
theorem d_MC_wantLabel_12 : decode b_MC_wantLabel 12 = .ok (.aload_n 0, 1) := by decide +kernel
theorem d_MC_wantLabel_13 : decode b_MC_wantLabel 13 = .ok (.iload_n 1, 1) := by decide +kernel
theorem d_MC_wantLabel_14 : decode b_MC_wantLabel 14 = .ok (.iload_n 2, 1) := by decide +kernel
theorem d_MC_wantLabel_15 : decode b_MC_wantLabel 15 = .ok (.invokevirtual 165, 3) := by decide +kernel
theorem d_MC_wantLabel_18 : decode b_MC_wantLabel 18 = .ok (.invokevirtual 159, 3) := by decide +kernel
theorem d_MC_wantLabel_21 : decode b_MC_wantLabel 21 = .ok (.iinc 2 1, 3) := by decide +kernel
theorem d_MC_wantLabel_24 : decode b_MC_wantLabel 24 = .ok (.goto (-22), 3) := by decide +kernel
theorem d_MC_wantLabel_27 : decode b_MC_wantLabel 27 = .ok (.return_, 1) := by decide +kernel
theorem d_MC_labelPart_0 : decode b_MC_labelPart 0 = .ok (.aload_n 0, 1) := by decide +kernel
theorem d_MC_labelPart_1 : decode b_MC_labelPart 1 = .ok (.aload_n 0, 1) := by decide +kernel
theorem d_MC_labelPart_2 : decode b_MC_labelPart 2 = .ok (.iload_n 1, 1) := by decide +kernel
theorem d_MC_labelPart_3 : decode b_MC_labelPart 3 = .ok (.invokevirtual 125, 3) := by decide +kernel
theorem d_MC_labelPart_6 : decode b_MC_labelPart 6 = .ok (.aload_n 0, 1) := by decide +kernel
theorem d_MC_labelPart_7 : decode b_MC_labelPart 7 = .ok (.getfield 48, 3) := by decide +kernel
theorem d_MC_labelPart_10 : decode b_MC_labelPart 10 = .ok (.aload_n 0, 1) := by decide +kernel
theorem d_MC_labelPart_11 : decode b_MC_labelPart 11 = .ok (.iload_n 1, 1) := by decide +kernel
theorem d_MC_labelPart_12 : decode b_MC_labelPart 12 = .ok (.invokevirtual 125, 3) := by decide +kernel
theorem d_MC_labelPart_15 : decode b_MC_labelPart 15 = .ok (.iaload, 1) := by decide +kernel
theorem d_MC_labelPart_16 : decode b_MC_labelPart 16 = .ok (.iconst 3, 1) := by decide +kernel
theorem d_MC_labelPart_17 : decode b_MC_labelPart 17 = .ok (.if_icmp .eq 7, 3) := by decide +kernel
theorem d_MC_labelPart_20 : decode b_MC_labelPart 20 = .ok (.iconst 1, 1) := by decide +kernel
theorem d_MC_labelPart_21 : decode b_MC_labelPart 21 = .ok (.goto 4, 3) := by decide +kernel
theorem d_MC_labelPart_24 : decode b_MC_labelPart 24 = .ok (.iconst 0, 1) := by decide +kernel
theorem d_MC_labelPart_25 : decode b_MC_labelPart 25 = .ok (.iload_n 2, 1) := by decide +kernel
theorem d_MC_labelPart_26 : decode b_MC_labelPart 26 = .ok (.invokevirtual 133, 3) := by decide +kernel
theorem d_MC_labelPart_29 : decode b_MC_labelPart 29 = .ok (.ireturn, 1) := by decide +kernel
theorem d_MC_end_0 : decode b_MC_end 0 = .ok (.aload_n 0, 1) := by decide +kernel
theorem d_MC_end_1 : decode b_MC_end 1 = .ok (.invokevirtual 237, 3) := by decide +kernel
theorem d_MC_end_4 : decode b_MC_end 4 = .ok (.aload_n 0, 1) := by decide +kernel
theorem d_MC_end_5 : decode b_MC_end 5 = .ok (.getfield 104, 3) := by decide +kernel
theorem d_MC_end_8 : decode b_MC_end 8 = .ok (.iconst 1, 1) := by decide +kernel
theorem d_MC_end_9 : decode b_MC_end 9 = .ok (.isub, 1) := by decide +kernel
theorem d_MC_end_10 : decode b_MC_end 10 = .ok (.istore_n 1, 1) := by decide +kernel
theorem d_MC_end_11 : decode b_MC_end 11 = .ok (.aload_n 0, 1) := by decide +kernel
theorem d_MC_end_12 : decode b_MC_end 12 = .ok (.iload_n 1, 1) := by decide +kernel
theorem d_MC_end_13 : decode b_MC_end 13 = .ok (.iconst 0, 1) := by decide +kernel
theorem d_MC_end_14 : decode b_MC_end 14 = .ok (.invokevirtual 129, 3) := by decide +kernel
theorem d_MC_end_17 : decode b_MC_end 17 = .ok (.aload_n 0, 1) := by decide +kernel
theorem d_MC_end_18 : decode b_MC_end 18 = .ok (.iload_n 1, 1) := by decide +kernel
theorem d_MC_end_19 : decode b_MC_end 19 = .ok (.iconst 1, 1) := by decide +kernel
theorem d_MC_end_20 : decode b_MC_end 20 = .ok (.invokevirtual 129, 3) := by decide +kernel
theorem d_MC_end_23 : decode b_MC_end 23 = .ok (.if_icmp .ne 7, 3) := by decide +kernel
theorem d_MC_end_26 : decode b_MC_end 26 = .ok (.iconst 1, 1) := by decide +kernel
theorem d_MC_end_27 : decode b_MC_end 27 = .ok (.goto 4, 3) := by decide +kernel
theorem d_MC_end_30 : decode b_MC_end 30 = .ok (.iconst 0, 1) := by decide +kernel
theorem d_MC_end_31 : decode b_MC_end 31 = .ok (.istore_n 2, 1) := by decide +kernel
theorem d_MC_end_32 : decode b_MC_end 32 = .ok (.iconst 0, 1) := by decide +kernel
theorem d_MC_end_33 : decode b_MC_end 33 = .ok (.istore_n 3, 1) := by decide +kernel
theorem d_MC_end_34 : decode b_MC_end 34 = .ok (.iload_n 3, 1) := by decide +kernel
theorem d_MC_end_35 : decode b_MC_end 35 = .ok (.aload_n 0, 1) := by decide +kernel
theorem d_MC_end_36 : decode b_MC_end 36 = .ok (.iload_n 1, 1) := by decide +kernel
theorem d_MC_end_37 : decode b_MC_end 37 = .ok (.iconst 1, 1) := by decide +kernel
theorem d_MC_end_38 : decode b_MC_end 38 = .ok (.invokevirtual 129, 3) := by decide +kernel
theorem d_MC_end_41 : decode b_MC_end 41 = .ok (.if_icmp .ge 36, 3) := by decide +kernel
theorem d_MC_end_44 : decode b_MC_end 44 = .ok (.iload_n 2, 1) := by decide +kernel
theorem d_MC_end_45 : decode b_MC_end 45 = .ok (.ifCond .eq 32, 3) := by decide +kernel
theorem d_MC_end_48 : decode b_MC_end 48 = .ok (.aload_n 0, 1) := by decide +kernel
theorem d_MC_end_49 : decode b_MC_end 49 = .ok (.iload_n 1, 1) := by decide +kernel
theorem d_MC_end_50 : decode b_MC_end 50 = .ok (.iconst 0, 1) := by decide +kernel
theorem d_MC_end_51 : decode b_MC_end 51 = .ok (.iload_n 3, 1) := by decide +kernel
theorem d_MC_end_52 : decode b_MC_end 52 = .ok (.invokevirtual 133, 3) := by decide +kernel
theorem d_MC_end_55 : decode b_MC_end 55 = .ok (.aload_n 0, 1) := by decide +kernel
theorem d_MC_end_56 : decode b_MC_end 56 = .ok (.iload_n 1, 1) := by decide +kernel
theorem d_MC_end_57 : decode b_MC_end 57 = .ok (.iconst 1, 1) := by decide +kernel
theorem d_MC_end_58 : decode b_MC_end 58 = .ok (.iload_n 3, 1) := by decide +kernel
theorem d_MC_end_59 : decode b_MC_end 59 = .ok (.invokevirtual 133, 3) := by decide +kernel
theorem d_MC_end_62 : decode b_MC_end 62 = .ok (.if_icmp .ne 7, 3) := by decide +kernel
theorem d_MC_end_65 : decode b_MC_end 65 = .ok (.iconst 1, 1) := by decide +kernel
theorem d_MC_end_66 : decode b_MC_end 66 = .ok (.goto 4, 3) := by decide +kernel
theorem d_MC_end_69 : decode b_MC_end 69 = .ok (.iconst 0, 1) := by decide +kernel
theorem d_MC_end_70 : decode b_MC_end 70 = .ok (.istore_n 2, 1) := by decide +kernel
theorem d_MC_end_71 : decode b_MC_end 71 = .ok (.iinc 3 1, 3) := by decide +kernel
theorem d_MC_end_74 : decode b_MC_end 74 = .ok (.goto (-40), 3) := by decide +kernel
theorem d_MC_end_77 : decode b_MC_end 77 = .ok (.aload_n 0, 1) := by decide +kernel
theorem d_MC_end_78 : decode b_MC_end 78 = .ok (.getfield 48, 3) := by decide +kernel
theorem d_MC_end_81 : decode b_MC_end 81 = .ok (.iload_n 1, 1) := by decide +kernel
theorem d_MC_end_82 : decode b_MC_end 82 = .ok (.iaload, 1) := by decide +kernel
theorem d_MC_end_83 : decode b_MC_end 83 = .ok (.iconst 4, 1) := by decide +kernel
theorem d_MC_end_84 : decode b_MC_end 84 = .ok (.if_icmp .ne 12, 3) := by decide +kernel
theorem d_MC_end_87 : decode b_MC_end 87 = .ok (.iload_n 2, 1) := by decide +kernel
theorem d_MC_end_88 : decode b_MC_end 88 = .ok (.ifCond .ne 8, 3) := by decide +kernel
