theorem d_CStack_height_5 : decode b_CStack_height 5 = .ok (.iconst 0, 1) := by decide +kernel
theorem d_CStack_height_6 : decode b_CStack_height 6 = .ok (.invokevirtual 49, 3) := by decide +kernel
theorem d_CStack_height_9 : decode b_CStack_height 9 = .ok (.ireturn, 1) := by decide +kernel
theorem d_CStack_opener_0 : decode b_CStack_opener 0 = .ok (.aload_n 0, 1) := by decide +kernel
theorem d_CStack_opener_1 : decode b_CStack_opener 1 = .ok (.aload_n 0, 1) := by decide +kernel
theorem d_CStack_opener_2 : decode b_CStack_opener 2 = .ok (.getfield 21, 3) := by decide +kernel
theorem d_CStack_opener_5 : decode b_CStack_opener 5 = .ok (.iconst 0, 1) := by decide +kernel
theorem d_CStack_opener_6 : decode b_CStack_opener 6 = .ok (.invokevirtual 49, 3) := by decide +kernel
theorem d_CStack_opener_9 : decode b_CStack_opener 9 = .ok (.ireturn, 1) := by decide +kernel
theorem d_CThings_hasLikeParametersAndResults_0 : decode b_CThings_hasLikeParametersAndResults 0 = .ok (.aload_n 0, 1) := by decide +kernel
theorem d_CThings_hasLikeParametersAndResults_1 : decode b_CThings_hasLikeParametersAndResults 1 = .ok (.getfield 14, 3) := by decide +kernel
theorem d_CThings_hasLikeParametersAndResults_4 : decode b_CThings_hasLikeParametersAndResults 4 = .ok (.iload_n 1, 1) := by decide +kernel
theorem d_CThings_hasLikeParametersAndResults_5 : decode b_CThings_hasLikeParametersAndResults 5 = .ok (.invokevirtual 70, 3) := by decide +kernel
theorem d_CThings_hasLikeParametersAndResults_8 : decode b_CThings_hasLikeParametersAndResults 8 = .ok (.istore_n 2, 1) := by decide +kernel
theorem d_CThings_hasLikeParametersAndResults_9 : decode b_CThings_hasLikeParametersAndResults 9 = .ok (.iload_n 2, 1) := by decide +kernel
theorem d_CThings_hasLikeParametersAndResults_10 : decode b_CThings_hasLikeParametersAndResults 10 = .ok (.aload_n 0, 1) := by decide +kernel
theorem d_CThings_hasLikeParametersAndResults_11 : decode b_CThings_hasLikeParametersAndResults 11 = .ok (.getfield 20, 3) := by decide +kernel
theorem d_CThings_hasLikeParametersAndResults_14 : decode b_CThings_hasLikeParametersAndResults 14 = .ok (.iload_n 1, 1) := by decide +kernel
theorem d_CThings_hasLikeParametersAndResults_15 : decode b_CThings_hasLikeParametersAndResults 15 = .ok (.invokevirtual 70, 3) := by decide +kernel
theorem d_CThings_hasLikeParametersAndResults_18 : decode b_CThings_hasLikeParametersAndResults 18 = .ok (.if_icmp .eq 5, 3) := by decide +kernel
theorem d_CThings_hasLikeParametersAndResults_21 : decode b_CThings_hasLikeParametersAndResults 21 = .ok (.iconst 0, 1) := by decide +kernel
theorem d_CThings_hasLikeParametersAndResults_22 : decode b_CThings_hasLikeParametersAndResults 22 = .ok (.ireturn, 1) := by decide +kernel
theorem d_CThings_hasLikeParametersAndResults_23 : decode b_CThings_hasLikeParametersAndResults 23 = .ok (.iconst 0, 1) := by decide +kernel
theorem d_CThings_hasLikeParametersAndResults_24 : decode b_CThings_hasLikeParametersAndResults 24 = .ok (.istore_n 3, 1) := by decide +kernel
theorem d_CThings_hasLikeParametersAndResults_25 : decode b_CThings_hasLikeParametersAndResults 25 = .ok (.iload_n 3, 1) := by decide +kernel
theorem d_CThings_hasLikeParametersAndResults_26 : decode b_CThings_hasLikeParametersAndResults 26 = .ok (.iload_n 2, 1) := by decide +kernel
theorem d_CThings_hasLikeParametersAndResults_27 : decode b_CThings_hasLikeParametersAndResults 27 = .ok (.if_icmp .ge 32, 3) := by decide +kernel
theorem d_CThings_hasLikeParametersAndResults_30 : decode b_CThings_hasLikeParametersAndResults 30 = .ok (.aload_n 0, 1) := by decide +kernel
theorem d_CThings_hasLikeParametersAndResults_31 : decode b_CThings_hasLikeParametersAndResults 31 = .ok (.getfield 14, 3) := by decide +kernel
theorem d_CThings_hasLikeParametersAndResults_34 : decode b_CThings_hasLikeParametersAndResults 34 = .ok (.iload_n 1, 1) := by decide +kernel
theorem d_CThings_hasLikeParametersAndResults_35 : decode b_CThings_hasLikeParametersAndResults 35 = .ok (.iload_n 3, 1) := by decide +kernel
theorem d_CThings_hasLikeParametersAndResults_36 : decode b_CThings_hasLikeParametersAndResults 36 = .ok (.invokevirtual 74, 3) := by decide +kernel
theorem d_CThings_hasLikeParametersAndResults_39 : decode b_CThings_hasLikeParametersAndResults 39 = .ok (.aload_n 0, 1) := by decide +kernel
theorem d_CThings_hasLikeParametersAndResults_40 : decode b_CThings_hasLikeParametersAndResults 40 = .ok (.getfield 20, 3) := by decide +kernel
theorem d_CThings_hasLikeParametersAndResults_43 : decode b_CThings_hasLikeParametersAndResults 43 = .ok (.iload_n 1, 1) := by decide +kernel
theorem d_CThings_hasLikeParametersAndResults_44 : decode b_CThings_hasLikeParametersAndResults 44 = .ok (.iload_n 3, 1) := by decide +kernel
theorem d_CThings_hasLikeParametersAndResults_45 : decode b_CThings_hasLikeParametersAndResults 45 = .ok (.invokevirtual 74, 3) := by decide +kernel
theorem d_CThings_hasLikeParametersAndResults_48 : decode b_CThings_hasLikeParametersAndResults 48 = .ok (.if_icmp .eq 5, 3) := by decide +kernel
theorem d_CThings_hasLikeParametersAndResults_51 : decode b_CThings_hasLikeParametersAndResults 51 = .ok (.iconst 0, 1) := by decide +kernel
theorem d_CThings_hasLikeParametersAndResults_52 : decode b_CThings_hasLikeParametersAndResults 52 = .ok (.ireturn, 1) := by decide +kernel
theorem d_CThings_hasLikeParametersAndResults_53 : decode b_CThings_hasLikeParametersAndResults 53 = .ok (.iinc 3 1, 3) := by decide +kernel
theorem d_CThings_hasLikeParametersAndResults_56 : decode b_CThings_hasLikeParametersAndResults 56 = .ok (.goto (-31), 3) := by decide +kernel
theorem d_CThings_hasLikeParametersAndResults_59 : decode b_CThings_hasLikeParametersAndResults 59 = .ok (.iconst 1, 1) := by decide +kernel
theorem d_CThings_hasLikeParametersAndResults_60 : decode b_CThings_hasLikeParametersAndResults 60 = .ok (.ireturn, 1) := by decide +kernel
theorem d_CStack_hasInnermost_0 : decode b_CStack_hasInnermost 0 = .ok (.aload_n 0, 1) := by decide +kernel
theorem d_CStack_hasInnermost_1 : decode b_CStack_hasInnermost 1 = .ok (.getfield 39, 3) := by decide +kernel
theorem d_CStack_hasInnermost_4 : decode b_CStack_hasInnermost 4 = .ok (.ifCond .le 16, 3) := by decide +kernel
theorem d_CStack_hasInnermost_7 : decode b_CStack_hasInnermost 7 = .ok (.aload_n 0, 1) := by decide +kernel
theorem d_CStack_hasInnermost_8 : decode b_CStack_hasInnermost 8 = .ok (.getfield 39, 3) := by decide +kernel
theorem d_CStack_hasInnermost_11 : decode b_CStack_hasInnermost 11 = .ok (.bipush 60, 2) := by decide +kernel
theorem d_CStack_hasInnermost_13 : decode b_CStack_hasInnermost 13 = .ok (.if_icmp .gt 7, 3) := by decide +kernel
theorem d_CStack_hasInnermost_16 : decode b_CStack_hasInnermost 16 = .ok (.iconst 1, 1) := by decide +kernel
theorem d_CStack_hasInnermost_17 : decode b_CStack_hasInnermost 17 = .ok (.goto 4, 3) := by decide +kernel
theorem d_CStack_hasInnermost_20 : decode b_CStack_hasInnermost 20 = .ok (.iconst 0, 1) := by decide +kernel
theorem d_CStack_hasInnermost_21 : decode b_CStack_hasInnermost 21 = .ok (.ireturn, 1) := by decide +kernel
theorem d_CStack_giveRow_0 : decode b_CStack_giveRow 0 = .ok (.aload_n 1, 1) := by decide +kernel
theorem d_CStack_giveRow_1 : decode b_CStack_giveRow 1 = .ok (.iload_n 2, 1) := by decide +kernel
theorem d_CStack_giveRow_2 : decode b_CStack_giveRow 2 = .ok (.invokevirtual 69, 3) := by decide +kernel
theorem d_CStack_giveRow_5 : decode b_CStack_giveRow 5 = .ok (.istore_n 3, 1) := by decide +kernel
theorem d_CStack_giveRow_6 : decode b_CStack_giveRow 6 = .ok (.iconst 0, 1) := by decide +kernel
theorem d_CStack_giveRow_7 : decode b_CStack_giveRow 7 = .ok (.istore 4, 2) := by decide +kernel
theorem d_CStack_giveRow_9 : decode b_CStack_giveRow 9 = .ok (.iload 4, 2) := by decide +kernel
theorem d_CStack_giveRow_11 : decode b_CStack_giveRow 11 = .ok (.iload_n 3, 1) := by decide +kernel
theorem d_CStack_giveRow_12 : decode b_CStack_giveRow 12 = .ok (.if_icmp .ge 20, 3) := by decide +kernel
theorem d_CStack_giveRow_15 : decode b_CStack_giveRow 15 = .ok (.aload_n 0, 1) := by decide +kernel
theorem d_CStack_giveRow_16 : decode b_CStack_giveRow 16 = .ok (.aload_n 1, 1) := by decide +kernel
theorem d_CStack_giveRow_17 : decode b_CStack_giveRow 17 = .ok (.iload_n 2, 1) := by decide +kernel
theorem d_CStack_giveRow_18 : decode b_CStack_giveRow 18 = .ok (.iload 4, 2) := by decide +kernel
theorem d_CStack_giveRow_20 : decode b_CStack_giveRow 20 = .ok (.invokevirtual 74, 3) := by decide +kernel
theorem d_CStack_giveRow_23 : decode b_CStack_giveRow 23 = .ok (.invokevirtual 78, 3) := by decide +kernel
theorem d_CStack_giveRow_26 : decode b_CStack_giveRow 26 = .ok (.iinc 4 1, 3) := by decide +kernel
theorem d_CStack_giveRow_29 : decode b_CStack_giveRow 29 = .ok (.goto (-20), 3) := by decide +kernel
theorem d_CStack_giveRow_32 : decode b_CStack_giveRow 32 = .ok (.return_, 1) := by decide +kernel
theorem d_CStack_turnToElse_0 : decode b_CStack_turnToElse 0 = .ok (.aload_n 0, 1) := by decide +kernel
theorem d_CStack_turnToElse_1 : decode b_CStack_turnToElse 1 = .ok (.invokevirtual 53, 3) := by decide +kernel
theorem d_CStack_turnToElse_4 : decode b_CStack_turnToElse 4 = .ok (.ifCond .eq 11, 3) := by decide +kernel
theorem d_CStack_turnToElse_7 : decode b_CStack_turnToElse 7 = .ok (.aload_n 0, 1) := by decide +kernel
theorem d_CStack_turnToElse_8 : decode b_CStack_turnToElse 8 = .ok (.invokevirtual 97, 3) := by decide +kernel
theorem d_CStack_turnToElse_11 : decode b_CStack_turnToElse 11 = .ok (.iconst 4, 1) := by decide +kernel
theorem d_CStack_turnToElse_12 : decode b_CStack_turnToElse 12 = .ok (.if_icmp .eq 9, 3) := by decide +kernel
theorem d_CStack_turnToElse_15 : decode b_CStack_turnToElse 15 = .ok (.aload_n 0, 1) := by decide +kernel
theorem d_CStack_turnToElse_16 : decode b_CStack_turnToElse 16 = .ok (.iconst 2, 1) := by decide +kernel
theorem d_CStack_turnToElse_17 : decode b_CStack_turnToElse 17 = .ok (.invokevirtual 61, 3) := by decide +kernel
theorem d_CStack_turnToElse_20 : decode b_CStack_turnToElse 20 = .ok (.return_, 1) := by decide +kernel
theorem d_CStack_turnToElse_21 : decode b_CStack_turnToElse 21 = .ok (.aload_n 0, 1) := by decide +kernel
theorem d_CStack_turnToElse_22 : decode b_CStack_turnToElse 22 = .ok (.aload_n 0, 1) := by decide +kernel
theorem d_CStack_turnToElse_23 : decode b_CStack_turnToElse 23 = .ok (.getfield 15, 3) := by decide +kernel
theorem d_CStack_turnToElse_26 : decode b_CStack_turnToElse 26 = .ok (.iconst 0, 1) := by decide +kernel
theorem d_CStack_turnToElse_27 : decode b_CStack_turnToElse 27 = .ok (.invokevirtual 49, 3) := by decide +kernel
theorem d_CStack_turnToElse_30 : decode b_CStack_turnToElse 30 = .ok (.istore_n 1, 1) := by decide +kernel
theorem d_CStack_turnToElse_31 : decode b_CStack_turnToElse 31 = .ok (.aload_n 0, 1) := by decide +kernel
theorem d_CStack_turnToElse_32 : decode b_CStack_turnToElse 32 = .ok (.aload_n 0, 1) := by decide +kernel
theorem d_CStack_turnToElse_33 : decode b_CStack_turnToElse 33 = .ok (.getfield 31, 3) := by decide +kernel
theorem d_CStack_turnToElse_36 : decode b_CStack_turnToElse 36 = .ok (.getfield 100, 3) := by decide +kernel
theorem d_CStack_turnToElse_39 : decode b_CStack_turnToElse 39 = .ok (.iload_n 1, 1) := by decide +kernel
theorem d_CStack_turnToElse_40 : decode b_CStack_turnToElse 40 = .ok (.invokevirtual 87, 3) := by decide +kernel
theorem d_CStack_turnToElse_43 : decode b_CStack_turnToElse 43 = .ok (.aload_n 0, 1) := by decide +kernel
theorem d_CStack_turnToElse_44 : decode b_CStack_turnToElse 44 = .ok (.invokevirtual 103, 3) := by decide +kernel
theorem d_CStack_turnToElse_47 : decode b_CStack_turnToElse 47 = .ok (.aload_n 0, 1) := by decide +kernel
theorem d_CStack_turnToElse_48 : decode b_CStack_turnToElse 48 = .ok (.getfield 21, 3) := by decide +kernel
theorem d_CStack_turnToElse_51 : decode b_CStack_turnToElse 51 = .ok (.aload_n 0, 1) := by decide +kernel
theorem d_CStack_turnToElse_52 : decode b_CStack_turnToElse 52 = .ok (.getfield 39, 3) := by decide +kernel
theorem d_CStack_turnToElse_55 : decode b_CStack_turnToElse 55 = .ok (.iconst 1, 1) := by decide +kernel
theorem d_CStack_turnToElse_56 : decode b_CStack_turnToElse 56 = .ok (.isub, 1) := by decide +kernel
theorem d_CStack_turnToElse_57 : decode b_CStack_turnToElse 57 = .ok (.iconst 5, 1) := by decide +kernel
theorem d_CStack_turnToElse_58 : decode b_CStack_turnToElse 58 = .ok (.iastore, 1) := by decide +kernel
theorem d_CStack_turnToElse_59 : decode b_CStack_turnToElse 59 = .ok (.aload_n 0, 1) := by decide +kernel
theorem d_CStack_turnToElse_60 : decode b_CStack_turnToElse 60 = .ok (.getfield 24, 3) := by decide +kernel
theorem d_CStack_turnToElse_63 : decode b_CStack_turnToElse 63 = .ok (.aload_n 0, 1) := by decide +kernel
theorem d_CStack_turnToElse_64 : decode b_CStack_turnToElse 64 = .ok (.getfield 39, 3) := by decide +kernel
theorem d_CStack_turnToElse_67 : decode b_CStack_turnToElse 67 = .ok (.iconst 1, 1) := by decide +kernel
theorem d_CStack_turnToElse_68 : decode b_CStack_turnToElse 68 = .ok (.isub, 1) := by decide +kernel
theorem d_CStack_turnToElse_69 : decode b_CStack_turnToElse 69 = .ok (.iconst 1, 1) := by decide +kernel
theorem d_CStack_turnToElse_70 : decode b_CStack_turnToElse 70 = .ok (.bastore, 1) := by decide +kernel
theorem d_CStack_turnToElse_71 : decode b_CStack_turnToElse 71 = .ok (.aload_n 0, 1) := by decide +kernel
theorem d_CStack_turnToElse_72 : decode b_CStack_turnToElse 72 = .ok (.aload_n 0, 1) := by decide +kernel
theorem d_CStack_turnToElse_73 : decode b_CStack_turnToElse 73 = .ok (.getfield 31, 3) := by decide +kernel
theorem d_CStack_turnToElse_76 : decode b_CStack_turnToElse 76 = .ok (.getfield 81, 3) := by decide +kernel
theorem d_CStack_turnToElse_79 : decode b_CStack_turnToElse 79 = .ok (.iload_n 1, 1) := by decide +kernel
theorem d_CStack_turnToElse_80 : decode b_CStack_turnToElse 80 = .ok (.invokevirtual 91, 3) := by decide +kernel
theorem d_CStack_turnToElse_83 : decode b_CStack_turnToElse 83 = .ok (.return_, 1) := by decide +kernel
theorem d_CStack_openBlock_0 : decode b_CStack_openBlock 0 = .ok (.aload_n 0, 1) := by decide +kernel
theorem d_CStack_openBlock_1 : decode b_CStack_openBlock 1 = .ok (.aload_n 0, 1) := by decide +kernel
theorem d_CStack_openBlock_2 : decode b_CStack_openBlock 2 = .ok (.getfield 31, 3) := by decide +kernel
theorem d_CStack_openBlock_5 : decode b_CStack_openBlock 5 = .ok (.getfield 81, 3) := by decide +kernel
theorem d_CStack_openBlock_8 : decode b_CStack_openBlock 8 = .ok (.iload_n 2, 1) := by decide +kernel
theorem d_CStack_openBlock_9 : decode b_CStack_openBlock 9 = .ok (.invokevirtual 87, 3) := by decide +kernel
theorem d_CStack_openBlock_12 : decode b_CStack_openBlock 12 = .ok (.aload_n 0, 1) := by decide +kernel
theorem d_CStack_openBlock_13 : decode b_CStack_openBlock 13 = .ok (.iload_n 1, 1) := by decide +kernel
theorem d_CStack_openBlock_14 : decode b_CStack_openBlock 14 = .ok (.iload_n 2, 1) := by decide +kernel
theorem d_CStack_openBlock_15 : decode b_CStack_openBlock 15 = .ok (.invokevirtual 45, 3) := by decide +kernel
theorem d_CStack_openBlock_18 : decode b_CStack_openBlock 18 = .ok (.aload_n 0, 1) := by decide +kernel
theorem d_CStack_openBlock_19 : decode b_CStack_openBlock 19 = .ok (.aload_n 0, 1) := by decide +kernel
theorem d_CStack_openBlock_20 : decode b_CStack_openBlock 20 = .ok (.getfield 31, 3) := by decide +kernel
theorem d_CStack_openBlock_23 : decode b_CStack_openBlock 23 = .ok (.getfield 81, 3) := by decide +kernel
theorem d_CStack_openBlock_26 : decode b_CStack_openBlock 26 = .ok (.iload_n 2, 1) := by decide +kernel
theorem d_CStack_openBlock_27 : decode b_CStack_openBlock 27 = .ok (.invokevirtual 91, 3) := by decide +kernel
theorem d_CStack_openBlock_30 : decode b_CStack_openBlock 30 = .ok (.return_, 1) := by decide +kernel
theorem d_CStack_die_0 : decode b_CStack_die 0 = .ok (.aload_n 0, 1) := by decide +kernel
theorem d_CStack_die_1 : decode b_CStack_die 1 = .ok (.getfield 42, 3) := by decide +kernel
theorem d_CStack_die_4 : decode b_CStack_die 4 = .ok (.ifCond .ne 10, 3) := by decide +kernel
theorem d_CStack_die_7 : decode b_CStack_die 7 = .ok (.aload_n 0, 1) := by decide +kernel
theorem d_CStack_die_8 : decode b_CStack_die 8 = .ok (.invokevirtual 53, 3) := by decide +kernel
theorem d_CStack_die_11 : decode b_CStack_die 11 = .ok (.ifCond .ne 4, 3) := by decide +kernel
theorem d_CStack_die_14 : decode b_CStack_die 14 = .ok (.return_, 1) := by decide +kernel
theorem d_CStack_die_15 : decode b_CStack_die 15 = .ok (.aload_n 0, 1) := by decide +kernel
theorem d_CStack_die_16 : decode b_CStack_die 16 = .ok (.aload_n 0, 1) := by decide +kernel
theorem d_CStack_die_17 : decode b_CStack_die 17 = .ok (.getfield 18, 3) := by decide +kernel
theorem d_CStack_die_20 : decode b_CStack_die 20 = .ok (.aload_n 0, 1) := by decide +kernel
theorem d_CStack_die_21 : decode b_CStack_die 21 = .ok (.getfield 39, 3) := by decide +kernel
theorem d_CStack_die_24 : decode b_CStack_die 24 = .ok (.iconst 1, 1) := by decide +kernel
theorem d_CStack_die_25 : decode b_CStack_die 25 = .ok (.isub, 1) := by decide +kernel
theorem d_CStack_die_26 : decode b_CStack_die 26 = .ok (.iaload, 1) := by decide +kernel
theorem d_CStack_die_27 : decode b_CStack_die 27 = .ok (.putfield 35, 3) := by decide +kernel
theorem d_CStack_die_30 : decode b_CStack_die 30 = .ok (.aload_n 0, 1) := by decide +kernel
theorem d_CStack_die_31 : decode b_CStack_die 31 = .ok (.getfield 24, 3) := by decide +kernel
theorem d_CStack_die_34 : decode b_CStack_die 34 = .ok (.aload_n 0, 1) := by decide +kernel
theorem d_CStack_die_35 : decode b_CStack_die 35 = .ok (.getfield 39, 3) := by decide +kernel
theorem d_CStack_die_38 : decode b_CStack_die 38 = .ok (.iconst 1, 1) := by decide +kernel
theorem d_CStack_die_39 : decode b_CStack_die 39 = .ok (.isub, 1) := by decide +kernel
theorem d_CStack_die_40 : decode b_CStack_die 40 = .ok (.iconst 0, 1) := by decide +kernel
theorem d_CStack_die_41 : decode b_CStack_die 41 = .ok (.bastore, 1) := by decide +kernel
theorem d_CStack_die_42 : decode b_CStack_die 42 = .ok (.return_, 1) := by decide +kernel
theorem d_CCode_carryOutBranch_0 : decode b_CCode_carryOutBranch 0 = .ok (.iload_n 1, 1) := by decide +kernel
theorem d_CCode_carryOutBranch_1 : decode b_CCode_carryOutBranch 1 = .ok (.tableswitch 147 12 17 #[39, 57, 86, 94, 111, 129], 39) := by decide +kernel
theorem d_CCode_carryOutBranch_40 : decode b_CCode_carryOutBranch 40 = .ok (.aload_n 0, 1) := by decide +kernel
theorem d_CCode_carryOutBranch_41 : decode b_CCode_carryOutBranch 41 = .ok (.getfield 35, 3) := by decide +kernel
theorem d_CCode_carryOutBranch_44 : decode b_CCode_carryOutBranch 44 = .ok (.iload_n 2, 1) := by decide +kernel
theorem d_CCode_carryOutBranch_45 : decode b_CCode_carryOutBranch 45 = .ok (.invokevirtual 239, 3) := by decide +kernel
theorem d_CCode_carryOutBranch_48 : decode b_CCode_carryOutBranch 48 = .ok (.aload_n 0, 1) := by decide +kernel
theorem d_CCode_carryOutBranch_49 : decode b_CCode_carryOutBranch 49 = .ok (.getfield 35, 3) := by decide +kernel
theorem d_CCode_carryOutBranch_52 : decode b_CCode_carryOutBranch 52 = .ok (.invokevirtual 224, 3) := by decide +kernel
theorem d_CCode_carryOutBranch_55 : decode b_CCode_carryOutBranch 55 = .ok (.goto 93, 3) := by decide +kernel
theorem d_CCode_carryOutBranch_58 : decode b_CCode_carryOutBranch 58 = .ok (.aload_n 0, 1) := by decide +kernel
theorem d_CCode_carryOutBranch_59 : decode b_CCode_carryOutBranch 59 = .ok (.getfield 35, 3) := by decide +kernel
theorem d_CCode_carryOutBranch_62 : decode b_CCode_carryOutBranch 62 = .ok (.bipush 127, 2) := by decide +kernel
theorem d_CCode_carryOutBranch_64 : decode b_CCode_carryOutBranch 64 = .ok (.invokevirtual 230, 3) := by decide +kernel
theorem d_CCode_carryOutBranch_67 : decode b_CCode_carryOutBranch 67 = .ok (.pop, 1) := by decide +kernel
theorem d_CCode_carryOutBranch_68 : decode b_CCode_carryOutBranch 68 = .ok (.aload_n 0, 1) := by decide +kernel
theorem d_CCode_carryOutBranch_69 : decode b_CCode_carryOutBranch 69 = .ok (.getfield 35, 3) := by decide +kernel
theorem d_CCode_carryOutBranch_72 : decode b_CCode_carryOutBranch 72 = .ok (.iload_n 2, 1) := by decide +kernel
theorem d_CCode_carryOutBranch_73 : decode b_CCode_carryOutBranch 73 = .ok (.invokevirtual 239, 3) := by decide +kernel
theorem d_CCode_carryOutBranch_76 : decode b_CCode_carryOutBranch 76 = .ok (.aload_n 0, 1) := by decide +kernel
theorem d_CCode_carryOutBranch_77 : decode b_CCode_carryOutBranch 77 = .ok (.getfield 35, 3) := by decide +kernel
theorem d_CCode_carryOutBranch_80 : decode b_CCode_carryOutBranch 80 = .ok (.iload_n 2, 1) := by decide +kernel
theorem d_CCode_carryOutBranch_81 : decode b_CCode_carryOutBranch 81 = .ok (.invokevirtual 242, 3) := by decide +kernel
theorem d_CCode_carryOutBranch_84 : decode b_CCode_carryOutBranch 84 = .ok (.goto 64, 3) := by decide +kernel
theorem d_CCode_carryOutBranch_87 : decode b_CCode_carryOutBranch 87 = .ok (.aload_n 0, 1) := by decide +kernel
theorem d_CCode_carryOutBranch_88 : decode b_CCode_carryOutBranch 88 = .ok (.iload_n 2, 1) := by decide +kernel
theorem d_CCode_carryOutBranch_89 : decode b_CCode_carryOutBranch 89 = .ok (.invokevirtual 245, 3) := by decide +kernel
theorem d_CCode_carryOutBranch_92 : decode b_CCode_carryOutBranch 92 = .ok (.goto 56, 3) := by decide +kernel
theorem d_CCode_carryOutBranch_95 : decode b_CCode_carryOutBranch 95 = .ok (.aload_n 0, 1) := by decide +kernel
theorem d_CCode_carryOutBranch_96 : decode b_CCode_carryOutBranch 96 = .ok (.getfield 35, 3) := by decide +kernel
theorem d_CCode_carryOutBranch_99 : decode b_CCode_carryOutBranch 99 = .ok (.invokevirtual 248, 3) := by decide +kernel
theorem d_CCode_carryOutBranch_102 : decode b_CCode_carryOutBranch 102 = .ok (.aload_n 0, 1) := by decide +kernel
theorem d_CCode_carryOutBranch_103 : decode b_CCode_carryOutBranch 103 = .ok (.getfield 35, 3) := by decide +kernel
theorem d_CCode_carryOutBranch_106 : decode b_CCode_carryOutBranch 106 = .ok (.invokevirtual 224, 3) := by decide +kernel
theorem d_CCode_carryOutBranch_109 : decode b_CCode_carryOutBranch 109 = .ok (.goto 39, 3) := by decide +kernel
theorem d_CCode_carryOutBranch_112 : decode b_CCode_carryOutBranch 112 = .ok (.aload_n 0, 1) := by decide +kernel
theorem d_CCode_carryOutBranch_113 : decode b_CCode_carryOutBranch 113 = .ok (.aload_n 0, 1) := by decide +kernel
theorem d_CCode_carryOutBranch_114 : decode b_CCode_carryOutBranch 114 = .ok (.getfield 26, 3) := by decide +kernel
theorem d_CCode_carryOutBranch_117 : decode b_CCode_carryOutBranch 117 = .ok (.getfield 165, 3) := by decide +kernel
theorem d_CCode_carryOutBranch_120 : decode b_CCode_carryOutBranch 120 = .ok (.iload_n 2, 1) := by decide +kernel
theorem d_CCode_carryOutBranch_121 : decode b_CCode_carryOutBranch 121 = .ok (.invokevirtual 181, 3) := by decide +kernel
theorem d_CCode_carryOutBranch_124 : decode b_CCode_carryOutBranch 124 = .ok (.invokevirtual 251, 3) := by decide +kernel
theorem d_CCode_carryOutBranch_127 : decode b_CCode_carryOutBranch 127 = .ok (.goto 21, 3) := by decide +kernel
theorem d_CCode_carryOutBranch_130 : decode b_CCode_carryOutBranch 130 = .ok (.aload_n 0, 1) := by decide +kernel
theorem d_CCode_carryOutBranch_131 : decode b_CCode_carryOutBranch 131 = .ok (.getfield 35, 3) := by decide +kernel
theorem d_CCode_carryOutBranch_134 : decode b_CCode_carryOutBranch 134 = .ok (.bipush 127, 2) := by decide +kernel
theorem d_CCode_carryOutBranch_136 : decode b_CCode_carryOutBranch 136 = .ok (.invokevirtual 230, 3) := by decide +kernel
theorem d_CCode_carryOutBranch_139 : decode b_CCode_carryOutBranch 139 = .ok (.pop, 1) := by decide +kernel
theorem d_CCode_carryOutBranch_140 : decode b_CCode_carryOutBranch 140 = .ok (.aload_n 0, 1) := by decide +kernel
theorem d_CCode_carryOutBranch_141 : decode b_CCode_carryOutBranch 141 = .ok (.iload_n 2, 1) := by decide +kernel
theorem d_CCode_carryOutBranch_142 : decode b_CCode_carryOutBranch 142 = .ok (.invokevirtual 251, 3) := by decide +kernel
theorem d_CCode_carryOutBranch_145 : decode b_CCode_carryOutBranch 145 = .ok (.goto 3, 3) := by decide +kernel
theorem d_CCode_carryOutBranch_148 : decode b_CCode_carryOutBranch 148 = .ok (.return_, 1) := by decide +kernel
theorem d_CCode_enterFunction_0 : decode b_CCode_enterFunction 0 = .ok (.aload_n 0, 1) := by decide +kernel
theorem d_CCode_enterFunction_1 : decode b_CCode_enterFunction 1 = .ok (.getfield 35, 3) := by decide +kernel
theorem d_CCode_enterFunction_4 : decode b_CCode_enterFunction 4 = .ok (.aload_n 0, 1) := by decide +kernel
theorem d_CCode_enterFunction_5 : decode b_CCode_enterFunction 5 = .ok (.getfield 26, 3) := by decide +kernel
theorem d_CCode_enterFunction_8 : decode b_CCode_enterFunction 8 = .ok (.getfield 63, 3) := by decide +kernel
theorem d_CCode_enterFunction_11 : decode b_CCode_enterFunction 11 = .ok (.iload_n 1, 1) := by decide +kernel
theorem d_CCode_enterFunction_12 : decode b_CCode_enterFunction 12 = .ok (.invokevirtual 260, 3) := by decide +kernel
theorem d_CCode_enterFunction_15 : decode b_CCode_enterFunction 15 = .ok (.aload_n 0, 1) := by decide +kernel
theorem d_CCode_enterFunction_16 : decode b_CCode_enterFunction 16 = .ok (.getfield 35, 3) := by decide +kernel
theorem d_CCode_enterFunction_19 : decode b_CCode_enterFunction 19 = .ok (.aload_n 0, 1) := by decide +kernel
theorem d_CCode_enterFunction_20 : decode b_CCode_enterFunction 20 = .ok (.getfield 26, 3) := by decide +kernel
theorem d_CCode_enterFunction_23 : decode b_CCode_enterFunction 23 = .ok (.getfield 264, 3) := by decide +kernel
theorem d_CCode_enterFunction_26 : decode b_CCode_enterFunction 26 = .ok (.iload_n 1, 1) := by decide +kernel
theorem d_CCode_enterFunction_27 : decode b_CCode_enterFunction 27 = .ok (.invokevirtual 267, 3) := by decide +kernel
theorem d_CCode_enterFunction_30 : decode b_CCode_enterFunction 30 = .ok (.return_, 1) := by decide +kernel
theorem d_CStack_takeOutermostResults_0 : decode b_CStack_takeOutermostResults 0 = .ok (.aload_n 0, 1) := by decide +kernel
theorem d_CStack_takeOutermostResults_1 : decode b_CStack_takeOutermostResults 1 = .ok (.aload_n 0, 1) := by decide +kernel
theorem d_CStack_takeOutermostResults_2 : decode b_CStack_takeOutermostResults 2 = .ok (.getfield 31, 3) := by decide +kernel
theorem d_CStack_takeOutermostResults_5 : decode b_CStack_takeOutermostResults 5 = .ok (.getfield 100, 3) := by decide +kernel
theorem d_CStack_takeOutermostResults_8 : decode b_CStack_takeOutermostResults 8 = .ok (.aload_n 0, 1) := by decide +kernel
theorem d_CStack_takeOutermostResults_9 : decode b_CStack_takeOutermostResults 9 = .ok (.aload_n 0, 1) := by decide +kernel
theorem d_CStack_takeOutermostResults_10 : decode b_CStack_takeOutermostResults 10 = .ok (.getfield 15, 3) := by decide +kernel
theorem d_CStack_takeOutermostResults_13 : decode b_CStack_takeOutermostResults 13 = .ok (.aload_n 0, 1) := by decide +kernel
theorem d_CStack_takeOutermostResults_14 : decode b_CStack_takeOutermostResults 14 = .ok (.getfield 39, 3) := by decide +kernel
theorem d_CStack_takeOutermostResults_17 : decode b_CStack_takeOutermostResults 17 = .ok (.iconst 1, 1) := by decide +kernel
theorem d_CStack_takeOutermostResults_18 : decode b_CStack_takeOutermostResults 18 = .ok (.isub, 1) := by decide +kernel
theorem d_CStack_takeOutermostResults_19 : decode b_CStack_takeOutermostResults 19 = .ok (.invokevirtual 49, 3) := by decide +kernel
theorem d_CStack_takeOutermostResults_22 : decode b_CStack_takeOutermostResults 22 = .ok (.invokevirtual 87, 3) := by decide +kernel
theorem d_CStack_takeOutermostResults_25 : decode b_CStack_takeOutermostResults 25 = .ok (.return_, 1) := by decide +kernel
theorem d_CCode_branchByRow_0 : decode b_CCode_branchByRow 0 = .ok (.aload_n 0, 1) := by decide +kernel
theorem d_CCode_branchByRow_1 : decode b_CCode_branchByRow 1 = .ok (.getfield 35, 3) := by decide +kernel
theorem d_CCode_branchByRow_4 : decode b_CCode_branchByRow 4 = .ok (.bipush 127, 2) := by decide +kernel
theorem d_CCode_branchByRow_6 : decode b_CCode_branchByRow 6 = .ok (.invokevirtual 230, 3) := by decide +kernel
theorem d_CCode_branchByRow_9 : decode b_CCode_branchByRow 9 = .ok (.pop, 1) := by decide +kernel
theorem d_CCode_branchByRow_10 : decode b_CCode_branchByRow 10 = .ok (.aload_n 0, 1) := by decide +kernel
theorem d_CCode_branchByRow_11 : decode b_CCode_branchByRow 11 = .ok (.getfield 35, 3) := by decide +kernel
theorem d_CCode_branchByRow_14 : decode b_CCode_branchByRow 14 = .ok (.iload_n 1, 1) := by decide +kernel
theorem d_CCode_branchByRow_15 : decode b_CCode_branchByRow 15 = .ok (.invokevirtual 254, 3) := by decide +kernel
theorem d_CCode_branchByRow_18 : decode b_CCode_branchByRow 18 = .ok (.istore_n 2, 1) := by decide +kernel
theorem d_CCode_branchByRow_19 : decode b_CCode_branchByRow 19 = .ok (.iconst 0, 1) := by decide +kernel
theorem d_CCode_branchByRow_20 : decode b_CCode_branchByRow 20 = .ok (.istore_n 3, 1) := by decide +kernel
theorem d_CCode_branchByRow_21 : decode b_CCode_branchByRow 21 = .ok (.iload_n 3, 1) := by decide +kernel
theorem d_CCode_branchByRow_22 : decode b_CCode_branchByRow 22 = .ok (.aload_n 0, 1) := by decide +kernel
theorem d_CCode_branchByRow_23 : decode b_CCode_branchByRow 23 = .ok (.getfield 46, 3) := by decide +kernel
theorem d_CCode_branchByRow_26 : decode b_CCode_branchByRow 26 = .ok (.if_icmp .ge 32, 3) := by decide +kernel
theorem d_CCode_branchByRow_29 : decode b_CCode_branchByRow 29 = .ok (.iload_n 3, 1) := by decide +kernel
theorem d_CCode_branchByRow_30 : decode b_CCode_branchByRow 30 = .ok (.aload_n 0, 1) := by decide +kernel
theorem d_CCode_branchByRow_31 : decode b_CCode_branchByRow 31 = .ok (.getfield 18, 3) := by decide +kernel
theorem d_CCode_branchByRow_34 : decode b_CCode_branchByRow 34 = .ok (.arraylength, 1) := by decide +kernel
theorem d_CCode_branchByRow_35 : decode b_CCode_branchByRow 35 = .ok (.if_icmp .ge 23, 3) := by decide +kernel
theorem d_CCode_branchByRow_38 : decode b_CCode_branchByRow 38 = .ok (.aload_n 0, 1) := by decide +kernel
theorem d_CCode_branchByRow_39 : decode b_CCode_branchByRow 39 = .ok (.getfield 35, 3) := by decide +kernel
theorem d_CCode_branchByRow_42 : decode b_CCode_branchByRow 42 = .ok (.aload_n 0, 1) := by decide +kernel
theorem d_CCode_branchByRow_43 : decode b_CCode_branchByRow 43 = .ok (.getfield 18, 3) := by decide +kernel
theorem d_CCode_branchByRow_46 : decode b_CCode_branchByRow 46 = .ok (.iload_n 3, 1) := by decide +kernel
theorem d_CCode_branchByRow_47 : decode b_CCode_branchByRow 47 = .ok (.iaload, 1) := by decide +kernel
theorem d_CCode_branchByRow_48 : decode b_CCode_branchByRow 48 = .ok (.iload_n 2, 1) := by decide +kernel
theorem d_CCode_branchByRow_49 : decode b_CCode_branchByRow 49 = .ok (.invokevirtual 257, 3) := by decide +kernel
theorem d_CCode_branchByRow_52 : decode b_CCode_branchByRow 52 = .ok (.iinc 3 1, 3) := by decide +kernel
theorem d_CCode_branchByRow_55 : decode b_CCode_branchByRow 55 = .ok (.goto (-34), 3) := by decide +kernel
theorem d_CCode_branchByRow_58 : decode b_CCode_branchByRow 58 = .ok (.aload_n 0, 1) := by decide +kernel
theorem d_CCode_branchByRow_59 : decode b_CCode_branchByRow 59 = .ok (.getfield 35, 3) := by decide +kernel
theorem d_CCode_branchByRow_62 : decode b_CCode_branchByRow 62 = .ok (.iload_n 1, 1) := by decide +kernel
theorem d_CCode_branchByRow_63 : decode b_CCode_branchByRow 63 = .ok (.invokevirtual 239, 3) := by decide +kernel
theorem d_CCode_branchByRow_66 : decode b_CCode_branchByRow 66 = .ok (.aload_n 0, 1) := by decide +kernel
theorem d_CCode_branchByRow_67 : decode b_CCode_branchByRow 67 = .ok (.getfield 35, 3) := by decide +kernel
theorem d_CCode_branchByRow_70 : decode b_CCode_branchByRow 70 = .ok (.invokevirtual 224, 3) := by decide +kernel
theorem d_CCode_branchByRow_73 : decode b_CCode_branchByRow 73 = .ok (.return_, 1) := by decide +kernel
theorem d_CStack_labelSize_0 : decode b_CStack_labelSize 0 = .ok (.aload_n 0, 1) := by decide +kernel
theorem d_CStack_labelSize_1 : decode b_CStack_labelSize 1 = .ok (.iload_n 1, 1) := by decide +kernel
theorem d_CStack_labelSize_2 : decode b_CStack_labelSize 2 = .ok (.invokevirtual 110, 3) := by decide +kernel
theorem d_CStack_labelSize_5 : decode b_CStack_labelSize 5 = .ok (.aload_n 0, 1) := by decide +kernel
theorem d_CStack_labelSize_6 : decode b_CStack_labelSize 6 = .ok (.aload_n 0, 1) := by decide +kernel
theorem d_CStack_labelSize_7 : decode b_CStack_labelSize 7 = .ok (.getfield 15, 3) := by decide +kernel
theorem d_CStack_labelSize_10 : decode b_CStack_labelSize 10 = .ok (.iload_n 1, 1) := by decide +kernel
theorem d_CStack_labelSize_11 : decode b_CStack_labelSize 11 = .ok (.invokevirtual 49, 3) := by decide +kernel
theorem d_CStack_labelSize_14 : decode b_CStack_labelSize 14 = .ok (.invokevirtual 69, 3) := by decide +kernel
theorem d_CStack_labelSize_17 : decode b_CStack_labelSize 17 = .ok (.ireturn, 1) := by decide +kernel
theorem d_CStack_labelRows_0 : decode b_CStack_labelRows 0 = .ok (.aload_n 0, 1) := by decide +kernel
theorem d_CStack_labelRows_1 : decode b_CStack_labelRows 1 = .ok (.aload_n 0, 1) := by decide +kernel
theorem d_CStack_labelRows_2 : decode b_CStack_labelRows 2 = .ok (.getfield 21, 3) := by decide +kernel
theorem d_CStack_labelRows_5 : decode b_CStack_labelRows 5 = .ok (.iload_n 1, 1) := by decide +kernel
theorem d_CStack_labelRows_6 : decode b_CStack_labelRows 6 = .ok (.invokevirtual 49, 3) := by decide +kernel
theorem d_CStack_labelRows_9 : decode b_CStack_labelRows 9 = .ok (.iconst 3, 1) := by decide +kernel
theorem d_CStack_labelRows_10 : decode b_CStack_labelRows 10 = .ok (.if_icmp .ne 13, 3) := by decide +kernel
theorem d_CStack_labelRows_13 : decode b_CStack_labelRows 13 = .ok (.aload_n 0, 1) := by decide +kernel
theorem d_CStack_labelRows_14 : decode b_CStack_labelRows 14 = .ok (.getfield 31, 3) := by decide +kernel
theorem d_CStack_labelRows_17 : decode b_CStack_labelRows 17 = .ok (.getfield 81, 3) := by decide +kernel
theorem d_CStack_labelRows_20 : decode b_CStack_labelRows 20 = .ok (.goto 10, 3) := by decide +kernel
theorem d_CStack_labelRows_23 : decode b_CStack_labelRows 23 = .ok (.aload_n 0, 1) := by decide +kernel
theorem d_CStack_labelRows_24 : decode b_CStack_labelRows 24 = .ok (.getfield 31, 3) := by decide +kernel
theorem d_CStack_labelRows_27 : decode b_CStack_labelRows 27 = .ok (.getfield 100, 3) := by decide +kernel
theorem d_CStack_labelRows_30 : decode b_CStack_labelRows 30 = .ok (.areturn, 1) := by decide +kernel
theorem d_CStack_passLabel_0 : decode b_CStack_passLabel 0 = .ok (.aload_n 0, 1) := by decide +kernel
theorem d_CStack_passLabel_1 : decode b_CStack_passLabel 1 = .ok (.iload_n 1, 1) := by decide +kernel
theorem d_CStack_passLabel_2 : decode b_CStack_passLabel 2 = .ok (.invokevirtual 110, 3) := by decide +kernel
theorem d_CStack_passLabel_5 : decode b_CStack_passLabel 5 = .ok (.astore_n 3, 1) := by decide +kernel
theorem d_CStack_passLabel_6 : decode b_CStack_passLabel 6 = .ok (.aload_n 0, 1) := by decide +kernel
theorem d_CStack_passLabel_7 : decode b_CStack_passLabel 7 = .ok (.aload_n 0, 1) := by decide +kernel
theorem d_CStack_passLabel_8 : decode b_CStack_passLabel 8 = .ok (.getfield 15, 3) := by decide +kernel
theorem d_CStack_passLabel_11 : decode b_CStack_passLabel 11 = .ok (.iload_n 1, 1) := by decide +kernel
theorem d_CStack_passLabel_12 : decode b_CStack_passLabel 12 = .ok (.invokevirtual 49, 3) := by decide +kernel
theorem d_CStack_passLabel_15 : decode b_CStack_passLabel 15 = .ok (.istore 4, 2) := by decide +kernel
theorem d_CStack_passLabel_17 : decode b_CStack_passLabel 17 = .ok (.aload_n 3, 1) := by decide +kernel
theorem d_CStack_passLabel_18 : decode b_CStack_passLabel 18 = .ok (.iload 4, 2) := by decide +kernel
theorem d_CStack_passLabel_20 : decode b_CStack_passLabel 20 = .ok (.invokevirtual 69, 3) := by decide +kernel
theorem d_CStack_passLabel_23 : decode b_CStack_passLabel 23 = .ok (.istore 5, 2) := by decide +kernel
theorem d_CStack_passLabel_25 : decode b_CStack_passLabel 25 = .ok (.iload 5, 2) := by decide +kernel
theorem d_CStack_passLabel_27 : decode b_CStack_passLabel 27 = .ok (.iload_n 2, 1) := by decide +kernel
theorem d_CStack_passLabel_28 : decode b_CStack_passLabel 28 = .ok (.if_icmp .ne 13, 3) := by decide +kernel
theorem d_CStack_passLabel_31 : decode b_CStack_passLabel 31 = .ok (.iload 5, 2) := by decide +kernel
theorem d_CStack_passLabel_33 : decode b_CStack_passLabel 33 = .ok (.aload_n 0, 1) := by decide +kernel
theorem d_CStack_passLabel_34 : decode b_CStack_passLabel 34 = .ok (.getfield 28, 3) := by decide +kernel
theorem d_CStack_passLabel_37 : decode b_CStack_passLabel 37 = .ok (.arraylength, 1) := by decide +kernel
theorem d_CStack_passLabel_38 : decode b_CStack_passLabel 38 = .ok (.if_icmp .le 9, 3) := by decide +kernel
theorem d_CStack_passLabel_41 : decode b_CStack_passLabel 41 = .ok (.aload_n 0, 1) := by decide +kernel
theorem d_CStack_passLabel_42 : decode b_CStack_passLabel 42 = .ok (.iconst 5, 1) := by decide +kernel
theorem d_CStack_passLabel_43 : decode b_CStack_passLabel 43 = .ok (.invokevirtual 61, 3) := by decide +kernel
theorem d_CStack_passLabel_46 : decode b_CStack_passLabel 46 = .ok (.return_, 1) := by decide +kernel
theorem d_CStack_passLabel_47 : decode b_CStack_passLabel 47 = .ok (.iload 5, 2) := by decide +kernel
theorem d_CStack_passLabel_49 : decode b_CStack_passLabel 49 = .ok (.iconst 1, 1) := by decide +kernel
theorem d_CStack_passLabel_50 : decode b_CStack_passLabel 50 = .ok (.isub, 1) := by decide +kernel
theorem d_CStack_passLabel_51 : decode b_CStack_passLabel 51 = .ok (.istore 6, 2) := by decide +kernel
theorem d_CStack_passLabel_53 : decode b_CStack_passLabel 53 = .ok (.iload 6, 2) := by decide +kernel
theorem d_CStack_passLabel_55 : decode b_CStack_passLabel 55 = .ok (.ifCond .lt 28, 3) := by decide +kernel
theorem d_CStack_passLabel_58 : decode b_CStack_passLabel 58 = .ok (.aload_n 0, 1) := by decide +kernel
theorem d_CStack_passLabel_59 : decode b_CStack_passLabel 59 = .ok (.getfield 28, 3) := by decide +kernel
theorem d_CStack_passLabel_62 : decode b_CStack_passLabel 62 = .ok (.iload 6, 2) := by decide +kernel
theorem d_CStack_passLabel_64 : decode b_CStack_passLabel 64 = .ok (.aload_n 0, 1) := by decide +kernel
theorem d_CStack_passLabel_65 : decode b_CStack_passLabel 65 = .ok (.aload_n 3, 1) := by decide +kernel
theorem d_CStack_passLabel_66 : decode b_CStack_passLabel 66 = .ok (.iload 4, 2) := by decide +kernel
theorem d_CStack_passLabel_68 : decode b_CStack_passLabel 68 = .ok (.iload 6, 2) := by decide +kernel
theorem d_CStack_passLabel_70 : decode b_CStack_passLabel 70 = .ok (.invokevirtual 74, 3) := by decide +kernel
theorem d_CStack_passLabel_73 : decode b_CStack_passLabel 73 = .ok (.invokevirtual 65, 3) := by decide +kernel
theorem d_CStack_passLabel_76 : decode b_CStack_passLabel 76 = .ok (.iastore, 1) := by decide +kernel
theorem d_CStack_passLabel_77 : decode b_CStack_passLabel 77 = .ok (.iinc 6 (-1), 3) := by decide +kernel
theorem d_CStack_passLabel_80 : decode b_CStack_passLabel 80 = .ok (.goto (-27), 3) := by decide +kernel
theorem d_CStack_passLabel_83 : decode b_CStack_passLabel 83 = .ok (.iconst 0, 1) := by decide +kernel
theorem d_CStack_passLabel_84 : decode b_CStack_passLabel 84 = .ok (.istore 6, 2) := by decide +kernel
theorem d_CStack_passLabel_86 : decode b_CStack_passLabel 86 = .ok (.iload 6, 2) := by decide +kernel
theorem d_CStack_passLabel_88 : decode b_CStack_passLabel 88 = .ok (.iload 5, 2) := by decide +kernel
theorem d_CStack_passLabel_90 : decode b_CStack_passLabel 90 = .ok (.if_icmp .ge 20, 3) := by decide +kernel
theorem d_CStack_passLabel_93 : decode b_CStack_passLabel 93 = .ok (.aload_n 0, 1) := by decide +kernel
theorem d_CStack_passLabel_94 : decode b_CStack_passLabel 94 = .ok (.aload_n 0, 1) := by decide +kernel
theorem d_CStack_passLabel_95 : decode b_CStack_passLabel 95 = .ok (.getfield 28, 3) := by decide +kernel
theorem d_CStack_passLabel_98 : decode b_CStack_passLabel 98 = .ok (.iload 6, 2) := by decide +kernel
theorem d_CStack_passLabel_100 : decode b_CStack_passLabel 100 = .ok (.iaload, 1) := by decide +kernel
theorem d_CStack_passLabel_101 : decode b_CStack_passLabel 101 = .ok (.invokevirtual 78, 3) := by decide +kernel
theorem d_CStack_passLabel_104 : decode b_CStack_passLabel 104 = .ok (.iinc 6 1, 3) := by decide +kernel
theorem d_CStack_passLabel_107 : decode b_CStack_passLabel 107 = .ok (.goto (-21), 3) := by decide +kernel
theorem d_CStack_passLabel_110 : decode b_CStack_passLabel 110 = .ok (.return_, 1) := by decide +kernel
theorem d_CStack_takeLabel_0 : decode b_CStack_takeLabel 0 = .ok (.aload_n 0, 1) := by decide +kernel
theorem d_CStack_takeLabel_1 : decode b_CStack_takeLabel 1 = .ok (.aload_n 0, 1) := by decide +kernel
theorem d_CStack_takeLabel_2 : decode b_CStack_takeLabel 2 = .ok (.iload_n 1, 1) := by decide +kernel
theorem d_CStack_takeLabel_3 : decode b_CStack_takeLabel 3 = .ok (.invokevirtual 110, 3) := by decide +kernel
theorem d_CStack_takeLabel_6 : decode b_CStack_takeLabel 6 = .ok (.aload_n 0, 1) := by decide +kernel
theorem d_CStack_takeLabel_7 : decode b_CStack_takeLabel 7 = .ok (.aload_n 0, 1) := by decide +kernel
theorem d_CStack_takeLabel_8 : decode b_CStack_takeLabel 8 = .ok (.getfield 15, 3) := by decide +kernel
theorem d_CStack_takeLabel_11 : decode b_CStack_takeLabel 11 = .ok (.iload_n 1, 1) := by decide +kernel
theorem d_CStack_takeLabel_12 : decode b_CStack_takeLabel 12 = .ok (.invokevirtual 49, 3) := by decide +kernel
theorem d_CStack_takeLabel_15 : decode b_CStack_takeLabel 15 = .ok (.invokevirtual 87, 3) := by decide +kernel
theorem d_CStack_takeLabel_18 : decode b_CStack_takeLabel 18 = .ok (.return_, 1) := by decide +kernel
theorem d_CStack_giveLabel_0 : decode b_CStack_giveLabel 0 = .ok (.aload_n 0, 1) := by decide +kernel
theorem d_CStack_giveLabel_1 : decode b_CStack_giveLabel 1 = .ok (.aload_n 0, 1) := by decide +kernel
theorem d_CStack_giveLabel_2 : decode b_CStack_giveLabel 2 = .ok (.iload_n 1, 1) := by decide +kernel
theorem d_CStack_giveLabel_3 : decode b_CStack_giveLabel 3 = .ok (.invokevirtual 110, 3) := by decide +kernel
theorem d_CStack_giveLabel_6 : decode b_CStack_giveLabel 6 = .ok (.aload_n 0, 1) := by decide +kernel
theorem d_CStack_giveLabel_7 : decode b_CStack_giveLabel 7 = .ok (.aload_n 0, 1) := by decide +kernel
theorem d_CStack_giveLabel_8 : decode b_CStack_giveLabel 8 = .ok (.getfield 15, 3) := by decide +kernel
theorem d_CStack_giveLabel_11 : decode b_CStack_giveLabel 11 = .ok (.iload_n 1, 1) := by decide +kernel
theorem d_CStack_giveLabel_12 : decode b_CStack_giveLabel 12 = .ok (.invokevirtual 49, 3) := by decide +kernel
theorem d_CStack_giveLabel_15 : decode b_CStack_giveLabel 15 = .ok (.invokevirtual 91, 3) := by decide +kernel
theorem d_CStack_giveLabel_18 : decode b_CStack_giveLabel 18 = .ok (.return_, 1) := by decide +kernel
theorem d_CCode_carryOutVariable_0 : decode b_CCode_carryOutVariable 0 = .ok (.iload_n 1, 1) := by decide +kernel
theorem d_CCode_carryOutVariable_1 : decode b_CCode_carryOutVariable 1 = .ok (.tableswitch 224 26 36 #[59, 70, 80, 224, 224, 224, 110, 128, 147, 181, 202], 59) := by decide +kernel
theorem d_CCode_carryOutVariable_60 : decode b_CCode_carryOutVariable 60 = .ok (.aload_n 0, 1) := by decide +kernel
theorem d_CCode_carryOutVariable_61 : decode b_CCode_carryOutVariable 61 = .ok (.getfield 35, 3) := by decide +kernel
theorem d_CCode_carryOutVariable_64 : decode b_CCode_carryOutVariable 64 = .ok (.invokevirtual 270, 3) := by decide +kernel
theorem d_CCode_carryOutVariable_67 : decode b_CCode_carryOutVariable 67 = .ok (.pop, 1) := by decide +kernel
theorem d_CCode_carryOutVariable_68 : decode b_CCode_carryOutVariable 68 = .ok (.goto 157, 3) := by decide +kernel
theorem d_CCode_carryOutVariable_71 : decode b_CCode_carryOutVariable 71 = .ok (.aload_n 0, 1) := by decide +kernel
theorem d_CCode_carryOutVariable_72 : decode b_CCode_carryOutVariable 72 = .ok (.getfield 35, 3) := by decide +kernel
theorem d_CCode_carryOutVariable_75 : decode b_CCode_carryOutVariable 75 = .ok (.invokevirtual 273, 3) := by decide +kernel
theorem d_CCode_carryOutVariable_78 : decode b_CCode_carryOutVariable 78 = .ok (.goto 147, 3) := by decide +kernel
theorem d_CCode_carryOutVariable_81 : decode b_CCode_carryOutVariable 81 = .ok (.aload_n 0, 1) := by decide +kernel
theorem d_CCode_carryOutVariable_82 : decode b_CCode_carryOutVariable 82 = .ok (.getfield 35, 3) := by decide +kernel
theorem d_CCode_carryOutVariable_85 : decode b_CCode_carryOutVariable 85 = .ok (.bipush 127, 2) := by decide +kernel
theorem d_CCode_carryOutVariable_87 : decode b_CCode_carryOutVariable 87 = .ok (.invokevirtual 230, 3) := by decide +kernel
theorem d_CCode_carryOutVariable_90 : decode b_CCode_carryOutVariable 90 = .ok (.pop, 1) := by decide +kernel
theorem d_CCode_carryOutVariable_91 : decode b_CCode_carryOutVariable 91 = .ok (.aload_n 0, 1) := by decide +kernel
theorem d_CCode_carryOutVariable_92 : decode b_CCode_carryOutVariable 92 = .ok (.getfield 35, 3) := by decide +kernel
theorem d_CCode_carryOutVariable_95 : decode b_CCode_carryOutVariable 95 = .ok (.iload_n 2, 1) := by decide +kernel
theorem d_CCode_carryOutVariable_96 : decode b_CCode_carryOutVariable 96 = .ok (.iconst 2, 1) := by decide +kernel
theorem d_CCode_carryOutVariable_97 : decode b_CCode_carryOutVariable 97 = .ok (.invokevirtual 218, 3) := by decide +kernel
theorem d_CCode_carryOutVariable_100 : decode b_CCode_carryOutVariable 100 = .ok (.aload_n 0, 1) := by decide +kernel
theorem d_CCode_carryOutVariable_101 : decode b_CCode_carryOutVariable 101 = .ok (.getfield 35, 3) := by decide +kernel
theorem d_CCode_carryOutVariable_104 : decode b_CCode_carryOutVariable 104 = .ok (.iload_n 2, 1) := by decide +kernel
theorem d_CCode_carryOutVariable_105 : decode b_CCode_carryOutVariable 105 = .ok (.invokevirtual 221, 3) := by decide +kernel
theorem d_CCode_carryOutVariable_108 : decode b_CCode_carryOutVariable 108 = .ok (.goto 117, 3) := by decide +kernel
theorem d_CCode_carryOutVariable_111 : decode b_CCode_carryOutVariable 111 = .ok (.aload_n 0, 1) := by decide +kernel
theorem d_CCode_carryOutVariable_112 : decode b_CCode_carryOutVariable 112 = .ok (.getfield 35, 3) := by decide +kernel
theorem d_CCode_carryOutVariable_115 : decode b_CCode_carryOutVariable 115 = .ok (.aload_n 0, 1) := by decide +kernel
theorem d_CCode_carryOutVariable_116 : decode b_CCode_carryOutVariable 116 = .ok (.getfield 12, 3) := by decide +kernel
theorem d_CCode_carryOutVariable_119 : decode b_CCode_carryOutVariable 119 = .ok (.iload_n 2, 1) := by decide +kernel
theorem d_CCode_carryOutVariable_120 : decode b_CCode_carryOutVariable 120 = .ok (.invokevirtual 276, 3) := by decide +kernel
theorem d_CCode_carryOutVariable_123 : decode b_CCode_carryOutVariable 123 = .ok (.invokevirtual 221, 3) := by decide +kernel
theorem d_CCode_carryOutVariable_126 : decode b_CCode_carryOutVariable 126 = .ok (.goto 99, 3) := by decide +kernel
theorem d_CCode_carryOutVariable_129 : decode b_CCode_carryOutVariable 129 = .ok (.aload_n 0, 1) := by decide +kernel
theorem d_CCode_carryOutVariable_130 : decode b_CCode_carryOutVariable 130 = .ok (.getfield 35, 3) := by decide +kernel
theorem d_CCode_carryOutVariable_133 : decode b_CCode_carryOutVariable 133 = .ok (.aload_n 0, 1) := by decide +kernel
theorem d_CCode_carryOutVariable_134 : decode b_CCode_carryOutVariable 134 = .ok (.getfield 12, 3) := by decide +kernel
theorem d_CCode_carryOutVariable_137 : decode b_CCode_carryOutVariable 137 = .ok (.iload_n 2, 1) := by decide +kernel
theorem d_CCode_carryOutVariable_138 : decode b_CCode_carryOutVariable 138 = .ok (.invokevirtual 276, 3) := by decide +kernel
theorem d_CCode_carryOutVariable_141 : decode b_CCode_carryOutVariable 141 = .ok (.invokevirtual 230, 3) := by decide +kernel
theorem d_CCode_carryOutVariable_144 : decode b_CCode_carryOutVariable 144 = .ok (.pop, 1) := by decide +kernel
theorem d_CCode_carryOutVariable_145 : decode b_CCode_carryOutVariable 145 = .ok (.goto 80, 3) := by decide +kernel
theorem d_CCode_carryOutVariable_148 : decode b_CCode_carryOutVariable 148 = .ok (.aload_n 0, 1) := by decide +kernel
theorem d_CCode_carryOutVariable_149 : decode b_CCode_carryOutVariable 149 = .ok (.getfield 35, 3) := by decide +kernel
theorem d_CCode_carryOutVariable_152 : decode b_CCode_carryOutVariable 152 = .ok (.aload_n 0, 1) := by decide +kernel
theorem d_CCode_carryOutVariable_153 : decode b_CCode_carryOutVariable 153 = .ok (.getfield 12, 3) := by decide +kernel
theorem d_CCode_carryOutVariable_156 : decode b_CCode_carryOutVariable 156 = .ok (.iload_n 2, 1) := by decide +kernel
theorem d_CCode_carryOutVariable_157 : decode b_CCode_carryOutVariable 157 = .ok (.invokevirtual 276, 3) := by decide +kernel
theorem d_CCode_carryOutVariable_160 : decode b_CCode_carryOutVariable 160 = .ok (.invokevirtual 230, 3) := by decide +kernel
theorem d_CCode_carryOutVariable_163 : decode b_CCode_carryOutVariable 163 = .ok (.pop, 1) := by decide +kernel
theorem d_CCode_carryOutVariable_164 : decode b_CCode_carryOutVariable 164 = .ok (.aload_n 0, 1) := by decide +kernel
theorem d_CCode_carryOutVariable_165 : decode b_CCode_carryOutVariable 165 = .ok (.getfield 35, 3) := by decide +kernel
theorem d_CCode_carryOutVariable_168 : decode b_CCode_carryOutVariable 168 = .ok (.aload_n 0, 1) := by decide +kernel
theorem d_CCode_carryOutVariable_169 : decode b_CCode_carryOutVariable 169 = .ok (.getfield 12, 3) := by decide +kernel
theorem d_CCode_carryOutVariable_172 : decode b_CCode_carryOutVariable 172 = .ok (.iload_n 2, 1) := by decide +kernel
theorem d_CCode_carryOutVariable_173 : decode b_CCode_carryOutVariable 173 = .ok (.invokevirtual 276, 3) := by decide +kernel
theorem d_CCode_carryOutVariable_176 : decode b_CCode_carryOutVariable 176 = .ok (.invokevirtual 221, 3) := by decide +kernel
theorem d_CCode_carryOutVariable_179 : decode b_CCode_carryOutVariable 179 = .ok (.goto 46, 3) := by decide +kernel
theorem d_CCode_carryOutVariable_182 : decode b_CCode_carryOutVariable 182 = .ok (.aload_n 0, 1) := by decide +kernel
theorem d_CCode_carryOutVariable_183 : decode b_CCode_carryOutVariable 183 = .ok (.getfield 35, 3) := by decide +kernel
theorem d_CCode_carryOutVariable_186 : decode b_CCode_carryOutVariable 186 = .ok (.aload_n 0, 1) := by decide +kernel
theorem d_CCode_carryOutVariable_187 : decode b_CCode_carryOutVariable 187 = .ok (.getfield 26, 3) := by decide +kernel
theorem d_CCode_carryOutVariable_190 : decode b_CCode_carryOutVariable 190 = .ok (.getfield 144, 3) := by decide +kernel
theorem d_CCode_carryOutVariable_193 : decode b_CCode_carryOutVariable 193 = .ok (.iload_n 2, 1) := by decide +kernel
theorem d_CCode_carryOutVariable_194 : decode b_CCode_carryOutVariable 194 = .ok (.invokevirtual 181, 3) := by decide +kernel
theorem d_CCode_carryOutVariable_197 : decode b_CCode_carryOutVariable 197 = .ok (.invokevirtual 221, 3) := by decide +kernel
theorem d_CCode_carryOutVariable_200 : decode b_CCode_carryOutVariable 200 = .ok (.goto 25, 3) := by decide +kernel
theorem d_CCode_carryOutVariable_203 : decode b_CCode_carryOutVariable 203 = .ok (.aload_n 0, 1) := by decide +kernel
theorem d_CCode_carryOutVariable_204 : decode b_CCode_carryOutVariable 204 = .ok (.getfield 35, 3) := by decide +kernel
theorem d_CCode_carryOutVariable_207 : decode b_CCode_carryOutVariable 207 = .ok (.aload_n 0, 1) := by decide +kernel
theorem d_CCode_carryOutVariable_208 : decode b_CCode_carryOutVariable 208 = .ok (.getfield 26, 3) := by decide +kernel
theorem d_CCode_carryOutVariable_211 : decode b_CCode_carryOutVariable 211 = .ok (.getfield 144, 3) := by decide +kernel
theorem d_CCode_carryOutVariable_214 : decode b_CCode_carryOutVariable 214 = .ok (.iload_n 2, 1) := by decide +kernel
theorem d_CCode_carryOutVariable_215 : decode b_CCode_carryOutVariable 215 = .ok (.invokevirtual 181, 3) := by decide +kernel
theorem d_CCode_carryOutVariable_218 : decode b_CCode_carryOutVariable 218 = .ok (.invokevirtual 230, 3) := by decide +kernel
theorem d_CCode_carryOutVariable_221 : decode b_CCode_carryOutVariable 221 = .ok (.pop, 1) := by decide +kernel
theorem d_CCode_carryOutVariable_222 : decode b_CCode_carryOutVariable 222 = .ok (.goto 3, 3) := by decide +kernel
theorem d_CCode_carryOutVariable_225 : decode b_CCode_carryOutVariable 225 = .ok (.return_, 1) := by decide +kernel
theorem d_CLocals_typeOf_0 : decode b_CLocals_typeOf 0 = .ok (.iload_n 1, 1) := by decide +kernel
theorem d_CLocals_typeOf_1 : decode b_CLocals_typeOf 1 = .ok (.invokestatic 27, 3) := by decide +kernel
theorem d_CLocals_typeOf_4 : decode b_CLocals_typeOf 4 = .ok (.lstore_n 2, 1) := by decide +kernel
theorem d_CLocals_typeOf_5 : decode b_CLocals_typeOf 5 = .ok (.iconst 0, 1) := by decide +kernel
theorem d_CLocals_typeOf_6 : decode b_CLocals_typeOf 6 = .ok (.istore 4, 2) := by decide +kernel
theorem d_CLocals_typeOf_8 : decode b_CLocals_typeOf 8 = .ok (.iload 4, 2) := by decide +kernel
theorem d_CLocals_typeOf_10 : decode b_CLocals_typeOf 10 = .ok (.aload_n 0, 1) := by decide +kernel
theorem d_CLocals_typeOf_11 : decode b_CLocals_typeOf 11 = .ok (.getfield 19, 3) := by decide +kernel
theorem d_CLocals_typeOf_14 : decode b_CLocals_typeOf 14 = .ok (.if_icmp .ge 49, 3) := by decide +kernel
theorem d_CLocals_typeOf_17 : decode b_CLocals_typeOf 17 = .ok (.iload 4, 2) := by decide +kernel
theorem d_CLocals_typeOf_19 : decode b_CLocals_typeOf 19 = .ok (.aload_n 0, 1) := by decide +kernel
theorem d_CLocals_typeOf_20 : decode b_CLocals_typeOf 20 = .ok (.getfield 9, 3) := by decide +kernel
theorem d_CLocals_typeOf_23 : decode b_CLocals_typeOf 23 = .ok (.arraylength, 1) := by decide +kernel
theorem d_CLocals_typeOf_24 : decode b_CLocals_typeOf 24 = .ok (.if_icmp .ge 39, 3) := by decide +kernel
theorem d_CLocals_typeOf_27 : decode b_CLocals_typeOf 27 = .ok (.iload 4, 2) := by decide +kernel
theorem d_CLocals_typeOf_29 : decode b_CLocals_typeOf 29 = .ok (.aload_n 0, 1) := by decide +kernel
theorem d_CLocals_typeOf_30 : decode b_CLocals_typeOf 30 = .ok (.getfield 15, 3) := by decide +kernel
theorem d_CLocals_typeOf_33 : decode b_CLocals_typeOf 33 = .ok (.arraylength, 1) := by decide +kernel
theorem d_CLocals_typeOf_34 : decode b_CLocals_typeOf 34 = .ok (.if_icmp .ge 29, 3) := by decide +kernel
theorem d_CLocals_typeOf_37 : decode b_CLocals_typeOf 37 = .ok (.lload_n 2, 1) := by decide +kernel
theorem d_CLocals_typeOf_38 : decode b_CLocals_typeOf 38 = .ok (.aload_n 0, 1) := by decide +kernel
theorem d_CLocals_typeOf_39 : decode b_CLocals_typeOf 39 = .ok (.getfield 15, 3) := by decide +kernel
theorem d_CLocals_typeOf_42 : decode b_CLocals_typeOf 42 = .ok (.iload 4, 2) := by decide +kernel
theorem d_CLocals_typeOf_44 : decode b_CLocals_typeOf 44 = .ok (.laload, 1) := by decide +kernel
theorem d_CLocals_typeOf_45 : decode b_CLocals_typeOf 45 = .ok (.lcmp, 1) := by decide +kernel
theorem d_CLocals_typeOf_46 : decode b_CLocals_typeOf 46 = .ok (.ifCond .ge 11, 3) := by decide +kernel
theorem d_CLocals_typeOf_49 : decode b_CLocals_typeOf 49 = .ok (.aload_n 0, 1) := by decide +kernel
theorem d_CLocals_typeOf_50 : decode b_CLocals_typeOf 50 = .ok (.getfield 9, 3) := by decide +kernel
theorem d_CLocals_typeOf_53 : decode b_CLocals_typeOf 53 = .ok (.iload 4, 2) := by decide +kernel
theorem d_CLocals_typeOf_55 : decode b_CLocals_typeOf 55 = .ok (.iaload, 1) := by decide +kernel
theorem d_CLocals_typeOf_56 : decode b_CLocals_typeOf 56 = .ok (.ireturn, 1) := by decide +kernel
theorem d_CLocals_typeOf_57 : decode b_CLocals_typeOf 57 = .ok (.iinc 4 1, 3) := by decide +kernel
