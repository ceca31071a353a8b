theorem d_MC_end_91 : decode b_MC_end 91 = .ok (.aload_n 0, 1) := by decide +kernel
theorem d_MC_end_92 : decode b_MC_end 92 = .ok (.iconst 4, 1) := by decide +kernel
theorem d_MC_end_93 : decode b_MC_end 93 = .ok (.invokevirtual 146, 3) := by decide +kernel
theorem d_MC_end_96 : decode b_MC_end 96 = .ok (.aload_n 0, 1) := by decide +kernel
theorem d_MC_end_97 : decode b_MC_end 97 = .ok (.invokevirtual 218, 3) := by decide +kernel
theorem d_MC_end_100 : decode b_MC_end 100 = .ok (.aload_n 0, 1) := by decide +kernel
theorem d_MC_end_101 : decode b_MC_end 101 = .ok (.aload_n 0, 1) := by decide +kernel
theorem d_MC_end_102 : decode b_MC_end 102 = .ok (.getfield 137, 3) := by decide +kernel
theorem d_MC_end_105 : decode b_MC_end 105 = .ok (.ifCond .ne 7, 3) := by decide +kernel
theorem d_MC_end_108 : decode b_MC_end 108 = .ok (.iconst 1, 1) := by decide +kernel
theorem d_MC_end_109 : decode b_MC_end 109 = .ok (.goto 4, 3) := by decide +kernel
theorem d_MC_end_112 : decode b_MC_end 112 = .ok (.iconst 0, 1) := by decide +kernel
theorem d_MC_end_113 : decode b_MC_end 113 = .ok (.putfield 243, 3) := by decide +kernel
theorem d_MC_end_116 : decode b_MC_end 116 = .ok (.return_, 1) := by decide +kernel
theorem d_MC_close_0 : decode b_MC_close 0 = .ok (.aload_n 0, 1) := by decide +kernel
theorem d_MC_close_1 : decode b_MC_close 1 = .ok (.aload_n 0, 1) := by decide +kernel
theorem d_MC_close_2 : decode b_MC_close 2 = .ok (.getfield 104, 3) := by decide +kernel
theorem d_MC_close_5 : decode b_MC_close 5 = .ok (.iconst 1, 1) := by decide +kernel
theorem d_MC_close_6 : decode b_MC_close 6 = .ok (.isub, 1) := by decide +kernel
theorem d_MC_close_7 : decode b_MC_close 7 = .ok (.iconst 1, 1) := by decide +kernel
theorem d_MC_close_8 : decode b_MC_close 8 = .ok (.invokevirtual 224, 3) := by decide +kernel
theorem d_MC_close_11 : decode b_MC_close 11 = .ok (.aload_n 0, 1) := by decide +kernel
theorem d_MC_close_12 : decode b_MC_close 12 = .ok (.invokevirtual 215, 3) := by decide +kernel
theorem d_MC_close_15 : decode b_MC_close 15 = .ok (.aload_n 0, 1) := by decide +kernel
theorem d_MC_close_16 : decode b_MC_close 16 = .ok (.getfield 137, 3) := by decide +kernel
theorem d_MC_close_19 : decode b_MC_close 19 = .ok (.ifCond .ne 26, 3) := by decide +kernel
theorem d_MC_close_22 : decode b_MC_close 22 = .ok (.aload_n 0, 1) := by decide +kernel
theorem d_MC_close_23 : decode b_MC_close 23 = .ok (.getfield 143, 3) := by decide +kernel
theorem d_MC_close_26 : decode b_MC_close 26 = .ok (.aload_n 0, 1) := by decide +kernel
theorem d_MC_close_27 : decode b_MC_close 27 = .ok (.getfield 54, 3) := by decide +kernel
theorem d_MC_close_30 : decode b_MC_close 30 = .ok (.aload_n 0, 1) := by decide +kernel
theorem d_MC_close_31 : decode b_MC_close 31 = .ok (.getfield 104, 3) := by decide +kernel
theorem d_MC_close_34 : decode b_MC_close 34 = .ok (.iconst 1, 1) := by decide +kernel
theorem d_MC_close_35 : decode b_MC_close 35 = .ok (.isub, 1) := by decide +kernel
theorem d_MC_close_36 : decode b_MC_close 36 = .ok (.iaload, 1) := by decide +kernel
theorem d_MC_close_37 : decode b_MC_close 37 = .ok (.if_icmp .le 8, 3) := by decide +kernel
theorem d_MC_close_40 : decode b_MC_close 40 = .ok (.aload_n 0, 1) := by decide +kernel
theorem d_MC_close_41 : decode b_MC_close 41 = .ok (.iconst 3, 1) := by decide +kernel
theorem d_MC_close_42 : decode b_MC_close 42 = .ok (.invokevirtual 146, 3) := by decide +kernel
theorem d_MC_close_45 : decode b_MC_close 45 = .ok (.return_, 1) := by decide +kernel
theorem d_MC_choose_0 : decode b_MC_choose 0 = .ok (.aload_n 0, 1) := by decide +kernel
theorem d_MC_choose_1 : decode b_MC_choose 1 = .ok (.getfield 48, 3) := by decide +kernel
theorem d_MC_choose_4 : decode b_MC_choose 4 = .ok (.aload_n 0, 1) := by decide +kernel
theorem d_MC_choose_5 : decode b_MC_choose 5 = .ok (.getfield 104, 3) := by decide +kernel
theorem d_MC_choose_8 : decode b_MC_choose 8 = .ok (.iconst 1, 1) := by decide +kernel
theorem d_MC_choose_9 : decode b_MC_choose 9 = .ok (.isub, 1) := by decide +kernel
theorem d_MC_choose_10 : decode b_MC_choose 10 = .ok (.iaload, 1) := by decide +kernel
theorem d_MC_choose_11 : decode b_MC_choose 11 = .ok (.iconst 4, 1) := by decide +kernel
theorem d_MC_choose_12 : decode b_MC_choose 12 = .ok (.if_icmp .eq 8, 3) := by decide +kernel
theorem d_MC_choose_15 : decode b_MC_choose 15 = .ok (.aload_n 0, 1) := by decide +kernel
theorem d_MC_choose_16 : decode b_MC_choose 16 = .ok (.iconst 2, 1) := by decide +kernel
theorem d_MC_choose_17 : decode b_MC_choose 17 = .ok (.invokevirtual 146, 3) := by decide +kernel
theorem d_MC_choose_20 : decode b_MC_choose 20 = .ok (.aload_n 0, 1) := by decide +kernel
theorem d_MC_choose_21 : decode b_MC_choose 21 = .ok (.invokevirtual 237, 3) := by decide +kernel
theorem d_MC_choose_24 : decode b_MC_choose 24 = .ok (.aload_n 0, 1) := by decide +kernel
theorem d_MC_choose_25 : decode b_MC_choose 25 = .ok (.invokevirtual 196, 3) := by decide +kernel
theorem d_MC_choose_28 : decode b_MC_choose 28 = .ok (.aload_n 0, 1) := by decide +kernel
theorem d_MC_choose_29 : decode b_MC_choose 29 = .ok (.aload_n 0, 1) := by decide +kernel
theorem d_MC_choose_30 : decode b_MC_choose 30 = .ok (.getfield 104, 3) := by decide +kernel
theorem d_MC_choose_33 : decode b_MC_choose 33 = .ok (.iconst 1, 1) := by decide +kernel
theorem d_MC_choose_34 : decode b_MC_choose 34 = .ok (.isub, 1) := by decide +kernel
theorem d_MC_choose_35 : decode b_MC_choose 35 = .ok (.iconst 0, 1) := by decide +kernel
theorem d_MC_choose_36 : decode b_MC_choose 36 = .ok (.invokevirtual 224, 3) := by decide +kernel
theorem d_MC_choose_39 : decode b_MC_choose 39 = .ok (.aload_n 0, 1) := by decide +kernel
theorem d_MC_choose_40 : decode b_MC_choose 40 = .ok (.invokevirtual 218, 3) := by decide +kernel
theorem d_MC_choose_43 : decode b_MC_choose 43 = .ok (.aload_n 0, 1) := by decide +kernel
theorem d_MC_choose_44 : decode b_MC_choose 44 = .ok (.aload_n 0, 1) := by decide +kernel
theorem d_MC_choose_45 : decode b_MC_choose 45 = .ok (.getfield 137, 3) := by decide +kernel
theorem d_MC_choose_48 : decode b_MC_choose 48 = .ok (.ifCond .ne 7, 3) := by decide +kernel
theorem d_MC_choose_51 : decode b_MC_choose 51 = .ok (.iconst 1, 1) := by decide +kernel
theorem d_MC_choose_52 : decode b_MC_choose 52 = .ok (.goto 4, 3) := by decide +kernel
theorem d_MC_choose_55 : decode b_MC_choose 55 = .ok (.iconst 0, 1) := by decide +kernel
theorem d_MC_choose_56 : decode b_MC_choose 56 = .ok (.putfield 240, 3) := by decide +kernel
theorem d_MC_choose_59 : decode b_MC_choose 59 = .ok (.return_, 1) := by decide +kernel
theorem d_MC_open_0 : decode b_MC_open 0 = .ok (.iload_n 1, 1) := by decide +kernel
theorem d_MC_open_1 : decode b_MC_open 1 = .ok (.iconst 4, 1) := by decide +kernel
theorem d_MC_open_2 : decode b_MC_open 2 = .ok (.if_icmp .ne 9, 3) := by decide +kernel
theorem d_MC_open_5 : decode b_MC_open 5 = .ok (.aload_n 0, 1) := by decide +kernel
theorem d_MC_open_6 : decode b_MC_open 6 = .ok (.bipush 127, 2) := by decide +kernel
theorem d_MC_open_8 : decode b_MC_open 8 = .ok (.invokevirtual 153, 3) := by decide +kernel
theorem d_MC_open_11 : decode b_MC_open 11 = .ok (.iload_n 2, 1) := by decide +kernel
theorem d_MC_open_12 : decode b_MC_open 12 = .ok (.ifCond .lt 9, 3) := by decide +kernel
theorem d_MC_open_15 : decode b_MC_open 15 = .ok (.aload_n 0, 1) := by decide +kernel
theorem d_MC_open_16 : decode b_MC_open 16 = .ok (.iload_n 2, 1) := by decide +kernel
theorem d_MC_open_17 : decode b_MC_open 17 = .ok (.iconst 0, 1) := by decide +kernel
theorem d_MC_open_18 : decode b_MC_open 18 = .ok (.invokevirtual 231, 3) := by decide +kernel
theorem d_MC_open_21 : decode b_MC_open 21 = .ok (.aload_n 0, 1) := by decide +kernel
theorem d_MC_open_22 : decode b_MC_open 22 = .ok (.invokevirtual 215, 3) := by decide +kernel
theorem d_MC_open_25 : decode b_MC_open 25 = .ok (.aload_n 0, 1) := by decide +kernel
theorem d_MC_open_26 : decode b_MC_open 26 = .ok (.getfield 104, 3) := by decide +kernel
theorem d_MC_open_29 : decode b_MC_open 29 = .ok (.bipush 60, 2) := by decide +kernel
theorem d_MC_open_31 : decode b_MC_open 31 = .ok (.if_icmp .ne 9, 3) := by decide +kernel
theorem d_MC_open_34 : decode b_MC_open 34 = .ok (.aload_n 0, 1) := by decide +kernel
theorem d_MC_open_35 : decode b_MC_open 35 = .ok (.bipush 15, 2) := by decide +kernel
theorem d_MC_open_37 : decode b_MC_open 37 = .ok (.invokevirtual 146, 3) := by decide +kernel
theorem d_MC_open_40 : decode b_MC_open 40 = .ok (.aload_n 0, 1) := by decide +kernel
theorem d_MC_open_41 : decode b_MC_open 41 = .ok (.getfield 137, 3) := by decide +kernel
theorem d_MC_open_44 : decode b_MC_open 44 = .ok (.ifCond .le 4, 3) := by decide +kernel
theorem d_MC_open_47 : decode b_MC_open 47 = .ok (.return_, 1) := by decide +kernel
theorem d_MC_open_48 : decode b_MC_open 48 = .ok (.aload_n 0, 1) := by decide +kernel
theorem d_MC_open_49 : decode b_MC_open 49 = .ok (.getfield 48, 3) := by decide +kernel
theorem d_MC_open_52 : decode b_MC_open 52 = .ok (.aload_n 0, 1) := by decide +kernel
theorem d_MC_open_53 : decode b_MC_open 53 = .ok (.getfield 104, 3) := by decide +kernel
theorem d_MC_open_56 : decode b_MC_open 56 = .ok (.iload_n 1, 1) := by decide +kernel
theorem d_MC_open_57 : decode b_MC_open 57 = .ok (.iastore, 1) := by decide +kernel
theorem d_MC_open_58 : decode b_MC_open 58 = .ok (.aload_n 0, 1) := by decide +kernel
theorem d_MC_open_59 : decode b_MC_open 59 = .ok (.getfield 51, 3) := by decide +kernel
theorem d_MC_open_62 : decode b_MC_open 62 = .ok (.aload_n 0, 1) := by decide +kernel
theorem d_MC_open_63 : decode b_MC_open 63 = .ok (.getfield 104, 3) := by decide +kernel
theorem d_MC_open_66 : decode b_MC_open 66 = .ok (.iload_n 2, 1) := by decide +kernel
theorem d_MC_open_67 : decode b_MC_open 67 = .ok (.iastore, 1) := by decide +kernel
theorem d_MC_open_68 : decode b_MC_open 68 = .ok (.aload_n 0, 1) := by decide +kernel
theorem d_MC_open_69 : decode b_MC_open 69 = .ok (.getfield 54, 3) := by decide +kernel
theorem d_MC_open_72 : decode b_MC_open 72 = .ok (.aload_n 0, 1) := by decide +kernel
theorem d_MC_open_73 : decode b_MC_open 73 = .ok (.getfield 104, 3) := by decide +kernel
theorem d_MC_open_76 : decode b_MC_open 76 = .ok (.aload_n 0, 1) := by decide +kernel
theorem d_MC_open_77 : decode b_MC_open 77 = .ok (.getfield 143, 3) := by decide +kernel
theorem d_MC_open_80 : decode b_MC_open 80 = .ok (.iastore, 1) := by decide +kernel
theorem d_MC_open_81 : decode b_MC_open 81 = .ok (.aload_n 0, 1) := by decide +kernel
theorem d_MC_open_82 : decode b_MC_open 82 = .ok (.getfield 57, 3) := by decide +kernel
theorem d_MC_open_85 : decode b_MC_open 85 = .ok (.aload_n 0, 1) := by decide +kernel
theorem d_MC_open_86 : decode b_MC_open 86 = .ok (.getfield 104, 3) := by decide +kernel
theorem d_MC_open_89 : decode b_MC_open 89 = .ok (.iconst 0, 1) := by decide +kernel
theorem d_MC_open_90 : decode b_MC_open 90 = .ok (.bastore, 1) := by decide +kernel
theorem d_MC_open_91 : decode b_MC_open 91 = .ok (.aload_n 0, 1) := by decide +kernel
theorem d_MC_open_92 : decode b_MC_open 92 = .ok (.invokevirtual 218, 3) := by decide +kernel
theorem d_MC_open_95 : decode b_MC_open 95 = .ok (.aload_n 0, 1) := by decide +kernel
theorem d_MC_open_96 : decode b_MC_open 96 = .ok (.iconst 1, 1) := by decide +kernel
theorem d_MC_open_97 : decode b_MC_open 97 = .ok (.putfield 234, 3) := by decide +kernel
theorem d_MC_open_100 : decode b_MC_open 100 = .ok (.return_, 1) := by decide +kernel
theorem d_MC_named_0 : decode b_MC_named 0 = .ok (.iload_n 1, 1) := by decide +kernel
theorem d_MC_named_1 : decode b_MC_named 1 = .ok (.tableswitch 175 26 37 #[63, 71, 78, 175, 175, 175, 93, 105, 117, 134, 147, 160], 63) := by decide +kernel
theorem d_MC_named_64 : decode b_MC_named 64 = .ok (.aload_n 0, 1) := by decide +kernel
theorem d_MC_named_65 : decode b_MC_named 65 = .ok (.iconst (-1), 1) := by decide +kernel
theorem d_MC_named_66 : decode b_MC_named 66 = .ok (.invokevirtual 153, 3) := by decide +kernel
theorem d_MC_named_69 : decode b_MC_named 69 = .ok (.goto 119, 3) := by decide +kernel
theorem d_MC_named_72 : decode b_MC_named 72 = .ok (.aload_n 0, 1) := by decide +kernel
theorem d_MC_named_73 : decode b_MC_named 73 = .ok (.invokevirtual 246, 3) := by decide +kernel
theorem d_MC_named_76 : decode b_MC_named 76 = .ok (.goto 112, 3) := by decide +kernel
theorem d_MC_named_79 : decode b_MC_named 79 = .ok (.aload_n 0, 1) := by decide +kernel
theorem d_MC_named_80 : decode b_MC_named 80 = .ok (.bipush 127, 2) := by decide +kernel
theorem d_MC_named_82 : decode b_MC_named 82 = .ok (.invokevirtual 153, 3) := by decide +kernel
theorem d_MC_named_85 : decode b_MC_named 85 = .ok (.aload_n 0, 1) := by decide +kernel
theorem d_MC_named_86 : decode b_MC_named 86 = .ok (.iload_n 2, 1) := by decide +kernel
theorem d_MC_named_87 : decode b_MC_named 87 = .ok (.iload_n 2, 1) := by decide +kernel
theorem d_MC_named_88 : decode b_MC_named 88 = .ok (.invokevirtual 249, 3) := by decide +kernel
theorem d_MC_named_91 : decode b_MC_named 91 = .ok (.goto 97, 3) := by decide +kernel
theorem d_MC_named_94 : decode b_MC_named 94 = .ok (.aload_n 0, 1) := by decide +kernel
theorem d_MC_named_95 : decode b_MC_named 95 = .ok (.aload_n 0, 1) := by decide +kernel
theorem d_MC_named_96 : decode b_MC_named 96 = .ok (.iload_n 2, 1) := by decide +kernel
theorem d_MC_named_97 : decode b_MC_named 97 = .ok (.invokevirtual 185, 3) := by decide +kernel
theorem d_MC_named_100 : decode b_MC_named 100 = .ok (.invokevirtual 169, 3) := by decide +kernel
theorem d_MC_named_103 : decode b_MC_named 103 = .ok (.goto 85, 3) := by decide +kernel
theorem d_MC_named_106 : decode b_MC_named 106 = .ok (.aload_n 0, 1) := by decide +kernel
theorem d_MC_named_107 : decode b_MC_named 107 = .ok (.aload_n 0, 1) := by decide +kernel
theorem d_MC_named_108 : decode b_MC_named 108 = .ok (.iload_n 2, 1) := by decide +kernel
theorem d_MC_named_109 : decode b_MC_named 109 = .ok (.invokevirtual 185, 3) := by decide +kernel
theorem d_MC_named_112 : decode b_MC_named 112 = .ok (.invokevirtual 153, 3) := by decide +kernel
theorem d_MC_named_115 : decode b_MC_named 115 = .ok (.goto 73, 3) := by decide +kernel
theorem d_MC_named_118 : decode b_MC_named 118 = .ok (.aload_n 0, 1) := by decide +kernel
theorem d_MC_named_119 : decode b_MC_named 119 = .ok (.aload_n 0, 1) := by decide +kernel
theorem d_MC_named_120 : decode b_MC_named 120 = .ok (.iload_n 2, 1) := by decide +kernel
theorem d_MC_named_121 : decode b_MC_named 121 = .ok (.invokevirtual 185, 3) := by decide +kernel
theorem d_MC_named_124 : decode b_MC_named 124 = .ok (.aload_n 0, 1) := by decide +kernel
theorem d_MC_named_125 : decode b_MC_named 125 = .ok (.iload_n 2, 1) := by decide +kernel
theorem d_MC_named_126 : decode b_MC_named 126 = .ok (.invokevirtual 185, 3) := by decide +kernel
theorem d_MC_named_129 : decode b_MC_named 129 = .ok (.invokevirtual 252, 3) := by decide +kernel
theorem d_MC_named_132 : decode b_MC_named 132 = .ok (.goto 56, 3) := by decide +kernel
theorem d_MC_named_135 : decode b_MC_named 135 = .ok (.aload_n 0, 1) := by decide +kernel
theorem d_MC_named_136 : decode b_MC_named 136 = .ok (.aload_n 0, 1) := by decide +kernel
theorem d_MC_named_137 : decode b_MC_named 137 = .ok (.iconst 3, 1) := by decide +kernel
theorem d_MC_named_138 : decode b_MC_named 138 = .ok (.iload_n 2, 1) := by decide +kernel
theorem d_MC_named_139 : decode b_MC_named 139 = .ok (.invokevirtual 188, 3) := by decide +kernel
theorem d_MC_named_142 : decode b_MC_named 142 = .ok (.invokevirtual 169, 3) := by decide +kernel
theorem d_MC_named_145 : decode b_MC_named 145 = .ok (.goto 43, 3) := by decide +kernel
theorem d_MC_named_148 : decode b_MC_named 148 = .ok (.aload_n 0, 1) := by decide +kernel
theorem d_MC_named_149 : decode b_MC_named 149 = .ok (.aload_n 0, 1) := by decide +kernel
theorem d_MC_named_150 : decode b_MC_named 150 = .ok (.iconst 3, 1) := by decide +kernel
theorem d_MC_named_151 : decode b_MC_named 151 = .ok (.iload_n 2, 1) := by decide +kernel
theorem d_MC_named_152 : decode b_MC_named 152 = .ok (.invokevirtual 188, 3) := by decide +kernel
theorem d_MC_named_155 : decode b_MC_named 155 = .ok (.invokevirtual 153, 3) := by decide +kernel
theorem d_MC_named_158 : decode b_MC_named 158 = .ok (.goto 30, 3) := by decide +kernel
theorem d_MC_named_161 : decode b_MC_named 161 = .ok (.aload_n 0, 1) := by decide +kernel
theorem d_MC_named_162 : decode b_MC_named 162 = .ok (.bipush 127, 2) := by decide +kernel
theorem d_MC_named_164 : decode b_MC_named 164 = .ok (.aload_n 0, 1) := by decide +kernel
theorem d_MC_named_165 : decode b_MC_named 165 = .ok (.iconst 1, 1) := by decide +kernel
theorem d_MC_named_166 : decode b_MC_named 166 = .ok (.iload_n 2, 1) := by decide +kernel
theorem d_MC_named_167 : decode b_MC_named 167 = .ok (.invokevirtual 188, 3) := by decide +kernel
theorem d_MC_named_170 : decode b_MC_named 170 = .ok (.invokevirtual 252, 3) := by decide +kernel
theorem d_MC_named_173 : decode b_MC_named 173 = .ok (.goto 15, 3) := by decide +kernel
theorem d_MC_named_176 : decode b_MC_named 176 = .ok (.aload_n 0, 1) := by decide +kernel
theorem d_MC_named_177 : decode b_MC_named 177 = .ok (.bipush 127, 2) := by decide +kernel
theorem d_MC_named_179 : decode b_MC_named 179 = .ok (.aload_n 0, 1) := by decide +kernel
theorem d_MC_named_180 : decode b_MC_named 180 = .ok (.iconst 1, 1) := by decide +kernel
theorem d_MC_named_181 : decode b_MC_named 181 = .ok (.iload_n 2, 1) := by decide +kernel
theorem d_MC_named_182 : decode b_MC_named 182 = .ok (.invokevirtual 188, 3) := by decide +kernel
theorem d_MC_named_185 : decode b_MC_named 185 = .ok (.invokevirtual 255, 3) := by decide +kernel
theorem d_MC_named_188 : decode b_MC_named 188 = .ok (.return_, 1) := by decide +kernel
theorem d_MC_one_0 : decode b_MC_one 0 = .ok (.aload_n 0, 1) := by decide +kernel
theorem d_MC_one_1 : decode b_MC_one 1 = .ok (.iload_n 1, 1) := by decide +kernel
theorem d_MC_one_2 : decode b_MC_one 2 = .ok (.invokevirtual 153, 3) := by decide +kernel
theorem d_MC_one_5 : decode b_MC_one 5 = .ok (.aload_n 0, 1) := by decide +kernel
theorem d_MC_one_6 : decode b_MC_one 6 = .ok (.iload_n 2, 1) := by decide +kernel
theorem d_MC_one_7 : decode b_MC_one 7 = .ok (.invokevirtual 169, 3) := by decide +kernel
theorem d_MC_one_10 : decode b_MC_one 10 = .ok (.return_, 1) := by decide +kernel
theorem d_MC_takeTwo_0 : decode b_MC_takeTwo 0 = .ok (.aload_n 0, 1) := by decide +kernel
theorem d_MC_takeTwo_1 : decode b_MC_takeTwo 1 = .ok (.iload_n 2, 1) := by decide +kernel
theorem d_MC_takeTwo_2 : decode b_MC_takeTwo 2 = .ok (.invokevirtual 153, 3) := by decide +kernel
theorem d_MC_takeTwo_5 : decode b_MC_takeTwo 5 = .ok (.aload_n 0, 1) := by decide +kernel
theorem d_MC_takeTwo_6 : decode b_MC_takeTwo 6 = .ok (.iload_n 1, 1) := by decide +kernel
theorem d_MC_takeTwo_7 : decode b_MC_takeTwo 7 = .ok (.invokevirtual 153, 3) := by decide +kernel
theorem d_MC_takeTwo_10 : decode b_MC_takeTwo 10 = .ok (.return_, 1) := by decide +kernel
theorem d_MC_two_0 : decode b_MC_two 0 = .ok (.aload_n 0, 1) := by decide +kernel
theorem d_MC_two_1 : decode b_MC_two 1 = .ok (.iload_n 1, 1) := by decide +kernel
theorem d_MC_two_2 : decode b_MC_two 2 = .ok (.invokevirtual 153, 3) := by decide +kernel
theorem d_MC_two_5 : decode b_MC_two 5 = .ok (.aload_n 0, 1) := by decide +kernel
theorem d_MC_two_6 : decode b_MC_two 6 = .ok (.iload_n 1, 1) := by decide +kernel
theorem d_MC_two_7 : decode b_MC_two 7 = .ok (.invokevirtual 153, 3) := by decide +kernel
theorem d_MC_two_10 : decode b_MC_two 10 = .ok (.aload_n 0, 1) := by decide +kernel
theorem d_MC_two_11 : decode b_MC_two 11 = .ok (.iload_n 2, 1) := by decide +kernel
theorem d_MC_two_12 : decode b_MC_two 12 = .ok (.invokevirtual 169, 3) := by decide +kernel
theorem d_MC_two_15 : decode b_MC_two 15 = .ok (.return_, 1) := by decide +kernel
theorem d_MC_choice_0 : decode b_MC_choice 0 = .ok (.aload_n 0, 1) := by decide +kernel
theorem d_MC_choice_1 : decode b_MC_choice 1 = .ok (.bipush 127, 2) := by decide +kernel
theorem d_MC_choice_3 : decode b_MC_choice 3 = .ok (.invokevirtual 153, 3) := by decide +kernel
theorem d_MC_choice_6 : decode b_MC_choice 6 = .ok (.aload_n 0, 1) := by decide +kernel
theorem d_MC_choice_7 : decode b_MC_choice 7 = .ok (.iconst (-1), 1) := by decide +kernel
theorem d_MC_choice_8 : decode b_MC_choice 8 = .ok (.invokevirtual 153, 3) := by decide +kernel
theorem d_MC_choice_11 : decode b_MC_choice 11 = .ok (.aload_n 0, 1) := by decide +kernel
theorem d_MC_choice_12 : decode b_MC_choice 12 = .ok (.getfield 140, 3) := by decide +kernel
theorem d_MC_choice_15 : decode b_MC_choice 15 = .ok (.istore_n 1, 1) := by decide +kernel
theorem d_MC_choice_16 : decode b_MC_choice 16 = .ok (.aload_n 0, 1) := by decide +kernel
theorem d_MC_choice_17 : decode b_MC_choice 17 = .ok (.iconst (-1), 1) := by decide +kernel
theorem d_MC_choice_18 : decode b_MC_choice 18 = .ok (.invokevirtual 153, 3) := by decide +kernel
theorem d_MC_choice_21 : decode b_MC_choice 21 = .ok (.aload_n 0, 1) := by decide +kernel
theorem d_MC_choice_22 : decode b_MC_choice 22 = .ok (.getfield 140, 3) := by decide +kernel
theorem d_MC_choice_25 : decode b_MC_choice 25 = .ok (.istore_n 2, 1) := by decide +kernel
theorem d_MC_choice_26 : decode b_MC_choice 26 = .ok (.iload_n 1, 1) := by decide +kernel
theorem d_MC_choice_27 : decode b_MC_choice 27 = .ok (.invokestatic 69, 3) := by decide +kernel
theorem d_MC_choice_30 : decode b_MC_choice 30 = .ok (.ifCond .ne 10, 3) := by decide +kernel
theorem d_MC_choice_33 : decode b_MC_choice 33 = .ok (.iload_n 2, 1) := by decide +kernel
theorem d_MC_choice_34 : decode b_MC_choice 34 = .ok (.invokestatic 69, 3) := by decide +kernel
theorem d_MC_choice_37 : decode b_MC_choice 37 = .ok (.ifCond .eq 9, 3) := by decide +kernel
theorem d_MC_choice_40 : decode b_MC_choice 40 = .ok (.aload_n 0, 1) := by decide +kernel
theorem d_MC_choice_41 : decode b_MC_choice 41 = .ok (.bipush 7, 2) := by decide +kernel
theorem d_MC_choice_43 : decode b_MC_choice 43 = .ok (.invokevirtual 146, 3) := by decide +kernel
theorem d_MC_choice_46 : decode b_MC_choice 46 = .ok (.iload_n 1, 1) := by decide +kernel
theorem d_MC_choice_47 : decode b_MC_choice 47 = .ok (.ifCond .eq 17, 3) := by decide +kernel
theorem d_MC_choice_50 : decode b_MC_choice 50 = .ok (.iload_n 2, 1) := by decide +kernel
theorem d_MC_choice_51 : decode b_MC_choice 51 = .ok (.ifCond .eq 13, 3) := by decide +kernel
theorem d_MC_choice_54 : decode b_MC_choice 54 = .ok (.iload_n 1, 1) := by decide +kernel
theorem d_MC_choice_55 : decode b_MC_choice 55 = .ok (.iload_n 2, 1) := by decide +kernel
theorem d_MC_choice_56 : decode b_MC_choice 56 = .ok (.if_icmp .eq 8, 3) := by decide +kernel
theorem d_MC_choice_59 : decode b_MC_choice 59 = .ok (.aload_n 0, 1) := by decide +kernel
theorem d_MC_choice_60 : decode b_MC_choice 60 = .ok (.iconst 1, 1) := by decide +kernel
theorem d_MC_choice_61 : decode b_MC_choice 61 = .ok (.invokevirtual 146, 3) := by decide +kernel
theorem d_MC_choice_64 : decode b_MC_choice 64 = .ok (.aload_n 0, 1) := by decide +kernel
theorem d_MC_choice_65 : decode b_MC_choice 65 = .ok (.iload_n 1, 1) := by decide +kernel
theorem d_MC_choice_66 : decode b_MC_choice 66 = .ok (.ifCond .ne 7, 3) := by decide +kernel
theorem d_MC_choice_69 : decode b_MC_choice 69 = .ok (.iload_n 2, 1) := by decide +kernel
theorem d_MC_choice_70 : decode b_MC_choice 70 = .ok (.goto 4, 3) := by decide +kernel
theorem d_MC_choice_73 : decode b_MC_choice 73 = .ok (.iload_n 1, 1) := by decide +kernel
theorem d_MC_choice_74 : decode b_MC_choice 74 = .ok (.invokevirtual 169, 3) := by decide +kernel
theorem d_MC_choice_77 : decode b_MC_choice 77 = .ok (.return_, 1) := by decide +kernel
theorem d_MC_memory_0 : decode b_MC_memory 0 = .ok (.iload_n 1, 1) := by decide +kernel
theorem d_MC_memory_1 : decode b_MC_memory 1 = .ok (.bipush 54, 2) := by decide +kernel
theorem d_MC_memory_3 : decode b_MC_memory 3 = .ok (.if_icmp .ge 59, 3) := by decide +kernel
theorem d_MC_memory_6 : decode b_MC_memory 6 = .ok (.aload_n 0, 1) := by decide +kernel
theorem d_MC_memory_7 : decode b_MC_memory 7 = .ok (.bipush 127, 2) := by decide +kernel
theorem d_MC_memory_9 : decode b_MC_memory 9 = .ok (.iload_n 1, 1) := by decide +kernel
theorem d_MC_memory_10 : decode b_MC_memory 10 = .ok (.bipush 40, 2) := by decide +kernel
theorem d_MC_memory_12 : decode b_MC_memory 12 = .ok (.if_icmp .eq 15, 3) := by decide +kernel
theorem d_MC_memory_15 : decode b_MC_memory 15 = .ok (.iload_n 1, 1) := by decide +kernel
theorem d_MC_memory_16 : decode b_MC_memory 16 = .ok (.bipush 44, 2) := by decide +kernel
theorem d_MC_memory_18 : decode b_MC_memory 18 = .ok (.if_icmp .lt 14, 3) := by decide +kernel
theorem d_MC_memory_21 : decode b_MC_memory 21 = .ok (.iload_n 1, 1) := by decide +kernel
theorem d_MC_memory_22 : decode b_MC_memory 22 = .ok (.bipush 47, 2) := by decide +kernel
theorem d_MC_memory_24 : decode b_MC_memory 24 = .ok (.if_icmp .gt 8, 3) := by decide +kernel
theorem d_MC_memory_27 : decode b_MC_memory 27 = .ok (.bipush 127, 2) := by decide +kernel
theorem d_MC_memory_29 : decode b_MC_memory 29 = .ok (.goto 27, 3) := by decide +kernel
theorem d_MC_memory_32 : decode b_MC_memory 32 = .ok (.iload_n 1, 1) := by decide +kernel
theorem d_MC_memory_33 : decode b_MC_memory 33 = .ok (.bipush 42, 2) := by decide +kernel
theorem d_MC_memory_35 : decode b_MC_memory 35 = .ok (.if_icmp .ne 8, 3) := by decide +kernel
theorem d_MC_memory_38 : decode b_MC_memory 38 = .ok (.bipush 125, 2) := by decide +kernel
theorem d_MC_memory_40 : decode b_MC_memory 40 = .ok (.goto 16, 3) := by decide +kernel
theorem d_MC_memory_43 : decode b_MC_memory 43 = .ok (.iload_n 1, 1) := by decide +kernel
theorem d_MC_memory_44 : decode b_MC_memory 44 = .ok (.bipush 43, 2) := by decide +kernel
theorem d_MC_memory_46 : decode b_MC_memory 46 = .ok (.if_icmp .ne 8, 3) := by decide +kernel
theorem d_MC_memory_49 : decode b_MC_memory 49 = .ok (.bipush 124, 2) := by decide +kernel
theorem d_MC_memory_51 : decode b_MC_memory 51 = .ok (.goto 5, 3) := by decide +kernel
theorem d_MC_memory_54 : decode b_MC_memory 54 = .ok (.bipush 126, 2) := by decide +kernel
theorem d_MC_memory_56 : decode b_MC_memory 56 = .ok (.invokevirtual 252, 3) := by decide +kernel
theorem d_MC_memory_59 : decode b_MC_memory 59 = .ok (.goto 136, 3) := by decide +kernel
theorem d_MC_memory_62 : decode b_MC_memory 62 = .ok (.iload_n 1, 1) := by decide +kernel
theorem d_MC_memory_63 : decode b_MC_memory 63 = .ok (.bipush 63, 2) := by decide +kernel
theorem d_MC_memory_65 : decode b_MC_memory 65 = .ok (.if_icmp .ge 59, 3) := by decide +kernel
theorem d_MC_memory_68 : decode b_MC_memory 68 = .ok (.aload_n 0, 1) := by decide +kernel
theorem d_MC_memory_69 : decode b_MC_memory 69 = .ok (.bipush 127, 2) := by decide +kernel
theorem d_MC_memory_71 : decode b_MC_memory 71 = .ok (.iload_n 1, 1) := by decide +kernel
theorem d_MC_memory_72 : decode b_MC_memory 72 = .ok (.bipush 54, 2) := by decide +kernel
theorem d_MC_memory_74 : decode b_MC_memory 74 = .ok (.if_icmp .eq 15, 3) := by decide +kernel
theorem d_MC_memory_77 : decode b_MC_memory 77 = .ok (.iload_n 1, 1) := by decide +kernel
theorem d_MC_memory_78 : decode b_MC_memory 78 = .ok (.bipush 58, 2) := by decide +kernel
theorem d_MC_memory_80 : decode b_MC_memory 80 = .ok (.if_icmp .eq 9, 3) := by decide +kernel
theorem d_MC_memory_83 : decode b_MC_memory 83 = .ok (.iload_n 1, 1) := by decide +kernel
theorem d_MC_memory_84 : decode b_MC_memory 84 = .ok (.bipush 59, 2) := by decide +kernel
theorem d_MC_memory_86 : decode b_MC_memory 86 = .ok (.if_icmp .ne 8, 3) := by decide +kernel
theorem d_MC_memory_89 : decode b_MC_memory 89 = .ok (.bipush 127, 2) := by decide +kernel
theorem d_MC_memory_91 : decode b_MC_memory 91 = .ok (.goto 27, 3) := by decide +kernel
theorem d_MC_memory_94 : decode b_MC_memory 94 = .ok (.iload_n 1, 1) := by decide +kernel
theorem d_MC_memory_95 : decode b_MC_memory 95 = .ok (.bipush 56, 2) := by decide +kernel
theorem d_MC_memory_97 : decode b_MC_memory 97 = .ok (.if_icmp .ne 8, 3) := by decide +kernel
theorem d_MC_memory_100 : decode b_MC_memory 100 = .ok (.bipush 125, 2) := by decide +kernel
theorem d_MC_memory_102 : decode b_MC_memory 102 = .ok (.goto 16, 3) := by decide +kernel
theorem d_MC_memory_105 : decode b_MC_memory 105 = .ok (.iload_n 1, 1) := by decide +kernel
theorem d_MC_memory_106 : decode b_MC_memory 106 = .ok (.bipush 57, 2) := by decide +kernel
theorem d_MC_memory_108 : decode b_MC_memory 108 = .ok (.if_icmp .ne 8, 3) := by decide +kernel
theorem d_MC_memory_111 : decode b_MC_memory 111 = .ok (.bipush 124, 2) := by decide +kernel
theorem d_MC_memory_113 : decode b_MC_memory 113 = .ok (.goto 5, 3) := by decide +kernel
theorem d_MC_memory_116 : decode b_MC_memory 116 = .ok (.bipush 126, 2) := by decide +kernel
theorem d_MC_memory_118 : decode b_MC_memory 118 = .ok (.invokevirtual 255, 3) := by decide +kernel
theorem d_MC_memory_121 : decode b_MC_memory 121 = .ok (.goto 74, 3) := by decide +kernel
theorem d_MC_memory_124 : decode b_MC_memory 124 = .ok (.iload_n 1, 1) := by decide +kernel
theorem d_MC_memory_125 : decode b_MC_memory 125 = .ok (.bipush 63, 2) := by decide +kernel
theorem d_MC_memory_127 : decode b_MC_memory 127 = .ok (.if_icmp .ne 12, 3) := by decide +kernel
theorem d_MC_memory_130 : decode b_MC_memory 130 = .ok (.aload_n 0, 1) := by decide +kernel
theorem d_MC_memory_131 : decode b_MC_memory 131 = .ok (.bipush 127, 2) := by decide +kernel
theorem d_MC_memory_133 : decode b_MC_memory 133 = .ok (.invokevirtual 169, 3) := by decide +kernel
theorem d_MC_memory_136 : decode b_MC_memory 136 = .ok (.goto 59, 3) := by decide +kernel
theorem d_MC_memory_139 : decode b_MC_memory 139 = .ok (.iload_n 1, 1) := by decide +kernel
theorem d_MC_memory_140 : decode b_MC_memory 140 = .ok (.bipush 64, 2) := by decide +kernel
theorem d_MC_memory_142 : decode b_MC_memory 142 = .ok (.if_icmp .ne 14, 3) := by decide +kernel
theorem d_MC_memory_145 : decode b_MC_memory 145 = .ok (.aload_n 0, 1) := by decide +kernel
theorem d_MC_memory_146 : decode b_MC_memory 146 = .ok (.bipush 127, 2) := by decide +kernel
theorem d_MC_memory_148 : decode b_MC_memory 148 = .ok (.bipush 127, 2) := by decide +kernel
theorem d_MC_memory_150 : decode b_MC_memory 150 = .ok (.invokevirtual 252, 3) := by decide +kernel
theorem d_MC_memory_153 : decode b_MC_memory 153 = .ok (.goto 42, 3) := by decide +kernel
theorem d_MC_memory_156 : decode b_MC_memory 156 = .ok (.aload_n 0, 1) := by decide +kernel
theorem d_MC_memory_157 : decode b_MC_memory 157 = .ok (.iload_n 1, 1) := by decide +kernel
theorem d_MC_memory_158 : decode b_MC_memory 158 = .ok (.bipush 65, 2) := by decide +kernel
theorem d_MC_memory_160 : decode b_MC_memory 160 = .ok (.if_icmp .ne 8, 3) := by decide +kernel
theorem d_MC_memory_163 : decode b_MC_memory 163 = .ok (.bipush 127, 2) := by decide +kernel
theorem d_MC_memory_165 : decode b_MC_memory 165 = .ok (.goto 27, 3) := by decide +kernel
theorem d_MC_memory_168 : decode b_MC_memory 168 = .ok (.iload_n 1, 1) := by decide +kernel
theorem d_MC_memory_169 : decode b_MC_memory 169 = .ok (.bipush 66, 2) := by decide +kernel
theorem d_MC_memory_171 : decode b_MC_memory 171 = .ok (.if_icmp .ne 8, 3) := by decide +kernel
theorem d_MC_memory_174 : decode b_MC_memory 174 = .ok (.bipush 126, 2) := by decide +kernel
theorem d_MC_memory_176 : decode b_MC_memory 176 = .ok (.goto 16, 3) := by decide +kernel
theorem d_MC_memory_179 : decode b_MC_memory 179 = .ok (.iload_n 1, 1) := by decide +kernel
theorem d_MC_memory_180 : decode b_MC_memory 180 = .ok (.bipush 67, 2) := by decide +kernel
theorem d_MC_memory_182 : decode b_MC_memory 182 = .ok (.if_icmp .ne 8, 3) := by decide +kernel
theorem d_MC_memory_185 : decode b_MC_memory 185 = .ok (.bipush 125, 2) := by decide +kernel
theorem d_MC_memory_187 : decode b_MC_memory 187 = .ok (.goto 5, 3) := by decide +kernel
theorem d_MC_memory_190 : decode b_MC_memory 190 = .ok (.bipush 124, 2) := by decide +kernel
theorem d_MC_memory_192 : decode b_MC_memory 192 = .ok (.invokevirtual 169, 3) := by decide +kernel
theorem d_MC_memory_195 : decode b_MC_memory 195 = .ok (.return_, 1) := by decide +kernel
theorem d_MC_other_0 : decode b_MC_other 0 = .ok (.iload_n 1, 1) := by decide +kernel
theorem d_MC_other_1 : decode b_MC_other 1 = .ok (.lookupswitch 183 #[(208, 75), (209, 83), (210, 120), (265, 129), (269, 129), (271, 132), (272, 153), (273, 162)], 75) := by decide +kernel
theorem d_MC_other_76 : decode b_MC_other 76 = .ok (.aload_n 0, 1) := by decide +kernel
theorem d_MC_other_77 : decode b_MC_other 77 = .ok (.iload_n 2, 1) := by decide +kernel
theorem d_MC_other_78 : decode b_MC_other 78 = .ok (.invokevirtual 169, 3) := by decide +kernel
theorem d_MC_other_81 : decode b_MC_other 81 = .ok (.goto 107, 3) := by decide +kernel
theorem d_MC_other_84 : decode b_MC_other 84 = .ok (.aload_n 0, 1) := by decide +kernel
theorem d_MC_other_85 : decode b_MC_other 85 = .ok (.iconst (-1), 1) := by decide +kernel
theorem d_MC_other_86 : decode b_MC_other 86 = .ok (.invokevirtual 153, 3) := by decide +kernel
theorem d_MC_other_89 : decode b_MC_other 89 = .ok (.aload_n 0, 1) := by decide +kernel
theorem d_MC_other_90 : decode b_MC_other 90 = .ok (.getfield 140, 3) := by decide +kernel
theorem d_MC_other_93 : decode b_MC_other 93 = .ok (.ifCond .eq 19, 3) := by decide +kernel
theorem d_MC_other_96 : decode b_MC_other 96 = .ok (.aload_n 0, 1) := by decide +kernel
theorem d_MC_other_97 : decode b_MC_other 97 = .ok (.getfield 140, 3) := by decide +kernel
theorem d_MC_other_100 : decode b_MC_other 100 = .ok (.invokestatic 69, 3) := by decide +kernel
theorem d_MC_other_103 : decode b_MC_other 103 = .ok (.ifCond .ne 9, 3) := by decide +kernel
theorem d_MC_other_106 : decode b_MC_other 106 = .ok (.aload_n 0, 1) := by decide +kernel
theorem d_MC_other_107 : decode b_MC_other 107 = .ok (.bipush 7, 2) := by decide +kernel
theorem d_MC_other_109 : decode b_MC_other 109 = .ok (.invokevirtual 146, 3) := by decide +kernel
theorem d_MC_other_112 : decode b_MC_other 112 = .ok (.aload_n 0, 1) := by decide +kernel
theorem d_MC_other_113 : decode b_MC_other 113 = .ok (.bipush 127, 2) := by decide +kernel
theorem d_MC_other_115 : decode b_MC_other 115 = .ok (.invokevirtual 169, 3) := by decide +kernel
theorem d_MC_other_118 : decode b_MC_other 118 = .ok (.goto 70, 3) := by decide +kernel
theorem d_MC_other_121 : decode b_MC_other 121 = .ok (.aload_n 0, 1) := by decide +kernel
theorem d_MC_other_122 : decode b_MC_other 122 = .ok (.bipush 112, 2) := by decide +kernel
theorem d_MC_other_124 : decode b_MC_other 124 = .ok (.invokevirtual 169, 3) := by decide +kernel
theorem d_MC_other_127 : decode b_MC_other 127 = .ok (.goto 61, 3) := by decide +kernel
theorem d_MC_other_130 : decode b_MC_other 130 = .ok (.goto 58, 3) := by decide +kernel
theorem d_MC_other_133 : decode b_MC_other 133 = .ok (.aload_n 0, 1) := by decide +kernel
theorem d_MC_other_134 : decode b_MC_other 134 = .ok (.aload_n 0, 1) := by decide +kernel
theorem d_MC_other_135 : decode b_MC_other 135 = .ok (.iconst 1, 1) := by decide +kernel
theorem d_MC_other_136 : decode b_MC_other 136 = .ok (.iload_n 2, 1) := by decide +kernel
theorem d_MC_other_137 : decode b_MC_other 137 = .ok (.invokevirtual 188, 3) := by decide +kernel
theorem d_MC_other_140 : decode b_MC_other 140 = .ok (.bipush 127, 2) := by decide +kernel
theorem d_MC_other_142 : decode b_MC_other 142 = .ok (.invokevirtual 255, 3) := by decide +kernel
theorem d_MC_other_145 : decode b_MC_other 145 = .ok (.aload_n 0, 1) := by decide +kernel
theorem d_MC_other_146 : decode b_MC_other 146 = .ok (.bipush 127, 2) := by decide +kernel
theorem d_MC_other_148 : decode b_MC_other 148 = .ok (.invokevirtual 169, 3) := by decide +kernel
theorem d_MC_other_151 : decode b_MC_other 151 = .ok (.goto 37, 3) := by decide +kernel
theorem d_MC_other_154 : decode b_MC_other 154 = .ok (.aload_n 0, 1) := by decide +kernel
theorem d_MC_other_155 : decode b_MC_other 155 = .ok (.bipush 127, 2) := by decide +kernel
theorem d_MC_other_157 : decode b_MC_other 157 = .ok (.invokevirtual 169, 3) := by decide +kernel
theorem d_MC_other_160 : decode b_MC_other 160 = .ok (.goto 28, 3) := by decide +kernel
theorem d_MC_other_163 : decode b_MC_other 163 = .ok (.aload_n 0, 1) := by decide +kernel
theorem d_MC_other_164 : decode b_MC_other 164 = .ok (.bipush 127, 2) := by decide +kernel
theorem d_MC_other_166 : decode b_MC_other 166 = .ok (.invokevirtual 153, 3) := by decide +kernel
theorem d_MC_other_169 : decode b_MC_other 169 = .ok (.aload_n 0, 1) := by decide +kernel
theorem d_MC_other_170 : decode b_MC_other 170 = .ok (.bipush 127, 2) := by decide +kernel
theorem d_MC_other_172 : decode b_MC_other 172 = .ok (.aload_n 0, 1) := by decide +kernel
theorem d_MC_other_173 : decode b_MC_other 173 = .ok (.iconst 1, 1) := by decide +kernel
theorem d_MC_other_174 : decode b_MC_other 174 = .ok (.iload_n 2, 1) := by decide +kernel
theorem d_MC_other_175 : decode b_MC_other 175 = .ok (.invokevirtual 188, 3) := by decide +kernel
theorem d_MC_other_178 : decode b_MC_other 178 = .ok (.invokevirtual 255, 3) := by decide +kernel
theorem d_MC_other_181 : decode b_MC_other 181 = .ok (.goto 7, 3) := by decide +kernel
theorem d_MC_other_184 : decode b_MC_other 184 = .ok (.aload_n 0, 1) := by decide +kernel
theorem d_MC_other_185 : decode b_MC_other 185 = .ok (.invokevirtual 268, 3) := by decide +kernel
theorem d_MC_other_188 : decode b_MC_other 188 = .ok (.return_, 1) := by decide +kernel
theorem d_MC_takeThree_0 : decode b_MC_takeThree 0 = .ok (.aload_n 0, 1) := by decide +kernel
theorem d_MC_takeThree_1 : decode b_MC_takeThree 1 = .ok (.bipush 127, 2) := by decide +kernel
theorem d_MC_takeThree_3 : decode b_MC_takeThree 3 = .ok (.invokevirtual 153, 3) := by decide +kernel
theorem d_MC_takeThree_6 : decode b_MC_takeThree 6 = .ok (.aload_n 0, 1) := by decide +kernel
theorem d_MC_takeThree_7 : decode b_MC_takeThree 7 = .ok (.bipush 127, 2) := by decide +kernel
theorem d_MC_takeThree_9 : decode b_MC_takeThree 9 = .ok (.invokevirtual 153, 3) := by decide +kernel
theorem d_MC_takeThree_12 : decode b_MC_takeThree 12 = .ok (.aload_n 0, 1) := by decide +kernel
theorem d_MC_takeThree_13 : decode b_MC_takeThree 13 = .ok (.bipush 127, 2) := by decide +kernel
theorem d_MC_takeThree_15 : decode b_MC_takeThree 15 = .ok (.invokevirtual 153, 3) := by decide +kernel
theorem d_MC_takeThree_18 : decode b_MC_takeThree 18 = .ok (.return_, 1) := by decide +kernel
theorem d_MC_number_0 : decode b_MC_number 0 = .ok (.iload_n 1, 1) := by decide +kernel
theorem d_MC_number_1 : decode b_MC_number 1 = .ok (.bipush 69, 2) := by decide +kernel
theorem d_MC_number_3 : decode b_MC_number 3 = .ok (.if_icmp .ne 14, 3) := by decide +kernel
theorem d_MC_number_6 : decode b_MC_number 6 = .ok (.aload_n 0, 1) := by decide +kernel
theorem d_MC_number_7 : decode b_MC_number 7 = .ok (.bipush 127, 2) := by decide +kernel
theorem d_MC_number_9 : decode b_MC_number 9 = .ok (.bipush 127, 2) := by decide +kernel
theorem d_MC_number_11 : decode b_MC_number 11 = .ok (.invokevirtual 252, 3) := by decide +kernel
theorem d_MC_number_14 : decode b_MC_number 14 = .ok (.goto 209, 3) := by decide +kernel
theorem d_MC_number_17 : decode b_MC_number 17 = .ok (.iload_n 1, 1) := by decide +kernel
theorem d_MC_number_18 : decode b_MC_number 18 = .ok (.bipush 80, 2) := by decide +kernel
theorem d_MC_number_20 : decode b_MC_number 20 = .ok (.if_icmp .ge 14, 3) := by decide +kernel
theorem d_MC_number_23 : decode b_MC_number 23 = .ok (.aload_n 0, 1) := by decide +kernel
theorem d_MC_number_24 : decode b_MC_number 24 = .ok (.bipush 127, 2) := by decide +kernel
theorem d_MC_number_26 : decode b_MC_number 26 = .ok (.bipush 127, 2) := by decide +kernel
theorem d_MC_number_28 : decode b_MC_number 28 = .ok (.invokevirtual 249, 3) := by decide +kernel
theorem d_MC_number_31 : decode b_MC_number 31 = .ok (.goto 192, 3) := by decide +kernel
theorem d_MC_number_34 : decode b_MC_number 34 = .ok (.iload_n 1, 1) := by decide +kernel
theorem d_MC_number_35 : decode b_MC_number 35 = .ok (.bipush 80, 2) := by decide +kernel
theorem d_MC_number_37 : decode b_MC_number 37 = .ok (.if_icmp .ne 14, 3) := by decide +kernel
theorem d_MC_number_40 : decode b_MC_number 40 = .ok (.aload_n 0, 1) := by decide +kernel
theorem d_MC_number_41 : decode b_MC_number 41 = .ok (.bipush 126, 2) := by decide +kernel
theorem d_MC_number_43 : decode b_MC_number 43 = .ok (.bipush 127, 2) := by decide +kernel
theorem d_MC_number_45 : decode b_MC_number 45 = .ok (.invokevirtual 252, 3) := by decide +kernel
theorem d_MC_number_48 : decode b_MC_number 48 = .ok (.goto 175, 3) := by decide +kernel
theorem d_MC_number_51 : decode b_MC_number 51 = .ok (.iload_n 1, 1) := by decide +kernel
theorem d_MC_number_52 : decode b_MC_number 52 = .ok (.bipush 91, 2) := by decide +kernel
theorem d_MC_number_54 : decode b_MC_number 54 = .ok (.if_icmp .ge 14, 3) := by decide +kernel
theorem d_MC_number_57 : decode b_MC_number 57 = .ok (.aload_n 0, 1) := by decide +kernel
theorem d_MC_number_58 : decode b_MC_number 58 = .ok (.bipush 126, 2) := by decide +kernel
theorem d_MC_number_60 : decode b_MC_number 60 = .ok (.bipush 127, 2) := by decide +kernel
theorem d_MC_number_62 : decode b_MC_number 62 = .ok (.invokevirtual 249, 3) := by decide +kernel
theorem d_MC_number_65 : decode b_MC_number 65 = .ok (.goto 158, 3) := by decide +kernel
theorem d_MC_number_68 : decode b_MC_number 68 = .ok (.iload_n 1, 1) := by decide +kernel
theorem d_MC_number_69 : decode b_MC_number 69 = .ok (.bipush 97, 2) := by decide +kernel
theorem d_MC_number_71 : decode b_MC_number 71 = .ok (.if_icmp .ge 14, 3) := by decide +kernel
theorem d_MC_number_74 : decode b_MC_number 74 = .ok (.aload_n 0, 1) := by decide +kernel
theorem d_MC_number_75 : decode b_MC_number 75 = .ok (.bipush 125, 2) := by decide +kernel
theorem d_MC_number_77 : decode b_MC_number 77 = .ok (.bipush 127, 2) := by decide +kernel
theorem d_MC_number_79 : decode b_MC_number 79 = .ok (.invokevirtual 249, 3) := by decide +kernel
theorem d_MC_number_82 : decode b_MC_number 82 = .ok (.goto 141, 3) := by decide +kernel
theorem d_MC_number_85 : decode b_MC_number 85 = .ok (.iload_n 1, 1) := by decide +kernel
theorem d_MC_number_86 : decode b_MC_number 86 = .ok (.bipush 103, 2) := by decide +kernel
theorem d_MC_number_88 : decode b_MC_number 88 = .ok (.if_icmp .ge 14, 3) := by decide +kernel
theorem d_MC_number_91 : decode b_MC_number 91 = .ok (.aload_n 0, 1) := by decide +kernel
theorem d_MC_number_92 : decode b_MC_number 92 = .ok (.bipush 124, 2) := by decide +kernel
theorem d_MC_number_94 : decode b_MC_number 94 = .ok (.bipush 127, 2) := by decide +kernel
theorem d_MC_number_96 : decode b_MC_number 96 = .ok (.invokevirtual 249, 3) := by decide +kernel
theorem d_MC_number_99 : decode b_MC_number 99 = .ok (.goto 124, 3) := by decide +kernel
theorem d_MC_number_102 : decode b_MC_number 102 = .ok (.iload_n 1, 1) := by decide +kernel
theorem d_MC_number_103 : decode b_MC_number 103 = .ok (.bipush 121, 2) := by decide +kernel
theorem d_MC_number_105 : decode b_MC_number 105 = .ok (.if_icmp .ge 23, 3) := by decide +kernel
theorem d_MC_number_108 : decode b_MC_number 108 = .ok (.aload_n 0, 1) := by decide +kernel
theorem d_MC_number_109 : decode b_MC_number 109 = .ok (.iload_n 1, 1) := by decide +kernel
theorem d_MC_number_110 : decode b_MC_number 110 = .ok (.bipush 106, 2) := by decide +kernel
theorem d_MC_number_112 : decode b_MC_number 112 = .ok (.if_icmp .ge 7, 3) := by decide +kernel
theorem d_MC_number_115 : decode b_MC_number 115 = .ok (.iconst 1, 1) := by decide +kernel
theorem d_MC_number_116 : decode b_MC_number 116 = .ok (.goto 4, 3) := by decide +kernel
theorem d_MC_number_119 : decode b_MC_number 119 = .ok (.iconst 0, 1) := by decide +kernel
theorem d_MC_number_120 : decode b_MC_number 120 = .ok (.bipush 127, 2) := by decide +kernel
theorem d_MC_number_122 : decode b_MC_number 122 = .ok (.invokevirtual 258, 3) := by decide +kernel
theorem d_MC_number_125 : decode b_MC_number 125 = .ok (.goto 98, 3) := by decide +kernel
theorem d_MC_number_128 : decode b_MC_number 128 = .ok (.iload_n 1, 1) := by decide +kernel
theorem d_MC_number_129 : decode b_MC_number 129 = .ok (.sipush 139, 3) := by decide +kernel
theorem d_MC_number_132 : decode b_MC_number 132 = .ok (.if_icmp .ge 23, 3) := by decide +kernel
theorem d_MC_number_135 : decode b_MC_number 135 = .ok (.aload_n 0, 1) := by decide +kernel
theorem d_MC_number_136 : decode b_MC_number 136 = .ok (.iload_n 1, 1) := by decide +kernel
theorem d_MC_number_137 : decode b_MC_number 137 = .ok (.bipush 124, 2) := by decide +kernel
theorem d_MC_number_139 : decode b_MC_number 139 = .ok (.if_icmp .ge 7, 3) := by decide +kernel
theorem d_MC_number_142 : decode b_MC_number 142 = .ok (.iconst 1, 1) := by decide +kernel
theorem d_MC_number_143 : decode b_MC_number 143 = .ok (.goto 4, 3) := by decide +kernel
theorem d_MC_number_146 : decode b_MC_number 146 = .ok (.iconst 0, 1) := by decide +kernel
theorem d_MC_number_147 : decode b_MC_number 147 = .ok (.bipush 126, 2) := by decide +kernel
theorem d_MC_number_149 : decode b_MC_number 149 = .ok (.invokevirtual 258, 3) := by decide +kernel
theorem d_MC_number_152 : decode b_MC_number 152 = .ok (.goto 71, 3) := by decide +kernel
theorem d_MC_number_155 : decode b_MC_number 155 = .ok (.iload_n 1, 1) := by decide +kernel
theorem d_MC_number_156 : decode b_MC_number 156 = .ok (.sipush 153, 3) := by decide +kernel
theorem d_MC_number_159 : decode b_MC_number 159 = .ok (.if_icmp .ge 24, 3) := by decide +kernel
