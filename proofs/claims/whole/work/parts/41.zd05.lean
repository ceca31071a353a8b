theorem d_MC_add_146 : decode b_MC_add 146 = .ok (.iload_n 1, 1) := by decide +kernel
theorem d_MC_add_147 : decode b_MC_add 147 = .ok (.iaload, 1) := by decide +kernel
theorem d_MC_add_148 : decode b_MC_add 148 = .ok (.iconst 1, 1) := by decide +kernel
theorem d_MC_add_149 : decode b_MC_add 149 = .ok (.isub, 1) := by decide +kernel
theorem d_MC_add_150 : decode b_MC_add 150 = .ok (.ireturn, 1) := by decide +kernel
theorem d_MC_declare_0 : decode b_MC_declare 0 = .ok (.iload_n 1, 1) := by decide +kernel
theorem d_MC_declare_1 : decode b_MC_declare 1 = .ok (.ifCond .lt 13, 3) := by decide +kernel
theorem d_MC_declare_4 : decode b_MC_declare 4 = .ok (.iload_n 1, 1) := by decide +kernel
theorem d_MC_declare_5 : decode b_MC_declare 5 = .ok (.aload_n 0, 1) := by decide +kernel
theorem d_MC_declare_6 : decode b_MC_declare 6 = .ok (.getfield 22, 3) := by decide +kernel
theorem d_MC_declare_9 : decode b_MC_declare 9 = .ok (.iconst 0, 1) := by decide +kernel
theorem d_MC_declare_10 : decode b_MC_declare 10 = .ok (.iaload, 1) := by decide +kernel
theorem d_MC_declare_11 : decode b_MC_declare 11 = .ok (.if_icmp .lt 5, 3) := by decide +kernel
theorem d_MC_declare_14 : decode b_MC_declare 14 = .ok (.iconst 0, 1) := by decide +kernel
theorem d_MC_declare_15 : decode b_MC_declare 15 = .ok (.ireturn, 1) := by decide +kernel
theorem d_MC_declare_16 : decode b_MC_declare 16 = .ok (.aload_n 0, 1) := by decide +kernel
theorem d_MC_declare_17 : decode b_MC_declare 17 = .ok (.getfield 31, 3) := by decide +kernel
theorem d_MC_declare_20 : decode b_MC_declare 20 = .ok (.iload_n 1, 1) := by decide +kernel
theorem d_MC_declare_21 : decode b_MC_declare 21 = .ok (.iconst 1, 1) := by decide +kernel
theorem d_MC_declare_22 : decode b_MC_declare 22 = .ok (.bastore, 1) := by decide +kernel
theorem d_MC_declare_23 : decode b_MC_declare 23 = .ok (.iconst 1, 1) := by decide +kernel
theorem d_MC_declare_24 : decode b_MC_declare 24 = .ok (.ireturn, 1) := by decide +kernel
theorem d_MC_begin_0 : decode b_MC_begin 0 = .ok (.iload_n 1, 1) := by decide +kernel
theorem d_MC_begin_1 : decode b_MC_begin 1 = .ok (.ifCond .lt 11, 3) := by decide +kernel
theorem d_MC_begin_4 : decode b_MC_begin 4 = .ok (.iload_n 1, 1) := by decide +kernel
theorem d_MC_begin_5 : decode b_MC_begin 5 = .ok (.aload_n 0, 1) := by decide +kernel
theorem d_MC_begin_6 : decode b_MC_begin 6 = .ok (.getfield 73, 3) := by decide +kernel
theorem d_MC_begin_9 : decode b_MC_begin 9 = .ok (.if_icmp .lt 5, 3) := by decide +kernel
theorem d_MC_begin_12 : decode b_MC_begin 12 = .ok (.iconst 0, 1) := by decide +kernel
theorem d_MC_begin_13 : decode b_MC_begin 13 = .ok (.ireturn, 1) := by decide +kernel
theorem d_MC_begin_14 : decode b_MC_begin 14 = .ok (.aload_n 0, 1) := by decide +kernel
theorem d_MC_begin_15 : decode b_MC_begin 15 = .ok (.iconst 1, 1) := by decide +kernel
theorem d_MC_begin_16 : decode b_MC_begin 16 = .ok (.invokevirtual 107, 3) := by decide +kernel
theorem d_MC_begin_19 : decode b_MC_begin 19 = .ok (.aload_n 0, 1) := by decide +kernel
theorem d_MC_begin_20 : decode b_MC_begin 20 = .ok (.iload_n 1, 1) := by decide +kernel
theorem d_MC_begin_21 : decode b_MC_begin 21 = .ok (.putfield 111, 3) := by decide +kernel
theorem d_MC_begin_24 : decode b_MC_begin 24 = .ok (.iconst 0, 1) := by decide +kernel
theorem d_MC_begin_25 : decode b_MC_begin 25 = .ok (.istore_n 2, 1) := by decide +kernel
theorem d_MC_begin_26 : decode b_MC_begin 26 = .ok (.iload_n 2, 1) := by decide +kernel
theorem d_MC_begin_27 : decode b_MC_begin 27 = .ok (.aload_n 0, 1) := by decide +kernel
theorem d_MC_begin_28 : decode b_MC_begin 28 = .ok (.getfield 7, 3) := by decide +kernel
theorem d_MC_begin_31 : decode b_MC_begin 31 = .ok (.iload_n 1, 1) := by decide +kernel
theorem d_MC_begin_32 : decode b_MC_begin 32 = .ok (.iaload, 1) := by decide +kernel
theorem d_MC_begin_33 : decode b_MC_begin 33 = .ok (.if_icmp .ge 25, 3) := by decide +kernel
theorem d_MC_begin_36 : decode b_MC_begin 36 = .ok (.aload_n 0, 1) := by decide +kernel
theorem d_MC_begin_37 : decode b_MC_begin 37 = .ok (.aload_n 0, 1) := by decide +kernel
theorem d_MC_begin_38 : decode b_MC_begin 38 = .ok (.getfield 16, 3) := by decide +kernel
theorem d_MC_begin_41 : decode b_MC_begin 41 = .ok (.bipush 12, 2) := by decide +kernel
theorem d_MC_begin_43 : decode b_MC_begin 43 = .ok (.iload_n 1, 1) := by decide +kernel
theorem d_MC_begin_44 : decode b_MC_begin 44 = .ok (.imul, 1) := by decide +kernel
theorem d_MC_begin_45 : decode b_MC_begin 45 = .ok (.iload_n 2, 1) := by decide +kernel
theorem d_MC_begin_46 : decode b_MC_begin 46 = .ok (.iadd, 1) := by decide +kernel
theorem d_MC_begin_47 : decode b_MC_begin 47 = .ok (.iaload, 1) := by decide +kernel
theorem d_MC_begin_48 : decode b_MC_begin 48 = .ok (.lconst 1, 1) := by decide +kernel
theorem d_MC_begin_49 : decode b_MC_begin 49 = .ok (.invokevirtual 114, 3) := by decide +kernel
theorem d_MC_begin_52 : decode b_MC_begin 52 = .ok (.iinc 2 1, 3) := by decide +kernel
theorem d_MC_begin_55 : decode b_MC_begin 55 = .ok (.goto (-29), 3) := by decide +kernel
theorem d_MC_begin_58 : decode b_MC_begin 58 = .ok (.iconst 1, 1) := by decide +kernel
theorem d_MC_begin_59 : decode b_MC_begin 59 = .ok (.ireturn, 1) := by decide +kernel
theorem d_MC_beginCode_0 : decode b_MC_beginCode 0 = .ok (.aload_n 0, 1) := by decide +kernel
theorem d_MC_beginCode_1 : decode b_MC_beginCode 1 = .ok (.iload_n 1, 1) := by decide +kernel
theorem d_MC_beginCode_2 : decode b_MC_beginCode 2 = .ok (.putfield 85, 3) := by decide +kernel
theorem d_MC_beginCode_5 : decode b_MC_beginCode 5 = .ok (.aload_n 0, 1) := by decide +kernel
theorem d_MC_beginCode_6 : decode b_MC_beginCode 6 = .ok (.iconst 0, 1) := by decide +kernel
theorem d_MC_beginCode_7 : decode b_MC_beginCode 7 = .ok (.putfield 89, 3) := by decide +kernel
theorem d_MC_beginCode_10 : decode b_MC_beginCode 10 = .ok (.aload_n 0, 1) := by decide +kernel
theorem d_MC_beginCode_11 : decode b_MC_beginCode 11 = .ok (.iconst 1, 1) := by decide +kernel
theorem d_MC_beginCode_12 : decode b_MC_beginCode 12 = .ok (.putfield 80, 3) := by decide +kernel
theorem d_MC_beginCode_15 : decode b_MC_beginCode 15 = .ok (.aload_n 0, 1) := by decide +kernel
theorem d_MC_beginCode_16 : decode b_MC_beginCode 16 = .ok (.iconst 0, 1) := by decide +kernel
theorem d_MC_beginCode_17 : decode b_MC_beginCode 17 = .ok (.putfield 92, 3) := by decide +kernel
theorem d_MC_beginCode_20 : decode b_MC_beginCode 20 = .ok (.aload_n 0, 1) := by decide +kernel
theorem d_MC_beginCode_21 : decode b_MC_beginCode 21 = .ok (.iconst 0, 1) := by decide +kernel
theorem d_MC_beginCode_22 : decode b_MC_beginCode 22 = .ok (.putfield 95, 3) := by decide +kernel
theorem d_MC_beginCode_25 : decode b_MC_beginCode 25 = .ok (.aload_n 0, 1) := by decide +kernel
theorem d_MC_beginCode_26 : decode b_MC_beginCode 26 = .ok (.iconst 0, 1) := by decide +kernel
theorem d_MC_beginCode_27 : decode b_MC_beginCode 27 = .ok (.putfield 98, 3) := by decide +kernel
theorem d_MC_beginCode_30 : decode b_MC_beginCode 30 = .ok (.aload_n 0, 1) := by decide +kernel
theorem d_MC_beginCode_31 : decode b_MC_beginCode 31 = .ok (.iconst 0, 1) := by decide +kernel
theorem d_MC_beginCode_32 : decode b_MC_beginCode 32 = .ok (.putfield 101, 3) := by decide +kernel
theorem d_MC_beginCode_35 : decode b_MC_beginCode 35 = .ok (.aload_n 0, 1) := by decide +kernel
theorem d_MC_beginCode_36 : decode b_MC_beginCode 36 = .ok (.iconst 1, 1) := by decide +kernel
theorem d_MC_beginCode_37 : decode b_MC_beginCode 37 = .ok (.putfield 104, 3) := by decide +kernel
theorem d_MC_beginCode_40 : decode b_MC_beginCode 40 = .ok (.aload_n 0, 1) := by decide +kernel
theorem d_MC_beginCode_41 : decode b_MC_beginCode 41 = .ok (.getfield 48, 3) := by decide +kernel
theorem d_MC_beginCode_44 : decode b_MC_beginCode 44 = .ok (.iconst 0, 1) := by decide +kernel
theorem d_MC_beginCode_45 : decode b_MC_beginCode 45 = .ok (.iconst (-1), 1) := by decide +kernel
theorem d_MC_beginCode_46 : decode b_MC_beginCode 46 = .ok (.iastore, 1) := by decide +kernel
theorem d_MC_beginCode_47 : decode b_MC_beginCode 47 = .ok (.aload_n 0, 1) := by decide +kernel
theorem d_MC_beginCode_48 : decode b_MC_beginCode 48 = .ok (.getfield 54, 3) := by decide +kernel
theorem d_MC_beginCode_51 : decode b_MC_beginCode 51 = .ok (.iconst 0, 1) := by decide +kernel
theorem d_MC_beginCode_52 : decode b_MC_beginCode 52 = .ok (.iconst 0, 1) := by decide +kernel
theorem d_MC_beginCode_53 : decode b_MC_beginCode 53 = .ok (.iastore, 1) := by decide +kernel
theorem d_MC_beginCode_54 : decode b_MC_beginCode 54 = .ok (.aload_n 0, 1) := by decide +kernel
theorem d_MC_beginCode_55 : decode b_MC_beginCode 55 = .ok (.getfield 57, 3) := by decide +kernel
theorem d_MC_beginCode_58 : decode b_MC_beginCode 58 = .ok (.iconst 0, 1) := by decide +kernel
theorem d_MC_beginCode_59 : decode b_MC_beginCode 59 = .ok (.iconst 0, 1) := by decide +kernel
theorem d_MC_beginCode_60 : decode b_MC_beginCode 60 = .ok (.bastore, 1) := by decide +kernel
theorem d_MC_beginCode_61 : decode b_MC_beginCode 61 = .ok (.return_, 1) := by decide +kernel
theorem d_MC_addRow_0 : decode b_MC_addRow 0 = .ok (.aload_n 0, 1) := by decide +kernel
theorem d_MC_addRow_1 : decode b_MC_addRow 1 = .ok (.getfield 35, 3) := by decide +kernel
theorem d_MC_addRow_4 : decode b_MC_addRow 4 = .ok (.aload_n 0, 1) := by decide +kernel
theorem d_MC_addRow_5 : decode b_MC_addRow 5 = .ok (.getfield 92, 3) := by decide +kernel
theorem d_MC_addRow_8 : decode b_MC_addRow 8 = .ok (.iload_n 1, 1) := by decide +kernel
theorem d_MC_addRow_9 : decode b_MC_addRow 9 = .ok (.iastore, 1) := by decide +kernel
theorem d_MC_addRow_10 : decode b_MC_addRow 10 = .ok (.aload_n 0, 1) := by decide +kernel
theorem d_MC_addRow_11 : decode b_MC_addRow 11 = .ok (.getfield 38, 3) := by decide +kernel
theorem d_MC_addRow_14 : decode b_MC_addRow 14 = .ok (.aload_n 0, 1) := by decide +kernel
theorem d_MC_addRow_15 : decode b_MC_addRow 15 = .ok (.getfield 92, 3) := by decide +kernel
theorem d_MC_addRow_18 : decode b_MC_addRow 18 = .ok (.lload_n 2, 1) := by decide +kernel
theorem d_MC_addRow_19 : decode b_MC_addRow 19 = .ok (.lastore, 1) := by decide +kernel
theorem d_MC_addRow_20 : decode b_MC_addRow 20 = .ok (.aload_n 0, 1) := by decide +kernel
theorem d_MC_addRow_21 : decode b_MC_addRow 21 = .ok (.dup, 1) := by decide +kernel
theorem d_MC_addRow_22 : decode b_MC_addRow 22 = .ok (.getfield 92, 3) := by decide +kernel
theorem d_MC_addRow_25 : decode b_MC_addRow 25 = .ok (.iconst 1, 1) := by decide +kernel
theorem d_MC_addRow_26 : decode b_MC_addRow 26 = .ok (.iadd, 1) := by decide +kernel
theorem d_MC_addRow_27 : decode b_MC_addRow 27 = .ok (.putfield 92, 3) := by decide +kernel
theorem d_MC_addRow_30 : decode b_MC_addRow 30 = .ok (.return_, 1) := by decide +kernel
theorem d_MC_constant_0 : decode b_MC_constant 0 = .ok (.iload_n 1, 1) := by decide +kernel
theorem d_MC_constant_1 : decode b_MC_constant 1 = .ok (.invokestatic 77, 3) := by decide +kernel
theorem d_MC_constant_4 : decode b_MC_constant 4 = .ok (.ifCond .eq 7, 3) := by decide +kernel
theorem d_MC_constant_7 : decode b_MC_constant 7 = .ok (.iload_n 2, 1) := by decide +kernel
theorem d_MC_constant_8 : decode b_MC_constant 8 = .ok (.ifCond .ge 5, 3) := by decide +kernel
theorem d_MC_constant_11 : decode b_MC_constant 11 = .ok (.iconst 0, 1) := by decide +kernel
theorem d_MC_constant_12 : decode b_MC_constant 12 = .ok (.ireturn, 1) := by decide +kernel
theorem d_MC_constant_13 : decode b_MC_constant 13 = .ok (.aload_n 0, 1) := by decide +kernel
theorem d_MC_constant_14 : decode b_MC_constant 14 = .ok (.iconst 0, 1) := by decide +kernel
theorem d_MC_constant_15 : decode b_MC_constant 15 = .ok (.invokevirtual 107, 3) := by decide +kernel
theorem d_MC_constant_18 : decode b_MC_constant 18 = .ok (.aload_n 0, 1) := by decide +kernel
theorem d_MC_constant_19 : decode b_MC_constant 19 = .ok (.iload_n 1, 1) := by decide +kernel
theorem d_MC_constant_20 : decode b_MC_constant 20 = .ok (.putfield 118, 3) := by decide +kernel
theorem d_MC_constant_23 : decode b_MC_constant 23 = .ok (.aload_n 0, 1) := by decide +kernel
theorem d_MC_constant_24 : decode b_MC_constant 24 = .ok (.iload_n 2, 1) := by decide +kernel
theorem d_MC_constant_25 : decode b_MC_constant 25 = .ok (.i2l, 1) := by decide +kernel
theorem d_MC_constant_26 : decode b_MC_constant 26 = .ok (.putfield 121, 3) := by decide +kernel
theorem d_MC_constant_29 : decode b_MC_constant 29 = .ok (.iconst 1, 1) := by decide +kernel
theorem d_MC_constant_30 : decode b_MC_constant 30 = .ok (.ireturn, 1) := by decide +kernel
theorem d_MC_local_0 : decode b_MC_local 0 = .ok (.aload_n 0, 1) := by decide +kernel
theorem d_MC_local_1 : decode b_MC_local 1 = .ok (.getfield 80, 3) := by decide +kernel
theorem d_MC_local_4 : decode b_MC_local 4 = .ok (.iconst 1, 1) := by decide +kernel
theorem d_MC_local_5 : decode b_MC_local 5 = .ok (.if_icmp .ne 33, 3) := by decide +kernel
theorem d_MC_local_8 : decode b_MC_local 8 = .ok (.aload_n 0, 1) := by decide +kernel
theorem d_MC_local_9 : decode b_MC_local 9 = .ok (.getfield 85, 3) := by decide +kernel
theorem d_MC_local_12 : decode b_MC_local 12 = .ok (.ifCond .eq 26, 3) := by decide +kernel
theorem d_MC_local_15 : decode b_MC_local 15 = .ok (.aload_n 0, 1) := by decide +kernel
theorem d_MC_local_16 : decode b_MC_local 16 = .ok (.getfield 89, 3) := by decide +kernel
theorem d_MC_local_19 : decode b_MC_local 19 = .ok (.ifCond .ne 19, 3) := by decide +kernel
theorem d_MC_local_22 : decode b_MC_local 22 = .ok (.iload_n 1, 1) := by decide +kernel
theorem d_MC_local_23 : decode b_MC_local 23 = .ok (.invokestatic 77, 3) := by decide +kernel
theorem d_MC_local_26 : decode b_MC_local 26 = .ok (.ifCond .eq 12, 3) := by decide +kernel
theorem d_MC_local_29 : decode b_MC_local 29 = .ok (.aload_n 0, 1) := by decide +kernel
theorem d_MC_local_30 : decode b_MC_local 30 = .ok (.getfield 95, 3) := by decide +kernel
theorem d_MC_local_33 : decode b_MC_local 33 = .ok (.bipush 40, 2) := by decide +kernel
theorem d_MC_local_35 : decode b_MC_local 35 = .ok (.if_icmp .ne 5, 3) := by decide +kernel
theorem d_MC_local_38 : decode b_MC_local 38 = .ok (.iconst 0, 1) := by decide +kernel
theorem d_MC_local_39 : decode b_MC_local 39 = .ok (.ireturn, 1) := by decide +kernel
theorem d_MC_local_40 : decode b_MC_local 40 = .ok (.aload_n 0, 1) := by decide +kernel
theorem d_MC_local_41 : decode b_MC_local 41 = .ok (.iload_n 1, 1) := by decide +kernel
theorem d_MC_local_42 : decode b_MC_local 42 = .ok (.iload_n 2, 1) := by decide +kernel
theorem d_MC_local_43 : decode b_MC_local 43 = .ok (.i2l, 1) := by decide +kernel
theorem d_MC_local_44 : decode b_MC_local 44 = .ok (.ldc2_w 83, 3) := by decide +kernel
theorem d_MC_local_47 : decode b_MC_local 47 = .ok (.land, 1) := by decide +kernel
theorem d_MC_local_48 : decode b_MC_local 48 = .ok (.invokevirtual 114, 3) := by decide +kernel
theorem d_MC_local_51 : decode b_MC_local 51 = .ok (.aload_n 0, 1) := by decide +kernel
theorem d_MC_local_52 : decode b_MC_local 52 = .ok (.dup, 1) := by decide +kernel
theorem d_MC_local_53 : decode b_MC_local 53 = .ok (.getfield 95, 3) := by decide +kernel
theorem d_MC_local_56 : decode b_MC_local 56 = .ok (.iconst 1, 1) := by decide +kernel
theorem d_MC_local_57 : decode b_MC_local 57 = .ok (.iadd, 1) := by decide +kernel
theorem d_MC_local_58 : decode b_MC_local 58 = .ok (.putfield 95, 3) := by decide +kernel
theorem d_MC_local_61 : decode b_MC_local 61 = .ok (.iconst 1, 1) := by decide +kernel
theorem d_MC_local_62 : decode b_MC_local 62 = .ok (.ireturn, 1) := by decide +kernel
theorem d_MC_label_0 : decode b_MC_label 0 = .ok (.aload_n 0, 1) := by decide +kernel
theorem d_MC_label_1 : decode b_MC_label 1 = .ok (.getfield 80, 3) := by decide +kernel
theorem d_MC_label_4 : decode b_MC_label 4 = .ok (.iconst 1, 1) := by decide +kernel
theorem d_MC_label_5 : decode b_MC_label 5 = .ok (.if_icmp .ne 12, 3) := by decide +kernel
theorem d_MC_label_8 : decode b_MC_label 8 = .ok (.aload_n 0, 1) := by decide +kernel
theorem d_MC_label_9 : decode b_MC_label 9 = .ok (.getfield 98, 3) := by decide +kernel
theorem d_MC_label_12 : decode b_MC_label 12 = .ok (.bipush 20, 2) := by decide +kernel
theorem d_MC_label_14 : decode b_MC_label 14 = .ok (.if_icmp .ne 5, 3) := by decide +kernel
theorem d_MC_label_17 : decode b_MC_label 17 = .ok (.iconst (-1), 1) := by decide +kernel
theorem d_MC_label_18 : decode b_MC_label 18 = .ok (.ireturn, 1) := by decide +kernel
theorem d_MC_label_19 : decode b_MC_label 19 = .ok (.aload_n 0, 1) := by decide +kernel
theorem d_MC_label_20 : decode b_MC_label 20 = .ok (.getfield 42, 3) := by decide +kernel
theorem d_MC_label_23 : decode b_MC_label 23 = .ok (.aload_n 0, 1) := by decide +kernel
theorem d_MC_label_24 : decode b_MC_label 24 = .ok (.getfield 98, 3) := by decide +kernel
theorem d_MC_label_27 : decode b_MC_label 27 = .ok (.iload_n 1, 1) := by decide +kernel
theorem d_MC_label_28 : decode b_MC_label 28 = .ok (.iastore, 1) := by decide +kernel
theorem d_MC_label_29 : decode b_MC_label 29 = .ok (.aload_n 0, 1) := by decide +kernel
theorem d_MC_label_30 : decode b_MC_label 30 = .ok (.dup, 1) := by decide +kernel
theorem d_MC_label_31 : decode b_MC_label 31 = .ok (.getfield 98, 3) := by decide +kernel
theorem d_MC_label_34 : decode b_MC_label 34 = .ok (.iconst 1, 1) := by decide +kernel
theorem d_MC_label_35 : decode b_MC_label 35 = .ok (.iadd, 1) := by decide +kernel
theorem d_MC_label_36 : decode b_MC_label 36 = .ok (.putfield 98, 3) := by decide +kernel
theorem d_MC_label_39 : decode b_MC_label 39 = .ok (.aload_n 0, 1) := by decide +kernel
theorem d_MC_label_40 : decode b_MC_label 40 = .ok (.getfield 98, 3) := by decide +kernel
theorem d_MC_label_43 : decode b_MC_label 43 = .ok (.ireturn, 1) := by decide +kernel
theorem d_MC_step_0 : decode b_MC_step 0 = .ok (.aload_n 0, 1) := by decide +kernel
theorem d_MC_step_1 : decode b_MC_step 1 = .ok (.getfield 80, 3) := by decide +kernel
theorem d_MC_step_4 : decode b_MC_step 4 = .ok (.iconst 1, 1) := by decide +kernel
theorem d_MC_step_5 : decode b_MC_step 5 = .ok (.if_icmp .eq 5, 3) := by decide +kernel
theorem d_MC_step_8 : decode b_MC_step 8 = .ok (.iconst (-1), 1) := by decide +kernel
theorem d_MC_step_9 : decode b_MC_step 9 = .ok (.ireturn, 1) := by decide +kernel
theorem d_MC_step_10 : decode b_MC_step 10 = .ok (.aload_n 0, 1) := by decide +kernel
theorem d_MC_step_11 : decode b_MC_step 11 = .ok (.iconst 0, 1) := by decide +kernel
theorem d_MC_step_12 : decode b_MC_step 12 = .ok (.putfield 137, 3) := by decide +kernel
theorem d_MC_step_15 : decode b_MC_step 15 = .ok (.aload_n 0, 1) := by decide +kernel
theorem d_MC_step_16 : decode b_MC_step 16 = .ok (.aload_n 0, 1) := by decide +kernel
theorem d_MC_step_17 : decode b_MC_step 17 = .ok (.getfield 101, 3) := by decide +kernel
theorem d_MC_step_20 : decode b_MC_step 20 = .ok (.putfield 143, 3) := by decide +kernel
theorem d_MC_step_23 : decode b_MC_step 23 = .ok (.iconst 0, 1) := by decide +kernel
theorem d_MC_step_24 : decode b_MC_step 24 = .ok (.istore 4, 2) := by decide +kernel
theorem d_MC_step_26 : decode b_MC_step 26 = .ok (.iload 4, 2) := by decide +kernel
theorem d_MC_step_28 : decode b_MC_step 28 = .ok (.aload_n 0, 1) := by decide +kernel
theorem d_MC_step_29 : decode b_MC_step 29 = .ok (.getfield 101, 3) := by decide +kernel
theorem d_MC_step_32 : decode b_MC_step 32 = .ok (.if_icmp .ge 23, 3) := by decide +kernel
theorem d_MC_step_35 : decode b_MC_step 35 = .ok (.aload_n 0, 1) := by decide +kernel
theorem d_MC_step_36 : decode b_MC_step 36 = .ok (.getfield 60, 3) := by decide +kernel
theorem d_MC_step_39 : decode b_MC_step 39 = .ok (.iload 4, 2) := by decide +kernel
theorem d_MC_step_41 : decode b_MC_step 41 = .ok (.aload_n 0, 1) := by decide +kernel
theorem d_MC_step_42 : decode b_MC_step 42 = .ok (.getfield 45, 3) := by decide +kernel
theorem d_MC_step_45 : decode b_MC_step 45 = .ok (.iload 4, 2) := by decide +kernel
theorem d_MC_step_47 : decode b_MC_step 47 = .ok (.iaload, 1) := by decide +kernel
theorem d_MC_step_48 : decode b_MC_step 48 = .ok (.iastore, 1) := by decide +kernel
theorem d_MC_step_49 : decode b_MC_step 49 = .ok (.iinc 4 1, 3) := by decide +kernel
theorem d_MC_step_52 : decode b_MC_step 52 = .ok (.goto (-26), 3) := by decide +kernel
theorem d_MC_step_55 : decode b_MC_step 55 = .ok (.aload_n 0, 1) := by decide +kernel
theorem d_MC_step_56 : decode b_MC_step 56 = .ok (.iconst 0, 1) := by decide +kernel
theorem d_MC_step_57 : decode b_MC_step 57 = .ok (.putfield 150, 3) := by decide +kernel
theorem d_MC_step_60 : decode b_MC_step 60 = .ok (.aload_n 0, 1) := by decide +kernel
theorem d_MC_step_61 : decode b_MC_step 61 = .ok (.iconst 0, 1) := by decide +kernel
theorem d_MC_step_62 : decode b_MC_step 62 = .ok (.putfield 234, 3) := by decide +kernel
theorem d_MC_step_65 : decode b_MC_step 65 = .ok (.aload_n 0, 1) := by decide +kernel
theorem d_MC_step_66 : decode b_MC_step 66 = .ok (.iconst 0, 1) := by decide +kernel
theorem d_MC_step_67 : decode b_MC_step 67 = .ok (.putfield 243, 3) := by decide +kernel
theorem d_MC_step_70 : decode b_MC_step 70 = .ok (.aload_n 0, 1) := by decide +kernel
theorem d_MC_step_71 : decode b_MC_step 71 = .ok (.iconst 0, 1) := by decide +kernel
theorem d_MC_step_72 : decode b_MC_step 72 = .ok (.putfield 240, 3) := by decide +kernel
theorem d_MC_step_75 : decode b_MC_step 75 = .ok (.aload_n 0, 1) := by decide +kernel
theorem d_MC_step_76 : decode b_MC_step 76 = .ok (.iload_n 1, 1) := by decide +kernel
theorem d_MC_step_77 : decode b_MC_step 77 = .ok (.iload_n 2, 1) := by decide +kernel
theorem d_MC_step_78 : decode b_MC_step 78 = .ok (.iload_n 3, 1) := by decide +kernel
theorem d_MC_step_79 : decode b_MC_step 79 = .ok (.invokevirtual 300, 3) := by decide +kernel
theorem d_MC_step_82 : decode b_MC_step 82 = .ok (.aload_n 0, 1) := by decide +kernel
theorem d_MC_step_83 : decode b_MC_step 83 = .ok (.getfield 137, 3) := by decide +kernel
theorem d_MC_step_86 : decode b_MC_step 86 = .ok (.ifCond .ne 10, 3) := by decide +kernel
theorem d_MC_step_89 : decode b_MC_step 89 = .ok (.aload_n 0, 1) := by decide +kernel
theorem d_MC_step_90 : decode b_MC_step 90 = .ok (.iload_n 1, 1) := by decide +kernel
theorem d_MC_step_91 : decode b_MC_step 91 = .ok (.iload_n 2, 1) := by decide +kernel
theorem d_MC_step_92 : decode b_MC_step 92 = .ok (.iload_n 3, 1) := by decide +kernel
theorem d_MC_step_93 : decode b_MC_step 93 = .ok (.invokevirtual 303, 3) := by decide +kernel
theorem d_MC_step_96 : decode b_MC_step 96 = .ok (.aload_n 0, 1) := by decide +kernel
theorem d_MC_step_97 : decode b_MC_step 97 = .ok (.getfield 137, 3) := by decide +kernel
theorem d_MC_step_100 : decode b_MC_step 100 = .ok (.ifCond .le 13, 3) := by decide +kernel
theorem d_MC_step_103 : decode b_MC_step 103 = .ok (.aload_n 0, 1) := by decide +kernel
theorem d_MC_step_104 : decode b_MC_step 104 = .ok (.iconst 0, 1) := by decide +kernel
theorem d_MC_step_105 : decode b_MC_step 105 = .ok (.putfield 80, 3) := by decide +kernel
theorem d_MC_step_108 : decode b_MC_step 108 = .ok (.aload_n 0, 1) := by decide +kernel
theorem d_MC_step_109 : decode b_MC_step 109 = .ok (.getfield 137, 3) := by decide +kernel
theorem d_MC_step_112 : decode b_MC_step 112 = .ok (.ireturn, 1) := by decide +kernel
theorem d_MC_step_113 : decode b_MC_step 113 = .ok (.aload_n 0, 1) := by decide +kernel
theorem d_MC_step_114 : decode b_MC_step 114 = .ok (.iconst 1, 1) := by decide +kernel
theorem d_MC_step_115 : decode b_MC_step 115 = .ok (.putfield 89, 3) := by decide +kernel
theorem d_MC_step_118 : decode b_MC_step 118 = .ok (.aload_n 0, 1) := by decide +kernel
theorem d_MC_step_119 : decode b_MC_step 119 = .ok (.iconst 0, 1) := by decide +kernel
theorem d_MC_step_120 : decode b_MC_step 120 = .ok (.putfield 98, 3) := by decide +kernel
theorem d_MC_step_123 : decode b_MC_step 123 = .ok (.aload_n 0, 1) := by decide +kernel
theorem d_MC_step_124 : decode b_MC_step 124 = .ok (.aload_n 0, 1) := by decide +kernel
theorem d_MC_step_125 : decode b_MC_step 125 = .ok (.getfield 143, 3) := by decide +kernel
theorem d_MC_step_128 : decode b_MC_step 128 = .ok (.putfield 101, 3) := by decide +kernel
theorem d_MC_step_131 : decode b_MC_step 131 = .ok (.iconst 0, 1) := by decide +kernel
theorem d_MC_step_132 : decode b_MC_step 132 = .ok (.istore 4, 2) := by decide +kernel
theorem d_MC_step_134 : decode b_MC_step 134 = .ok (.iload 4, 2) := by decide +kernel
theorem d_MC_step_136 : decode b_MC_step 136 = .ok (.aload_n 0, 1) := by decide +kernel
theorem d_MC_step_137 : decode b_MC_step 137 = .ok (.getfield 143, 3) := by decide +kernel
theorem d_MC_step_140 : decode b_MC_step 140 = .ok (.if_icmp .ge 23, 3) := by decide +kernel
theorem d_MC_step_143 : decode b_MC_step 143 = .ok (.aload_n 0, 1) := by decide +kernel
theorem d_MC_step_144 : decode b_MC_step 144 = .ok (.getfield 45, 3) := by decide +kernel
theorem d_MC_step_147 : decode b_MC_step 147 = .ok (.iload 4, 2) := by decide +kernel
theorem d_MC_step_149 : decode b_MC_step 149 = .ok (.aload_n 0, 1) := by decide +kernel
theorem d_MC_step_150 : decode b_MC_step 150 = .ok (.getfield 60, 3) := by decide +kernel
theorem d_MC_step_153 : decode b_MC_step 153 = .ok (.iload 4, 2) := by decide +kernel
theorem d_MC_step_155 : decode b_MC_step 155 = .ok (.iaload, 1) := by decide +kernel
theorem d_MC_step_156 : decode b_MC_step 156 = .ok (.iastore, 1) := by decide +kernel
theorem d_MC_step_157 : decode b_MC_step 157 = .ok (.iinc 4 1, 3) := by decide +kernel
theorem d_MC_step_160 : decode b_MC_step 160 = .ok (.goto (-26), 3) := by decide +kernel
theorem d_MC_step_163 : decode b_MC_step 163 = .ok (.aload_n 0, 1) := by decide +kernel
theorem d_MC_step_164 : decode b_MC_step 164 = .ok (.getfield 104, 3) := by decide +kernel
theorem d_MC_step_167 : decode b_MC_step 167 = .ok (.iconst 1, 1) := by decide +kernel
theorem d_MC_step_168 : decode b_MC_step 168 = .ok (.isub, 1) := by decide +kernel
theorem d_MC_step_169 : decode b_MC_step 169 = .ok (.istore 4, 2) := by decide +kernel
theorem d_MC_step_171 : decode b_MC_step 171 = .ok (.aload_n 0, 1) := by decide +kernel
theorem d_MC_step_172 : decode b_MC_step 172 = .ok (.getfield 150, 3) := by decide +kernel
theorem d_MC_step_175 : decode b_MC_step 175 = .ok (.ifCond .eq 11, 3) := by decide +kernel
theorem d_MC_step_178 : decode b_MC_step 178 = .ok (.aload_n 0, 1) := by decide +kernel
theorem d_MC_step_179 : decode b_MC_step 179 = .ok (.getfield 57, 3) := by decide +kernel
theorem d_MC_step_182 : decode b_MC_step 182 = .ok (.iload 4, 2) := by decide +kernel
theorem d_MC_step_184 : decode b_MC_step 184 = .ok (.iconst 1, 1) := by decide +kernel
theorem d_MC_step_185 : decode b_MC_step 185 = .ok (.bastore, 1) := by decide +kernel
theorem d_MC_step_186 : decode b_MC_step 186 = .ok (.aload_n 0, 1) := by decide +kernel
theorem d_MC_step_187 : decode b_MC_step 187 = .ok (.getfield 234, 3) := by decide +kernel
theorem d_MC_step_190 : decode b_MC_step 190 = .ok (.ifCond .eq 13, 3) := by decide +kernel
theorem d_MC_step_193 : decode b_MC_step 193 = .ok (.aload_n 0, 1) := by decide +kernel
theorem d_MC_step_194 : decode b_MC_step 194 = .ok (.dup, 1) := by decide +kernel
theorem d_MC_step_195 : decode b_MC_step 195 = .ok (.getfield 104, 3) := by decide +kernel
theorem d_MC_step_198 : decode b_MC_step 198 = .ok (.iconst 1, 1) := by decide +kernel
theorem d_MC_step_199 : decode b_MC_step 199 = .ok (.iadd, 1) := by decide +kernel
theorem d_MC_step_200 : decode b_MC_step 200 = .ok (.putfield 104, 3) := by decide +kernel
theorem d_MC_step_203 : decode b_MC_step 203 = .ok (.aload_n 0, 1) := by decide +kernel
theorem d_MC_step_204 : decode b_MC_step 204 = .ok (.getfield 240, 3) := by decide +kernel
theorem d_MC_step_207 : decode b_MC_step 207 = .ok (.ifCond .eq 19, 3) := by decide +kernel
theorem d_MC_step_210 : decode b_MC_step 210 = .ok (.aload_n 0, 1) := by decide +kernel
theorem d_MC_step_211 : decode b_MC_step 211 = .ok (.getfield 48, 3) := by decide +kernel
theorem d_MC_step_214 : decode b_MC_step 214 = .ok (.iload 4, 2) := by decide +kernel
theorem d_MC_step_216 : decode b_MC_step 216 = .ok (.iconst 5, 1) := by decide +kernel
theorem d_MC_step_217 : decode b_MC_step 217 = .ok (.iastore, 1) := by decide +kernel
theorem d_MC_step_218 : decode b_MC_step 218 = .ok (.aload_n 0, 1) := by decide +kernel
theorem d_MC_step_219 : decode b_MC_step 219 = .ok (.getfield 57, 3) := by decide +kernel
theorem d_MC_step_222 : decode b_MC_step 222 = .ok (.iload 4, 2) := by decide +kernel
theorem d_MC_step_224 : decode b_MC_step 224 = .ok (.iconst 0, 1) := by decide +kernel
theorem d_MC_step_225 : decode b_MC_step 225 = .ok (.bastore, 1) := by decide +kernel
theorem d_MC_step_226 : decode b_MC_step 226 = .ok (.aload_n 0, 1) := by decide +kernel
theorem d_MC_step_227 : decode b_MC_step 227 = .ok (.getfield 243, 3) := by decide +kernel
theorem d_MC_step_230 : decode b_MC_step 230 = .ok (.ifCond .eq 13, 3) := by decide +kernel
theorem d_MC_step_233 : decode b_MC_step 233 = .ok (.aload_n 0, 1) := by decide +kernel
theorem d_MC_step_234 : decode b_MC_step 234 = .ok (.dup, 1) := by decide +kernel
theorem d_MC_step_235 : decode b_MC_step 235 = .ok (.getfield 104, 3) := by decide +kernel
theorem d_MC_step_238 : decode b_MC_step 238 = .ok (.iconst 1, 1) := by decide +kernel
theorem d_MC_step_239 : decode b_MC_step 239 = .ok (.isub, 1) := by decide +kernel
theorem d_MC_step_240 : decode b_MC_step 240 = .ok (.putfield 104, 3) := by decide +kernel
theorem d_MC_step_243 : decode b_MC_step 243 = .ok (.aload_n 0, 1) := by decide +kernel
theorem d_MC_step_244 : decode b_MC_step 244 = .ok (.getfield 104, 3) := by decide +kernel
theorem d_MC_step_247 : decode b_MC_step 247 = .ok (.ifCond .ne 8, 3) := by decide +kernel
theorem d_MC_step_250 : decode b_MC_step 250 = .ok (.aload_n 0, 1) := by decide +kernel
theorem d_MC_step_251 : decode b_MC_step 251 = .ok (.iconst 2, 1) := by decide +kernel
theorem d_MC_step_252 : decode b_MC_step 252 = .ok (.putfield 80, 3) := by decide +kernel
theorem d_MC_step_255 : decode b_MC_step 255 = .ok (.iconst 0, 1) := by decide +kernel
theorem d_MC_step_256 : decode b_MC_step 256 = .ok (.ireturn, 1) := by decide +kernel
theorem d_MC_examine_0 : decode b_MC_examine 0 = .ok (.iload_n 1, 1) := by decide +kernel
theorem d_MC_examine_1 : decode b_MC_examine 1 = .ok (.iload_n 2, 1) := by decide +kernel
theorem d_MC_examine_2 : decode b_MC_examine 2 = .ok (.invokestatic 287, 3) := by decide +kernel
theorem d_MC_examine_5 : decode b_MC_examine 5 = .ok (.ifCond .ne 12, 3) := by decide +kernel
theorem d_MC_examine_8 : decode b_MC_examine 8 = .ok (.aload_n 0, 1) := by decide +kernel
theorem d_MC_examine_9 : decode b_MC_examine 9 = .ok (.bipush 13, 2) := by decide +kernel
theorem d_MC_examine_11 : decode b_MC_examine 11 = .ok (.invokevirtual 146, 3) := by decide +kernel
theorem d_MC_examine_14 : decode b_MC_examine 14 = .ok (.goto 54, 3) := by decide +kernel
theorem d_MC_examine_17 : decode b_MC_examine 17 = .ok (.aload_n 0, 1) := by decide +kernel
theorem d_MC_examine_18 : decode b_MC_examine 18 = .ok (.getfield 85, 3) := by decide +kernel
theorem d_MC_examine_21 : decode b_MC_examine 21 = .ok (.ifCond .ne 21, 3) := by decide +kernel
theorem d_MC_examine_24 : decode b_MC_examine 24 = .ok (.aload_n 0, 1) := by decide +kernel
theorem d_MC_examine_25 : decode b_MC_examine 25 = .ok (.iload_n 1, 1) := by decide +kernel
theorem d_MC_examine_26 : decode b_MC_examine 26 = .ok (.iload_n 2, 1) := by decide +kernel
theorem d_MC_examine_27 : decode b_MC_examine 27 = .ok (.invokevirtual 290, 3) := by decide +kernel
theorem d_MC_examine_30 : decode b_MC_examine 30 = .ok (.ifCond .ne 12, 3) := by decide +kernel
theorem d_MC_examine_33 : decode b_MC_examine 33 = .ok (.aload_n 0, 1) := by decide +kernel
theorem d_MC_examine_34 : decode b_MC_examine 34 = .ok (.bipush 14, 2) := by decide +kernel
theorem d_MC_examine_36 : decode b_MC_examine 36 = .ok (.invokevirtual 146, 3) := by decide +kernel
theorem d_MC_examine_39 : decode b_MC_examine 39 = .ok (.goto 29, 3) := by decide +kernel
theorem d_MC_examine_42 : decode b_MC_examine 42 = .ok (.aload_n 0, 1) := by decide +kernel
theorem d_MC_examine_43 : decode b_MC_examine 43 = .ok (.iload_n 1, 1) := by decide +kernel
theorem d_MC_examine_44 : decode b_MC_examine 44 = .ok (.iload_n 2, 1) := by decide +kernel
theorem d_MC_examine_45 : decode b_MC_examine 45 = .ok (.iload_n 3, 1) := by decide +kernel
theorem d_MC_examine_46 : decode b_MC_examine 46 = .ok (.invokevirtual 293, 3) := by decide +kernel
theorem d_MC_examine_49 : decode b_MC_examine 49 = .ok (.ifCond .ne 12, 3) := by decide +kernel
theorem d_MC_examine_52 : decode b_MC_examine 52 = .ok (.aload_n 0, 1) := by decide +kernel
theorem d_MC_examine_53 : decode b_MC_examine 53 = .ok (.bipush 12, 2) := by decide +kernel
theorem d_MC_examine_55 : decode b_MC_examine 55 = .ok (.invokevirtual 146, 3) := by decide +kernel
theorem d_MC_examine_58 : decode b_MC_examine 58 = .ok (.goto 10, 3) := by decide +kernel
theorem d_MC_examine_61 : decode b_MC_examine 61 = .ok (.aload_n 0, 1) := by decide +kernel
theorem d_MC_examine_62 : decode b_MC_examine 62 = .ok (.iload_n 1, 1) := by decide +kernel
theorem d_MC_examine_63 : decode b_MC_examine 63 = .ok (.iload_n 2, 1) := by decide +kernel
theorem d_MC_examine_64 : decode b_MC_examine 64 = .ok (.iload_n 3, 1) := by decide +kernel
theorem d_MC_examine_65 : decode b_MC_examine 65 = .ok (.invokevirtual 297, 3) := by decide +kernel
theorem d_MC_examine_68 : decode b_MC_examine 68 = .ok (.return_, 1) := by decide +kernel
theorem d_MC_isFormed_0 : decode b_MC_isFormed 0 = .ok (.iload_n 0, 1) := by decide +kernel
theorem d_MC_isFormed_1 : decode b_MC_isFormed 1 = .ok (.invokestatic 172, 3) := by decide +kernel
theorem d_MC_isFormed_4 : decode b_MC_isFormed 4 = .ok (.ifCond .ne 5, 3) := by decide +kernel
theorem d_MC_isFormed_7 : decode b_MC_isFormed 7 = .ok (.iconst 0, 1) := by decide +kernel
theorem d_MC_isFormed_8 : decode b_MC_isFormed 8 = .ok (.ireturn, 1) := by decide +kernel
theorem d_MC_isFormed_9 : decode b_MC_isFormed 9 = .ok (.iload_n 0, 1) := by decide +kernel
theorem d_MC_isFormed_10 : decode b_MC_isFormed 10 = .ok (.iconst 1, 1) := by decide +kernel
theorem d_MC_isFormed_11 : decode b_MC_isFormed 11 = .ok (.if_icmp .le 13, 3) := by decide +kernel
theorem d_MC_isFormed_14 : decode b_MC_isFormed 14 = .ok (.iload_n 0, 1) := by decide +kernel
theorem d_MC_isFormed_15 : decode b_MC_isFormed 15 = .ok (.iconst 5, 1) := by decide +kernel
theorem d_MC_isFormed_16 : decode b_MC_isFormed 16 = .ok (.if_icmp .ge 8, 3) := by decide +kernel
theorem d_MC_isFormed_19 : decode b_MC_isFormed 19 = .ok (.iload_n 1, 1) := by decide +kernel
theorem d_MC_isFormed_20 : decode b_MC_isFormed 20 = .ok (.invokestatic 175, 3) := by decide +kernel
theorem d_MC_isFormed_23 : decode b_MC_isFormed 23 = .ok (.ireturn, 1) := by decide +kernel
theorem d_MC_isFormed_24 : decode b_MC_isFormed 24 = .ok (.iload_n 0, 1) := by decide +kernel
theorem d_MC_isFormed_25 : decode b_MC_isFormed 25 = .ok (.bipush 28, 2) := by decide +kernel
theorem d_MC_isFormed_27 : decode b_MC_isFormed 27 = .ok (.if_icmp .ne 10, 3) := by decide +kernel
theorem d_MC_isFormed_30 : decode b_MC_isFormed 30 = .ok (.iload_n 1, 1) := by decide +kernel
theorem d_MC_isFormed_31 : decode b_MC_isFormed 31 = .ok (.invokestatic 77, 3) := by decide +kernel
theorem d_MC_isFormed_34 : decode b_MC_isFormed 34 = .ok (.goto 22, 3) := by decide +kernel
theorem d_MC_isFormed_37 : decode b_MC_isFormed 37 = .ok (.iload_n 0, 1) := by decide +kernel
theorem d_MC_isFormed_38 : decode b_MC_isFormed 38 = .ok (.sipush 208, 3) := by decide +kernel
theorem d_MC_isFormed_41 : decode b_MC_isFormed 41 = .ok (.if_icmp .ne 10, 3) := by decide +kernel
theorem d_MC_isFormed_44 : decode b_MC_isFormed 44 = .ok (.iload_n 1, 1) := by decide +kernel
theorem d_MC_isFormed_45 : decode b_MC_isFormed 45 = .ok (.invokestatic 69, 3) := by decide +kernel
theorem d_MC_isFormed_48 : decode b_MC_isFormed 48 = .ok (.ifCond .eq 7, 3) := by decide +kernel
theorem d_MC_isFormed_51 : decode b_MC_isFormed 51 = .ok (.iconst 1, 1) := by decide +kernel
theorem d_MC_isFormed_52 : decode b_MC_isFormed 52 = .ok (.goto 4, 3) := by decide +kernel
theorem d_MC_isFormed_55 : decode b_MC_isFormed 55 = .ok (.iconst 0, 1) := by decide +kernel
theorem d_MC_isFormed_56 : decode b_MC_isFormed 56 = .ok (.ireturn, 1) := by decide +kernel
theorem d_MC_isInstruction_0 : decode b_MC_isInstruction 0 = .ok (.iload_n 0, 1) := by decide +kernel
theorem d_MC_isInstruction_1 : decode b_MC_isInstruction 1 = .ok (.ifCond .lt 9, 3) := by decide +kernel
theorem d_MC_isInstruction_4 : decode b_MC_isInstruction 4 = .ok (.iload_n 0, 1) := by decide +kernel
theorem d_MC_isInstruction_5 : decode b_MC_isInstruction 5 = .ok (.bipush 6, 2) := by decide +kernel
theorem d_MC_isInstruction_7 : decode b_MC_isInstruction 7 = .ok (.if_icmp .lt 80, 3) := by decide +kernel
theorem d_MC_isInstruction_10 : decode b_MC_isInstruction 10 = .ok (.iload_n 0, 1) := by decide +kernel
theorem d_MC_isInstruction_11 : decode b_MC_isInstruction 11 = .ok (.bipush 11, 2) := by decide +kernel
theorem d_MC_isInstruction_13 : decode b_MC_isInstruction 13 = .ok (.if_icmp .lt 9, 3) := by decide +kernel
theorem d_MC_isInstruction_16 : decode b_MC_isInstruction 16 = .ok (.iload_n 0, 1) := by decide +kernel
theorem d_MC_isInstruction_17 : decode b_MC_isInstruction 17 = .ok (.bipush 17, 2) := by decide +kernel
theorem d_MC_isInstruction_19 : decode b_MC_isInstruction 19 = .ok (.if_icmp .le 68, 3) := by decide +kernel
theorem d_MC_isInstruction_22 : decode b_MC_isInstruction 22 = .ok (.iload_n 0, 1) := by decide +kernel
theorem d_MC_isInstruction_23 : decode b_MC_isInstruction 23 = .ok (.bipush 26, 2) := by decide +kernel
theorem d_MC_isInstruction_25 : decode b_MC_isInstruction 25 = .ok (.if_icmp .lt 9, 3) := by decide +kernel
theorem d_MC_isInstruction_28 : decode b_MC_isInstruction 28 = .ok (.iload_n 0, 1) := by decide +kernel
theorem d_MC_isInstruction_29 : decode b_MC_isInstruction 29 = .ok (.bipush 28, 2) := by decide +kernel
theorem d_MC_isInstruction_31 : decode b_MC_isInstruction 31 = .ok (.if_icmp .le 56, 3) := by decide +kernel
theorem d_MC_isInstruction_34 : decode b_MC_isInstruction 34 = .ok (.iload_n 0, 1) := by decide +kernel
theorem d_MC_isInstruction_35 : decode b_MC_isInstruction 35 = .ok (.bipush 32, 2) := by decide +kernel
theorem d_MC_isInstruction_37 : decode b_MC_isInstruction 37 = .ok (.if_icmp .lt 9, 3) := by decide +kernel
theorem d_MC_isInstruction_40 : decode b_MC_isInstruction 40 = .ok (.iload_n 0, 1) := by decide +kernel
theorem d_MC_isInstruction_41 : decode b_MC_isInstruction 41 = .ok (.bipush 38, 2) := by decide +kernel
theorem d_MC_isInstruction_43 : decode b_MC_isInstruction 43 = .ok (.if_icmp .le 44, 3) := by decide +kernel
theorem d_MC_isInstruction_46 : decode b_MC_isInstruction 46 = .ok (.iload_n 0, 1) := by decide +kernel
theorem d_MC_isInstruction_47 : decode b_MC_isInstruction 47 = .ok (.bipush 40, 2) := by decide +kernel
theorem d_MC_isInstruction_49 : decode b_MC_isInstruction 49 = .ok (.if_icmp .lt 10, 3) := by decide +kernel
theorem d_MC_isInstruction_52 : decode b_MC_isInstruction 52 = .ok (.iload_n 0, 1) := by decide +kernel
theorem d_MC_isInstruction_53 : decode b_MC_isInstruction 53 = .ok (.sipush 196, 3) := by decide +kernel
theorem d_MC_isInstruction_56 : decode b_MC_isInstruction 56 = .ok (.if_icmp .le 31, 3) := by decide +kernel
theorem d_MC_isInstruction_59 : decode b_MC_isInstruction 59 = .ok (.iload_n 0, 1) := by decide +kernel
theorem d_MC_isInstruction_60 : decode b_MC_isInstruction 60 = .ok (.sipush 208, 3) := by decide +kernel
theorem d_MC_isInstruction_63 : decode b_MC_isInstruction 63 = .ok (.if_icmp .lt 10, 3) := by decide +kernel
theorem d_MC_isInstruction_66 : decode b_MC_isInstruction 66 = .ok (.iload_n 0, 1) := by decide +kernel
theorem d_MC_isInstruction_67 : decode b_MC_isInstruction 67 = .ok (.sipush 210, 3) := by decide +kernel
theorem d_MC_isInstruction_70 : decode b_MC_isInstruction 70 = .ok (.if_icmp .le 17, 3) := by decide +kernel
theorem d_MC_isInstruction_73 : decode b_MC_isInstruction 73 = .ok (.iload_n 0, 1) := by decide +kernel
theorem d_MC_isInstruction_74 : decode b_MC_isInstruction 74 = .ok (.sipush 256, 3) := by decide +kernel
theorem d_MC_isInstruction_77 : decode b_MC_isInstruction 77 = .ok (.if_icmp .lt 14, 3) := by decide +kernel
theorem d_MC_isInstruction_80 : decode b_MC_isInstruction 80 = .ok (.iload_n 0, 1) := by decide +kernel
theorem d_MC_isInstruction_81 : decode b_MC_isInstruction 81 = .ok (.sipush 273, 3) := by decide +kernel
theorem d_MC_isInstruction_84 : decode b_MC_isInstruction 84 = .ok (.if_icmp .gt 7, 3) := by decide +kernel
theorem d_MC_isInstruction_87 : decode b_MC_isInstruction 87 = .ok (.iconst 1, 1) := by decide +kernel
theorem d_MC_isInstruction_88 : decode b_MC_isInstruction 88 = .ok (.goto 4, 3) := by decide +kernel
theorem d_MC_isInstruction_91 : decode b_MC_isInstruction 91 = .ok (.iconst 0, 1) := by decide +kernel
theorem d_MC_isInstruction_92 : decode b_MC_isInstruction 92 = .ok (.ireturn, 1) := by decide +kernel
theorem d_MC_isBlockType_0 : decode b_MC_isBlockType 0 = .ok (.iload_n 0, 1) := by decide +kernel
theorem d_MC_isBlockType_1 : decode b_MC_isBlockType 1 = .ok (.ifCond .ge 20, 3) := by decide +kernel
theorem d_MC_isBlockType_4 : decode b_MC_isBlockType 4 = .ok (.iload_n 0, 1) := by decide +kernel
theorem d_MC_isBlockType_5 : decode b_MC_isBlockType 5 = .ok (.bipush (-64), 2) := by decide +kernel
theorem d_MC_isBlockType_7 : decode b_MC_isBlockType 7 = .ok (.if_icmp .eq 14, 3) := by decide +kernel
theorem d_MC_isBlockType_10 : decode b_MC_isBlockType 10 = .ok (.iload_n 0, 1) := by decide +kernel
theorem d_MC_isBlockType_11 : decode b_MC_isBlockType 11 = .ok (.sipush 128, 3) := by decide +kernel
theorem d_MC_isBlockType_14 : decode b_MC_isBlockType 14 = .ok (.iadd, 1) := by decide +kernel
theorem d_MC_isBlockType_15 : decode b_MC_isBlockType 15 = .ok (.invokestatic 77, 3) := by decide +kernel
theorem d_MC_isBlockType_18 : decode b_MC_isBlockType 18 = .ok (.ifCond .eq 7, 3) := by decide +kernel
theorem d_MC_isBlockType_21 : decode b_MC_isBlockType 21 = .ok (.iconst 1, 1) := by decide +kernel
theorem d_MC_isBlockType_22 : decode b_MC_isBlockType 22 = .ok (.goto 4, 3) := by decide +kernel
theorem d_MC_isBlockType_25 : decode b_MC_isBlockType 25 = .ok (.iconst 0, 1) := by decide +kernel
theorem d_MC_isBlockType_26 : decode b_MC_isBlockType 26 = .ok (.ireturn, 1) := by decide +kernel
theorem d_MC_stop_0 : decode b_MC_stop 0 = .ok (.aload_n 0, 1) := by decide +kernel
theorem d_MC_stop_1 : decode b_MC_stop 1 = .ok (.aload_n 0, 1) := by decide +kernel
theorem d_MC_stop_2 : decode b_MC_stop 2 = .ok (.getfield 137, 3) := by decide +kernel
theorem d_MC_stop_5 : decode b_MC_stop 5 = .ok (.ifCond .ne 7, 3) := by decide +kernel
theorem d_MC_stop_8 : decode b_MC_stop 8 = .ok (.iload_n 1, 1) := by decide +kernel
theorem d_MC_stop_9 : decode b_MC_stop 9 = .ok (.goto 7, 3) := by decide +kernel
theorem d_MC_stop_12 : decode b_MC_stop 12 = .ok (.aload_n 0, 1) := by decide +kernel
theorem d_MC_stop_13 : decode b_MC_stop 13 = .ok (.getfield 137, 3) := by decide +kernel
theorem d_MC_stop_16 : decode b_MC_stop 16 = .ok (.putfield 137, 3) := by decide +kernel
theorem d_MC_stop_19 : decode b_MC_stop 19 = .ok (.return_, 1) := by decide +kernel
theorem d_MC_mayBeConstant_0 : decode b_MC_mayBeConstant 0 = .ok (.iload_n 1, 1) := by decide +kernel
theorem d_MC_mayBeConstant_1 : decode b_MC_mayBeConstant 1 = .ok (.bipush 35, 2) := by decide +kernel
theorem d_MC_mayBeConstant_3 : decode b_MC_mayBeConstant 3 = .ok (.if_icmp .ne 44, 3) := by decide +kernel
theorem d_MC_mayBeConstant_6 : decode b_MC_mayBeConstant 6 = .ok (.aload_n 0, 1) := by decide +kernel
theorem d_MC_mayBeConstant_7 : decode b_MC_mayBeConstant 7 = .ok (.iconst 3, 1) := by decide +kernel
theorem d_MC_mayBeConstant_8 : decode b_MC_mayBeConstant 8 = .ok (.iload_n 2, 1) := by decide +kernel
theorem d_MC_mayBeConstant_9 : decode b_MC_mayBeConstant 9 = .ok (.invokevirtual 178, 3) := by decide +kernel
theorem d_MC_mayBeConstant_12 : decode b_MC_mayBeConstant 12 = .ok (.ifCond .eq 33, 3) := by decide +kernel
theorem d_MC_mayBeConstant_15 : decode b_MC_mayBeConstant 15 = .ok (.iload_n 2, 1) := by decide +kernel
theorem d_MC_mayBeConstant_16 : decode b_MC_mayBeConstant 16 = .ok (.i2l, 1) := by decide +kernel
theorem d_MC_mayBeConstant_17 : decode b_MC_mayBeConstant 17 = .ok (.ldc2_w 83, 3) := by decide +kernel
theorem d_MC_mayBeConstant_20 : decode b_MC_mayBeConstant 20 = .ok (.land, 1) := by decide +kernel
theorem d_MC_mayBeConstant_21 : decode b_MC_mayBeConstant 21 = .ok (.aload_n 0, 1) := by decide +kernel
theorem d_MC_mayBeConstant_22 : decode b_MC_mayBeConstant 22 = .ok (.getfield 121, 3) := by decide +kernel
theorem d_MC_mayBeConstant_25 : decode b_MC_mayBeConstant 25 = .ok (.lcmp, 1) := by decide +kernel
theorem d_MC_mayBeConstant_26 : decode b_MC_mayBeConstant 26 = .ok (.ifCond .ge 19, 3) := by decide +kernel
theorem d_MC_mayBeConstant_29 : decode b_MC_mayBeConstant 29 = .ok (.aload_n 0, 1) := by decide +kernel
theorem d_MC_mayBeConstant_30 : decode b_MC_mayBeConstant 30 = .ok (.getfield 28, 3) := by decide +kernel
theorem d_MC_mayBeConstant_33 : decode b_MC_mayBeConstant 33 = .ok (.bipush 120, 2) := by decide +kernel
theorem d_MC_mayBeConstant_35 : decode b_MC_mayBeConstant 35 = .ok (.iload_n 2, 1) := by decide +kernel
theorem d_MC_mayBeConstant_36 : decode b_MC_mayBeConstant 36 = .ok (.iadd, 1) := by decide +kernel
theorem d_MC_mayBeConstant_37 : decode b_MC_mayBeConstant 37 = .ok (.iaload, 1) := by decide +kernel
theorem d_MC_mayBeConstant_38 : decode b_MC_mayBeConstant 38 = .ok (.ifCond .ne 7, 3) := by decide +kernel
theorem d_MC_mayBeConstant_41 : decode b_MC_mayBeConstant 41 = .ok (.iconst 1, 1) := by decide +kernel
theorem d_MC_mayBeConstant_42 : decode b_MC_mayBeConstant 42 = .ok (.goto 4, 3) := by decide +kernel
theorem d_MC_mayBeConstant_45 : decode b_MC_mayBeConstant 45 = .ok (.iconst 0, 1) := by decide +kernel
theorem d_MC_mayBeConstant_46 : decode b_MC_mayBeConstant 46 = .ok (.ireturn, 1) := by decide +kernel
theorem d_MC_mayBeConstant_47 : decode b_MC_mayBeConstant 47 = .ok (.iload_n 1, 1) := by decide +kernel
