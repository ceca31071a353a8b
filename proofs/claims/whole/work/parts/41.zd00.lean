theorem d_CC_type_0 : decode b_CC_type 0 = .ok (.aload_n 0, 1) := by decide +kernel
theorem d_CC_type_1 : decode b_CC_type 1 = .ok (.getfield 10, 3) := by decide +kernel
theorem d_CC_type_4 : decode b_CC_type 4 = .ok (.invokevirtual 25, 3) := by decide +kernel
theorem d_CC_type_7 : decode b_CC_type 7 = .ok (.ireturn, 1) := by decide +kernel
theorem d_CThings_makeType_0 : decode b_CThings_makeType 0 = .ok (.aload_n 0, 1) := by decide +kernel
theorem d_CThings_makeType_1 : decode b_CThings_makeType 1 = .ok (.getfield 45, 3) := by decide +kernel
theorem d_CThings_makeType_4 : decode b_CThings_makeType 4 = .ok (.bipush 40, 2) := by decide +kernel
theorem d_CThings_makeType_6 : decode b_CThings_makeType 6 = .ok (.if_icmp .lt 5, 3) := by decide +kernel
theorem d_CThings_makeType_9 : decode b_CThings_makeType 9 = .ok (.iconst (-1), 1) := by decide +kernel
theorem d_CThings_makeType_10 : decode b_CThings_makeType 10 = .ok (.ireturn, 1) := by decide +kernel
theorem d_CThings_makeType_11 : decode b_CThings_makeType 11 = .ok (.aload_n 0, 1) := by decide +kernel
theorem d_CThings_makeType_12 : decode b_CThings_makeType 12 = .ok (.dup, 1) := by decide +kernel
theorem d_CThings_makeType_13 : decode b_CThings_makeType 13 = .ok (.getfield 45, 3) := by decide +kernel
theorem d_CThings_makeType_16 : decode b_CThings_makeType 16 = .ok (.iconst 1, 1) := by decide +kernel
theorem d_CThings_makeType_17 : decode b_CThings_makeType 17 = .ok (.iadd, 1) := by decide +kernel
theorem d_CThings_makeType_18 : decode b_CThings_makeType 18 = .ok (.putfield 45, 3) := by decide +kernel
theorem d_CThings_makeType_21 : decode b_CThings_makeType 21 = .ok (.aload_n 0, 1) := by decide +kernel
theorem d_CThings_makeType_22 : decode b_CThings_makeType 22 = .ok (.getfield 45, 3) := by decide +kernel
theorem d_CThings_makeType_25 : decode b_CThings_makeType 25 = .ok (.iconst 1, 1) := by decide +kernel
theorem d_CThings_makeType_26 : decode b_CThings_makeType 26 = .ok (.isub, 1) := by decide +kernel
theorem d_CThings_makeType_27 : decode b_CThings_makeType 27 = .ok (.ireturn, 1) := by decide +kernel
theorem d_CC_part_0 : decode b_CC_part 0 = .ok (.aload_n 0, 1) := by decide +kernel
theorem d_CC_part_1 : decode b_CC_part 1 = .ok (.getfield 21, 3) := by decide +kernel
theorem d_CC_part_4 : decode b_CC_part 4 = .ok (.invokevirtual 29, 3) := by decide +kernel
theorem d_CC_part_7 : decode b_CC_part 7 = .ok (.ifCond .ne 10, 3) := by decide +kernel
theorem d_CC_part_10 : decode b_CC_part 10 = .ok (.iload_n 2, 1) := by decide +kernel
theorem d_CC_part_11 : decode b_CC_part 11 = .ok (.invokestatic 33, 3) := by decide +kernel
theorem d_CC_part_14 : decode b_CC_part 14 = .ok (.ifCond .ne 5, 3) := by decide +kernel
theorem d_CC_part_17 : decode b_CC_part 17 = .ok (.iconst (-1), 1) := by decide +kernel
theorem d_CC_part_18 : decode b_CC_part 18 = .ok (.ireturn, 1) := by decide +kernel
theorem d_CC_part_19 : decode b_CC_part 19 = .ok (.aload_n 0, 1) := by decide +kernel
theorem d_CC_part_20 : decode b_CC_part 20 = .ok (.getfield 10, 3) := by decide +kernel
theorem d_CC_part_23 : decode b_CC_part 23 = .ok (.iload_n 1, 1) := by decide +kernel
theorem d_CC_part_24 : decode b_CC_part 24 = .ok (.iload_n 2, 1) := by decide +kernel
theorem d_CC_part_25 : decode b_CC_part 25 = .ok (.invokevirtual 37, 3) := by decide +kernel
theorem d_CC_part_28 : decode b_CC_part 28 = .ok (.ireturn, 1) := by decide +kernel
theorem d_CCode_isOpen_0 : decode b_CCode_isOpen 0 = .ok (.aload_n 0, 1) := by decide +kernel
theorem d_CCode_isOpen_1 : decode b_CCode_isOpen 1 = .ok (.getfield 22, 3) := by decide +kernel
theorem d_CCode_isOpen_4 : decode b_CCode_isOpen 4 = .ok (.iconst 1, 1) := by decide +kernel
theorem d_CCode_isOpen_5 : decode b_CCode_isOpen 5 = .ok (.if_icmp .ne 7, 3) := by decide +kernel
theorem d_CCode_isOpen_8 : decode b_CCode_isOpen 8 = .ok (.iconst 1, 1) := by decide +kernel
theorem d_CCode_isOpen_9 : decode b_CCode_isOpen 9 = .ok (.goto 4, 3) := by decide +kernel
theorem d_CCode_isOpen_12 : decode b_CCode_isOpen 12 = .ok (.iconst 0, 1) := by decide +kernel
theorem d_CCode_isOpen_13 : decode b_CCode_isOpen 13 = .ok (.ireturn, 1) := by decide +kernel
theorem d_CC_isValueType_0 : decode b_CC_isValueType 0 = .ok (.iload_n 0, 1) := by decide +kernel
theorem d_CC_isValueType_1 : decode b_CC_isValueType 1 = .ok (.bipush 127, 2) := by decide +kernel
theorem d_CC_isValueType_3 : decode b_CC_isValueType 3 = .ok (.if_icmp .eq 28, 3) := by decide +kernel
theorem d_CC_isValueType_6 : decode b_CC_isValueType 6 = .ok (.iload_n 0, 1) := by decide +kernel
theorem d_CC_isValueType_7 : decode b_CC_isValueType 7 = .ok (.bipush 126, 2) := by decide +kernel
theorem d_CC_isValueType_9 : decode b_CC_isValueType 9 = .ok (.if_icmp .eq 22, 3) := by decide +kernel
theorem d_CC_isValueType_12 : decode b_CC_isValueType 12 = .ok (.iload_n 0, 1) := by decide +kernel
theorem d_CC_isValueType_13 : decode b_CC_isValueType 13 = .ok (.bipush 125, 2) := by decide +kernel
theorem d_CC_isValueType_15 : decode b_CC_isValueType 15 = .ok (.if_icmp .eq 16, 3) := by decide +kernel
theorem d_CC_isValueType_18 : decode b_CC_isValueType 18 = .ok (.iload_n 0, 1) := by decide +kernel
theorem d_CC_isValueType_19 : decode b_CC_isValueType 19 = .ok (.bipush 124, 2) := by decide +kernel
theorem d_CC_isValueType_21 : decode b_CC_isValueType 21 = .ok (.if_icmp .eq 10, 3) := by decide +kernel
theorem d_CC_isValueType_24 : decode b_CC_isValueType 24 = .ok (.iload_n 0, 1) := by decide +kernel
theorem d_CC_isValueType_25 : decode b_CC_isValueType 25 = .ok (.invokestatic 102, 3) := by decide +kernel
theorem d_CC_isValueType_28 : decode b_CC_isValueType 28 = .ok (.ifCond .eq 7, 3) := by decide +kernel
theorem d_CC_isValueType_31 : decode b_CC_isValueType 31 = .ok (.iconst 1, 1) := by decide +kernel
theorem d_CC_isValueType_32 : decode b_CC_isValueType 32 = .ok (.goto 4, 3) := by decide +kernel
theorem d_CC_isValueType_35 : decode b_CC_isValueType 35 = .ok (.iconst 0, 1) := by decide +kernel
theorem d_CC_isValueType_36 : decode b_CC_isValueType 36 = .ok (.ireturn, 1) := by decide +kernel
theorem d_CC_isReferenceType_0 : decode b_CC_isReferenceType 0 = .ok (.iload_n 0, 1) := by decide +kernel
theorem d_CC_isReferenceType_1 : decode b_CC_isReferenceType 1 = .ok (.bipush 112, 2) := by decide +kernel
theorem d_CC_isReferenceType_3 : decode b_CC_isReferenceType 3 = .ok (.if_icmp .eq 9, 3) := by decide +kernel
theorem d_CC_isReferenceType_6 : decode b_CC_isReferenceType 6 = .ok (.iload_n 0, 1) := by decide +kernel
theorem d_CC_isReferenceType_7 : decode b_CC_isReferenceType 7 = .ok (.bipush 111, 2) := by decide +kernel
theorem d_CC_isReferenceType_9 : decode b_CC_isReferenceType 9 = .ok (.if_icmp .ne 7, 3) := by decide +kernel
theorem d_CC_isReferenceType_12 : decode b_CC_isReferenceType 12 = .ok (.iconst 1, 1) := by decide +kernel
theorem d_CC_isReferenceType_13 : decode b_CC_isReferenceType 13 = .ok (.goto 4, 3) := by decide +kernel
theorem d_CC_isReferenceType_16 : decode b_CC_isReferenceType 16 = .ok (.iconst 0, 1) := by decide +kernel
theorem d_CC_isReferenceType_17 : decode b_CC_isReferenceType 17 = .ok (.ireturn, 1) := by decide +kernel
theorem d_CThings_extendLatestType_0 : decode b_CThings_extendLatestType 0 = .ok (.iload_n 1, 1) := by decide +kernel
theorem d_CThings_extendLatestType_1 : decode b_CThings_extendLatestType 1 = .ok (.ifCond .eq 10, 3) := by decide +kernel
theorem d_CThings_extendLatestType_4 : decode b_CThings_extendLatestType 4 = .ok (.aload_n 0, 1) := by decide +kernel
theorem d_CThings_extendLatestType_5 : decode b_CThings_extendLatestType 5 = .ok (.getfield 20, 3) := by decide +kernel
theorem d_CThings_extendLatestType_8 : decode b_CThings_extendLatestType 8 = .ok (.goto 7, 3) := by decide +kernel
theorem d_CThings_extendLatestType_11 : decode b_CThings_extendLatestType 11 = .ok (.aload_n 0, 1) := by decide +kernel
theorem d_CThings_extendLatestType_12 : decode b_CThings_extendLatestType 12 = .ok (.getfield 14, 3) := by decide +kernel
theorem d_CThings_extendLatestType_15 : decode b_CThings_extendLatestType 15 = .ok (.astore_n 3, 1) := by decide +kernel
theorem d_CThings_extendLatestType_16 : decode b_CThings_extendLatestType 16 = .ok (.aload_n 3, 1) := by decide +kernel
theorem d_CThings_extendLatestType_17 : decode b_CThings_extendLatestType 17 = .ok (.aload_n 0, 1) := by decide +kernel
theorem d_CThings_extendLatestType_18 : decode b_CThings_extendLatestType 18 = .ok (.getfield 45, 3) := by decide +kernel
theorem d_CThings_extendLatestType_21 : decode b_CThings_extendLatestType 21 = .ok (.iconst 1, 1) := by decide +kernel
theorem d_CThings_extendLatestType_22 : decode b_CThings_extendLatestType 22 = .ok (.isub, 1) := by decide +kernel
theorem d_CThings_extendLatestType_23 : decode b_CThings_extendLatestType 23 = .ok (.iload_n 2, 1) := by decide +kernel
theorem d_CThings_extendLatestType_24 : decode b_CThings_extendLatestType 24 = .ok (.invokevirtual 49, 3) := by decide +kernel
theorem d_CThings_extendLatestType_27 : decode b_CThings_extendLatestType 27 = .ok (.ireturn, 1) := by decide +kernel
theorem d_CRows_append_0 : decode b_CRows_append 0 = .ok (.aload_n 0, 1) := by decide +kernel
theorem d_CRows_append_1 : decode b_CRows_append 1 = .ok (.iload_n 1, 1) := by decide +kernel
theorem d_CRows_append_2 : decode b_CRows_append 2 = .ok (.invokevirtual 22, 3) := by decide +kernel
theorem d_CRows_append_5 : decode b_CRows_append 5 = .ok (.istore_n 3, 1) := by decide +kernel
theorem d_CRows_append_6 : decode b_CRows_append 6 = .ok (.iload_n 1, 1) := by decide +kernel
theorem d_CRows_append_7 : decode b_CRows_append 7 = .ok (.bipush 12, 2) := by decide +kernel
theorem d_CRows_append_9 : decode b_CRows_append 9 = .ok (.imul, 1) := by decide +kernel
theorem d_CRows_append_10 : decode b_CRows_append 10 = .ok (.iload_n 3, 1) := by decide +kernel
theorem d_CRows_append_11 : decode b_CRows_append 11 = .ok (.iadd, 1) := by decide +kernel
theorem d_CRows_append_12 : decode b_CRows_append 12 = .ok (.istore 4, 2) := by decide +kernel
theorem d_CRows_append_14 : decode b_CRows_append 14 = .ok (.iload_n 1, 1) := by decide +kernel
theorem d_CRows_append_15 : decode b_CRows_append 15 = .ok (.ifCond .lt 30, 3) := by decide +kernel
theorem d_CRows_append_18 : decode b_CRows_append 18 = .ok (.iload_n 1, 1) := by decide +kernel
theorem d_CRows_append_19 : decode b_CRows_append 19 = .ok (.bipush 40, 2) := by decide +kernel
theorem d_CRows_append_21 : decode b_CRows_append 21 = .ok (.if_icmp .ge 24, 3) := by decide +kernel
theorem d_CRows_append_24 : decode b_CRows_append 24 = .ok (.iload_n 3, 1) := by decide +kernel
theorem d_CRows_append_25 : decode b_CRows_append 25 = .ok (.bipush 12, 2) := by decide +kernel
theorem d_CRows_append_27 : decode b_CRows_append 27 = .ok (.if_icmp .ge 18, 3) := by decide +kernel
theorem d_CRows_append_30 : decode b_CRows_append 30 = .ok (.iload 4, 2) := by decide +kernel
theorem d_CRows_append_32 : decode b_CRows_append 32 = .ok (.ifCond .lt 13, 3) := by decide +kernel
theorem d_CRows_append_35 : decode b_CRows_append 35 = .ok (.iload 4, 2) := by decide +kernel
theorem d_CRows_append_37 : decode b_CRows_append 37 = .ok (.aload_n 0, 1) := by decide +kernel
theorem d_CRows_append_38 : decode b_CRows_append 38 = .ok (.getfield 15, 3) := by decide +kernel
theorem d_CRows_append_41 : decode b_CRows_append 41 = .ok (.arraylength, 1) := by decide +kernel
theorem d_CRows_append_42 : decode b_CRows_append 42 = .ok (.if_icmp .lt 5, 3) := by decide +kernel
theorem d_CRows_append_45 : decode b_CRows_append 45 = .ok (.iconst (-1), 1) := by decide +kernel
theorem d_CRows_append_46 : decode b_CRows_append 46 = .ok (.ireturn, 1) := by decide +kernel
theorem d_CRows_append_47 : decode b_CRows_append 47 = .ok (.aload_n 0, 1) := by decide +kernel
theorem d_CRows_append_48 : decode b_CRows_append 48 = .ok (.getfield 15, 3) := by decide +kernel
theorem d_CRows_append_51 : decode b_CRows_append 51 = .ok (.iload 4, 2) := by decide +kernel
theorem d_CRows_append_53 : decode b_CRows_append 53 = .ok (.iload_n 2, 1) := by decide +kernel
theorem d_CRows_append_54 : decode b_CRows_append 54 = .ok (.iastore, 1) := by decide +kernel
theorem d_CRows_append_55 : decode b_CRows_append 55 = .ok (.aload_n 0, 1) := by decide +kernel
theorem d_CRows_append_56 : decode b_CRows_append 56 = .ok (.getfield 9, 3) := by decide +kernel
theorem d_CRows_append_59 : decode b_CRows_append 59 = .ok (.iload_n 1, 1) := by decide +kernel
theorem d_CRows_append_60 : decode b_CRows_append 60 = .ok (.iload_n 3, 1) := by decide +kernel
theorem d_CRows_append_61 : decode b_CRows_append 61 = .ok (.iconst 1, 1) := by decide +kernel
theorem d_CRows_append_62 : decode b_CRows_append 62 = .ok (.iadd, 1) := by decide +kernel
theorem d_CRows_append_63 : decode b_CRows_append 63 = .ok (.iastore, 1) := by decide +kernel
theorem d_CRows_append_64 : decode b_CRows_append 64 = .ok (.iload_n 3, 1) := by decide +kernel
theorem d_CRows_append_65 : decode b_CRows_append 65 = .ok (.iconst 1, 1) := by decide +kernel
theorem d_CRows_append_66 : decode b_CRows_append 66 = .ok (.iadd, 1) := by decide +kernel
theorem d_CRows_append_67 : decode b_CRows_append 67 = .ok (.ireturn, 1) := by decide +kernel
theorem d_CRows_sizeOf_0 : decode b_CRows_sizeOf 0 = .ok (.iload_n 1, 1) := by decide +kernel
theorem d_CRows_sizeOf_1 : decode b_CRows_sizeOf 1 = .ok (.ifCond .ge 22, 3) := by decide +kernel
theorem d_CRows_sizeOf_4 : decode b_CRows_sizeOf 4 = .ok (.aload_n 0, 1) := by decide +kernel
theorem d_CRows_sizeOf_5 : decode b_CRows_sizeOf 5 = .ok (.getfield 18, 3) := by decide +kernel
theorem d_CRows_sizeOf_8 : decode b_CRows_sizeOf 8 = .ok (.ifCond .eq 13, 3) := by decide +kernel
theorem d_CRows_sizeOf_11 : decode b_CRows_sizeOf 11 = .ok (.iload_n 1, 1) := by decide +kernel
theorem d_CRows_sizeOf_12 : decode b_CRows_sizeOf 12 = .ok (.bipush (-64), 2) := by decide +kernel
theorem d_CRows_sizeOf_14 : decode b_CRows_sizeOf 14 = .ok (.if_icmp .eq 7, 3) := by decide +kernel
theorem d_CRows_sizeOf_17 : decode b_CRows_sizeOf 17 = .ok (.iconst 1, 1) := by decide +kernel
theorem d_CRows_sizeOf_18 : decode b_CRows_sizeOf 18 = .ok (.goto 4, 3) := by decide +kernel
theorem d_CRows_sizeOf_21 : decode b_CRows_sizeOf 21 = .ok (.iconst 0, 1) := by decide +kernel
theorem d_CRows_sizeOf_22 : decode b_CRows_sizeOf 22 = .ok (.ireturn, 1) := by decide +kernel
theorem d_CRows_sizeOf_23 : decode b_CRows_sizeOf 23 = .ok (.iload_n 1, 1) := by decide +kernel
theorem d_CRows_sizeOf_24 : decode b_CRows_sizeOf 24 = .ok (.aload_n 0, 1) := by decide +kernel
theorem d_CRows_sizeOf_25 : decode b_CRows_sizeOf 25 = .ok (.getfield 9, 3) := by decide +kernel
theorem d_CRows_sizeOf_28 : decode b_CRows_sizeOf 28 = .ok (.arraylength, 1) := by decide +kernel
theorem d_CRows_sizeOf_29 : decode b_CRows_sizeOf 29 = .ok (.if_icmp .ge 12, 3) := by decide +kernel
theorem d_CRows_sizeOf_32 : decode b_CRows_sizeOf 32 = .ok (.aload_n 0, 1) := by decide +kernel
theorem d_CRows_sizeOf_33 : decode b_CRows_sizeOf 33 = .ok (.getfield 9, 3) := by decide +kernel
theorem d_CRows_sizeOf_36 : decode b_CRows_sizeOf 36 = .ok (.iload_n 1, 1) := by decide +kernel
theorem d_CRows_sizeOf_37 : decode b_CRows_sizeOf 37 = .ok (.iaload, 1) := by decide +kernel
theorem d_CRows_sizeOf_38 : decode b_CRows_sizeOf 38 = .ok (.goto 4, 3) := by decide +kernel
theorem d_CRows_sizeOf_41 : decode b_CRows_sizeOf 41 = .ok (.iconst 0, 1) := by decide +kernel
theorem d_CRows_sizeOf_42 : decode b_CRows_sizeOf 42 = .ok (.ireturn, 1) := by decide +kernel
theorem d_CC_add_0 : decode b_CC_add 0 = .ok (.aload_n 0, 1) := by decide +kernel
theorem d_CC_add_1 : decode b_CC_add 1 = .ok (.getfield 10, 3) := by decide +kernel
theorem d_CC_add_4 : decode b_CC_add 4 = .ok (.iload_n 1, 1) := by decide +kernel
theorem d_CC_add_5 : decode b_CC_add 5 = .ok (.iload_n 2, 1) := by decide +kernel
theorem d_CC_add_6 : decode b_CC_add 6 = .ok (.iload_n 3, 1) := by decide +kernel
theorem d_CC_add_7 : decode b_CC_add 7 = .ok (.invokevirtual 41, 3) := by decide +kernel
theorem d_CC_add_10 : decode b_CC_add 10 = .ok (.ireturn, 1) := by decide +kernel
theorem d_CThings_addThing_0 : decode b_CThings_addThing 0 = .ok (.iload_n 1, 1) := by decide +kernel
theorem d_CThings_addThing_1 : decode b_CThings_addThing 1 = .ok (.tableswitch 162 0 5 #[39, 61, 82, 92, 131, 152], 39) := by decide +kernel
theorem d_CThings_addThing_40 : decode b_CThings_addThing 40 = .ok (.aload_n 0, 1) := by decide +kernel
theorem d_CThings_addThing_41 : decode b_CThings_addThing 41 = .ok (.iload_n 2, 1) := by decide +kernel
theorem d_CThings_addThing_42 : decode b_CThings_addThing 42 = .ok (.invokevirtual 53, 3) := by decide +kernel
theorem d_CThings_addThing_45 : decode b_CThings_addThing 45 = .ok (.ifCond .eq 15, 3) := by decide +kernel
theorem d_CThings_addThing_48 : decode b_CThings_addThing 48 = .ok (.aload_n 0, 1) := by decide +kernel
theorem d_CThings_addThing_49 : decode b_CThings_addThing 49 = .ok (.getfield 26, 3) := by decide +kernel
theorem d_CThings_addThing_52 : decode b_CThings_addThing 52 = .ok (.iload_n 2, 1) := by decide +kernel
theorem d_CThings_addThing_53 : decode b_CThings_addThing 53 = .ok (.iconst 0, 1) := by decide +kernel
theorem d_CThings_addThing_54 : decode b_CThings_addThing 54 = .ok (.invokevirtual 57, 3) := by decide +kernel
theorem d_CThings_addThing_57 : decode b_CThings_addThing 57 = .ok (.goto 4, 3) := by decide +kernel
theorem d_CThings_addThing_60 : decode b_CThings_addThing 60 = .ok (.iconst (-1), 1) := by decide +kernel
theorem d_CThings_addThing_61 : decode b_CThings_addThing 61 = .ok (.ireturn, 1) := by decide +kernel
theorem d_CThings_addThing_62 : decode b_CThings_addThing 62 = .ok (.iload_n 2, 1) := by decide +kernel
theorem d_CThings_addThing_63 : decode b_CThings_addThing 63 = .ok (.invokestatic 61, 3) := by decide +kernel
theorem d_CThings_addThing_66 : decode b_CThings_addThing 66 = .ok (.ifCond .eq 15, 3) := by decide +kernel
theorem d_CThings_addThing_69 : decode b_CThings_addThing 69 = .ok (.aload_n 0, 1) := by decide +kernel
theorem d_CThings_addThing_70 : decode b_CThings_addThing 70 = .ok (.getfield 30, 3) := by decide +kernel
theorem d_CThings_addThing_73 : decode b_CThings_addThing 73 = .ok (.iload_n 2, 1) := by decide +kernel
theorem d_CThings_addThing_74 : decode b_CThings_addThing 74 = .ok (.iconst 0, 1) := by decide +kernel
theorem d_CThings_addThing_75 : decode b_CThings_addThing 75 = .ok (.invokevirtual 57, 3) := by decide +kernel
theorem d_CThings_addThing_78 : decode b_CThings_addThing 78 = .ok (.goto 4, 3) := by decide +kernel
theorem d_CThings_addThing_81 : decode b_CThings_addThing 81 = .ok (.iconst (-1), 1) := by decide +kernel
theorem d_CThings_addThing_82 : decode b_CThings_addThing 82 = .ok (.ireturn, 1) := by decide +kernel
theorem d_CThings_addThing_83 : decode b_CThings_addThing 83 = .ok (.aload_n 0, 1) := by decide +kernel
theorem d_CThings_addThing_84 : decode b_CThings_addThing 84 = .ok (.getfield 33, 3) := by decide +kernel
theorem d_CThings_addThing_87 : decode b_CThings_addThing 87 = .ok (.iconst 0, 1) := by decide +kernel
theorem d_CThings_addThing_88 : decode b_CThings_addThing 88 = .ok (.iconst 0, 1) := by decide +kernel
theorem d_CThings_addThing_89 : decode b_CThings_addThing 89 = .ok (.invokevirtual 57, 3) := by decide +kernel
theorem d_CThings_addThing_92 : decode b_CThings_addThing 92 = .ok (.ireturn, 1) := by decide +kernel
theorem d_CThings_addThing_93 : decode b_CThings_addThing 93 = .ok (.iload_n 2, 1) := by decide +kernel
theorem d_CThings_addThing_94 : decode b_CThings_addThing 94 = .ok (.invokestatic 64, 3) := by decide +kernel
theorem d_CThings_addThing_97 : decode b_CThings_addThing 97 = .ok (.ifCond .eq 33, 3) := by decide +kernel
theorem d_CThings_addThing_100 : decode b_CThings_addThing 100 = .ok (.iload_n 3, 1) := by decide +kernel
theorem d_CThings_addThing_101 : decode b_CThings_addThing 101 = .ok (.ifCond .eq 8, 3) := by decide +kernel
theorem d_CThings_addThing_104 : decode b_CThings_addThing 104 = .ok (.iload_n 3, 1) := by decide +kernel
theorem d_CThings_addThing_105 : decode b_CThings_addThing 105 = .ok (.iconst 1, 1) := by decide +kernel
theorem d_CThings_addThing_106 : decode b_CThings_addThing 106 = .ok (.if_icmp .ne 24, 3) := by decide +kernel
theorem d_CThings_addThing_109 : decode b_CThings_addThing 109 = .ok (.aload_n 0, 1) := by decide +kernel
theorem d_CThings_addThing_110 : decode b_CThings_addThing 110 = .ok (.getfield 36, 3) := by decide +kernel
theorem d_CThings_addThing_113 : decode b_CThings_addThing 113 = .ok (.iload_n 2, 1) := by decide +kernel
theorem d_CThings_addThing_114 : decode b_CThings_addThing 114 = .ok (.iload_n 3, 1) := by decide +kernel
theorem d_CThings_addThing_115 : decode b_CThings_addThing 115 = .ok (.iconst 1, 1) := by decide +kernel
theorem d_CThings_addThing_116 : decode b_CThings_addThing 116 = .ok (.if_icmp .ne 7, 3) := by decide +kernel
theorem d_CThings_addThing_119 : decode b_CThings_addThing 119 = .ok (.iconst 1, 1) := by decide +kernel
theorem d_CThings_addThing_120 : decode b_CThings_addThing 120 = .ok (.goto 4, 3) := by decide +kernel
theorem d_CThings_addThing_123 : decode b_CThings_addThing 123 = .ok (.iconst 0, 1) := by decide +kernel
theorem d_CThings_addThing_124 : decode b_CThings_addThing 124 = .ok (.invokevirtual 57, 3) := by decide +kernel
theorem d_CThings_addThing_127 : decode b_CThings_addThing 127 = .ok (.goto 4, 3) := by decide +kernel
theorem d_CThings_addThing_130 : decode b_CThings_addThing 130 = .ok (.iconst (-1), 1) := by decide +kernel
theorem d_CThings_addThing_131 : decode b_CThings_addThing 131 = .ok (.ireturn, 1) := by decide +kernel
theorem d_CThings_addThing_132 : decode b_CThings_addThing 132 = .ok (.iload_n 2, 1) := by decide +kernel
theorem d_CThings_addThing_133 : decode b_CThings_addThing 133 = .ok (.invokestatic 61, 3) := by decide +kernel
theorem d_CThings_addThing_136 : decode b_CThings_addThing 136 = .ok (.ifCond .eq 15, 3) := by decide +kernel
theorem d_CThings_addThing_139 : decode b_CThings_addThing 139 = .ok (.aload_n 0, 1) := by decide +kernel
theorem d_CThings_addThing_140 : decode b_CThings_addThing 140 = .ok (.getfield 39, 3) := by decide +kernel
theorem d_CThings_addThing_143 : decode b_CThings_addThing 143 = .ok (.iload_n 2, 1) := by decide +kernel
theorem d_CThings_addThing_144 : decode b_CThings_addThing 144 = .ok (.iconst 0, 1) := by decide +kernel
theorem d_CThings_addThing_145 : decode b_CThings_addThing 145 = .ok (.invokevirtual 57, 3) := by decide +kernel
theorem d_CThings_addThing_148 : decode b_CThings_addThing 148 = .ok (.goto 4, 3) := by decide +kernel
theorem d_CThings_addThing_151 : decode b_CThings_addThing 151 = .ok (.iconst (-1), 1) := by decide +kernel
theorem d_CThings_addThing_152 : decode b_CThings_addThing 152 = .ok (.ireturn, 1) := by decide +kernel
theorem d_CThings_addThing_153 : decode b_CThings_addThing 153 = .ok (.aload_n 0, 1) := by decide +kernel
theorem d_CThings_addThing_154 : decode b_CThings_addThing 154 = .ok (.getfield 42, 3) := by decide +kernel
theorem d_CThings_addThing_157 : decode b_CThings_addThing 157 = .ok (.iconst 0, 1) := by decide +kernel
theorem d_CThings_addThing_158 : decode b_CThings_addThing 158 = .ok (.iconst 0, 1) := by decide +kernel
theorem d_CThings_addThing_159 : decode b_CThings_addThing 159 = .ok (.invokevirtual 57, 3) := by decide +kernel
theorem d_CThings_addThing_162 : decode b_CThings_addThing 162 = .ok (.ireturn, 1) := by decide +kernel
theorem d_CThings_addThing_163 : decode b_CThings_addThing 163 = .ok (.iconst (-1), 1) := by decide +kernel
theorem d_CThings_addThing_164 : decode b_CThings_addThing 164 = .ok (.ireturn, 1) := by decide +kernel
theorem d_CShelf_put_0 : decode b_CShelf_put 0 = .ok (.aload_n 0, 1) := by decide +kernel
theorem d_CShelf_put_1 : decode b_CShelf_put 1 = .ok (.getfield 19, 3) := by decide +kernel
theorem d_CShelf_put_4 : decode b_CShelf_put 4 = .ok (.ifCond .lt 27, 3) := by decide +kernel
theorem d_CShelf_put_7 : decode b_CShelf_put 7 = .ok (.aload_n 0, 1) := by decide +kernel
theorem d_CShelf_put_8 : decode b_CShelf_put 8 = .ok (.getfield 19, 3) := by decide +kernel
theorem d_CShelf_put_11 : decode b_CShelf_put 11 = .ok (.aload_n 0, 1) := by decide +kernel
theorem d_CShelf_put_12 : decode b_CShelf_put 12 = .ok (.getfield 9, 3) := by decide +kernel
theorem d_CShelf_put_15 : decode b_CShelf_put 15 = .ok (.arraylength, 1) := by decide +kernel
theorem d_CShelf_put_16 : decode b_CShelf_put 16 = .ok (.if_icmp .ge 15, 3) := by decide +kernel
theorem d_CShelf_put_19 : decode b_CShelf_put 19 = .ok (.aload_n 0, 1) := by decide +kernel
theorem d_CShelf_put_20 : decode b_CShelf_put 20 = .ok (.getfield 19, 3) := by decide +kernel
theorem d_CShelf_put_23 : decode b_CShelf_put 23 = .ok (.aload_n 0, 1) := by decide +kernel
theorem d_CShelf_put_24 : decode b_CShelf_put 24 = .ok (.getfield 15, 3) := by decide +kernel
theorem d_CShelf_put_27 : decode b_CShelf_put 27 = .ok (.arraylength, 1) := by decide +kernel
theorem d_CShelf_put_28 : decode b_CShelf_put 28 = .ok (.if_icmp .lt 5, 3) := by decide +kernel
theorem d_CShelf_put_31 : decode b_CShelf_put 31 = .ok (.iconst (-1), 1) := by decide +kernel
theorem d_CShelf_put_32 : decode b_CShelf_put 32 = .ok (.ireturn, 1) := by decide +kernel
theorem d_CShelf_put_33 : decode b_CShelf_put 33 = .ok (.aload_n 0, 1) := by decide +kernel
theorem d_CShelf_put_34 : decode b_CShelf_put 34 = .ok (.getfield 9, 3) := by decide +kernel
theorem d_CShelf_put_37 : decode b_CShelf_put 37 = .ok (.aload_n 0, 1) := by decide +kernel
theorem d_CShelf_put_38 : decode b_CShelf_put 38 = .ok (.getfield 19, 3) := by decide +kernel
theorem d_CShelf_put_41 : decode b_CShelf_put 41 = .ok (.iload_n 1, 1) := by decide +kernel
theorem d_CShelf_put_42 : decode b_CShelf_put 42 = .ok (.iastore, 1) := by decide +kernel
theorem d_CShelf_put_43 : decode b_CShelf_put 43 = .ok (.aload_n 0, 1) := by decide +kernel
theorem d_CShelf_put_44 : decode b_CShelf_put 44 = .ok (.getfield 15, 3) := by decide +kernel
theorem d_CShelf_put_47 : decode b_CShelf_put 47 = .ok (.aload_n 0, 1) := by decide +kernel
theorem d_CShelf_put_48 : decode b_CShelf_put 48 = .ok (.getfield 19, 3) := by decide +kernel
theorem d_CShelf_put_51 : decode b_CShelf_put 51 = .ok (.iload_n 2, 1) := by decide +kernel
theorem d_CShelf_put_52 : decode b_CShelf_put 52 = .ok (.bastore, 1) := by decide +kernel
theorem d_CShelf_put_53 : decode b_CShelf_put 53 = .ok (.aload_n 0, 1) := by decide +kernel
theorem d_CShelf_put_54 : decode b_CShelf_put 54 = .ok (.dup, 1) := by decide +kernel
theorem d_CShelf_put_55 : decode b_CShelf_put 55 = .ok (.getfield 19, 3) := by decide +kernel
theorem d_CShelf_put_58 : decode b_CShelf_put 58 = .ok (.iconst 1, 1) := by decide +kernel
theorem d_CShelf_put_59 : decode b_CShelf_put 59 = .ok (.iadd, 1) := by decide +kernel
theorem d_CShelf_put_60 : decode b_CShelf_put 60 = .ok (.putfield 19, 3) := by decide +kernel
theorem d_CShelf_put_63 : decode b_CShelf_put 63 = .ok (.aload_n 0, 1) := by decide +kernel
theorem d_CShelf_put_64 : decode b_CShelf_put 64 = .ok (.getfield 19, 3) := by decide +kernel
theorem d_CShelf_put_67 : decode b_CShelf_put 67 = .ok (.iconst 1, 1) := by decide +kernel
theorem d_CShelf_put_68 : decode b_CShelf_put 68 = .ok (.isub, 1) := by decide +kernel
theorem d_CShelf_put_69 : decode b_CShelf_put 69 = .ok (.ireturn, 1) := by decide +kernel
theorem d_CThings_hasType_0 : decode b_CThings_hasType 0 = .ok (.iload_n 1, 1) := by decide +kernel
theorem d_CThings_hasType_1 : decode b_CThings_hasType 1 = .ok (.ifCond .lt 15, 3) := by decide +kernel
theorem d_CThings_hasType_4 : decode b_CThings_hasType 4 = .ok (.iload_n 1, 1) := by decide +kernel
theorem d_CThings_hasType_5 : decode b_CThings_hasType 5 = .ok (.aload_n 0, 1) := by decide +kernel
theorem d_CThings_hasType_6 : decode b_CThings_hasType 6 = .ok (.getfield 45, 3) := by decide +kernel
theorem d_CThings_hasType_9 : decode b_CThings_hasType 9 = .ok (.if_icmp .ge 7, 3) := by decide +kernel
theorem d_CThings_hasType_12 : decode b_CThings_hasType 12 = .ok (.iconst 1, 1) := by decide +kernel
theorem d_CThings_hasType_13 : decode b_CThings_hasType 13 = .ok (.goto 4, 3) := by decide +kernel
theorem d_CThings_hasType_16 : decode b_CThings_hasType 16 = .ok (.iconst 0, 1) := by decide +kernel
theorem d_CThings_hasType_17 : decode b_CThings_hasType 17 = .ok (.ireturn, 1) := by decide +kernel
theorem d_CC_declare_0 : decode b_CC_declare 0 = .ok (.aload_n 0, 1) := by decide +kernel
theorem d_CC_declare_1 : decode b_CC_declare 1 = .ok (.getfield 10, 3) := by decide +kernel
theorem d_CC_declare_4 : decode b_CC_declare 4 = .ok (.getfield 45, 3) := by decide +kernel
theorem d_CC_declare_7 : decode b_CC_declare 7 = .ok (.iload_n 1, 1) := by decide +kernel
theorem d_CC_declare_8 : decode b_CC_declare 8 = .ok (.invokevirtual 49, 3) := by decide +kernel
theorem d_CC_declare_11 : decode b_CC_declare 11 = .ok (.ireturn, 1) := by decide +kernel
theorem d_CShelf_mark_0 : decode b_CShelf_mark 0 = .ok (.aload_n 0, 1) := by decide +kernel
theorem d_CShelf_mark_1 : decode b_CShelf_mark 1 = .ok (.iload_n 1, 1) := by decide +kernel
theorem d_CShelf_mark_2 : decode b_CShelf_mark 2 = .ok (.invokevirtual 23, 3) := by decide +kernel
theorem d_CShelf_mark_5 : decode b_CShelf_mark 5 = .ok (.ifCond .eq 12, 3) := by decide +kernel
theorem d_CShelf_mark_8 : decode b_CShelf_mark 8 = .ok (.iload_n 1, 1) := by decide +kernel
theorem d_CShelf_mark_9 : decode b_CShelf_mark 9 = .ok (.aload_n 0, 1) := by decide +kernel
theorem d_CShelf_mark_10 : decode b_CShelf_mark 10 = .ok (.getfield 15, 3) := by decide +kernel
theorem d_CShelf_mark_13 : decode b_CShelf_mark 13 = .ok (.arraylength, 1) := by decide +kernel
theorem d_CShelf_mark_14 : decode b_CShelf_mark 14 = .ok (.if_icmp .lt 5, 3) := by decide +kernel
theorem d_CShelf_mark_17 : decode b_CShelf_mark 17 = .ok (.iconst 0, 1) := by decide +kernel
theorem d_CShelf_mark_18 : decode b_CShelf_mark 18 = .ok (.ireturn, 1) := by decide +kernel
theorem d_CShelf_mark_19 : decode b_CShelf_mark 19 = .ok (.aload_n 0, 1) := by decide +kernel
theorem d_CShelf_mark_20 : decode b_CShelf_mark 20 = .ok (.getfield 15, 3) := by decide +kernel
theorem d_CShelf_mark_23 : decode b_CShelf_mark 23 = .ok (.iload_n 1, 1) := by decide +kernel
theorem d_CShelf_mark_24 : decode b_CShelf_mark 24 = .ok (.iconst 1, 1) := by decide +kernel
theorem d_CShelf_mark_25 : decode b_CShelf_mark 25 = .ok (.bastore, 1) := by decide +kernel
theorem d_CShelf_mark_26 : decode b_CShelf_mark 26 = .ok (.iconst 1, 1) := by decide +kernel
theorem d_CShelf_mark_27 : decode b_CShelf_mark 27 = .ok (.ireturn, 1) := by decide +kernel
theorem d_CShelf_has_0 : decode b_CShelf_has 0 = .ok (.iload_n 1, 1) := by decide +kernel
theorem d_CShelf_has_1 : decode b_CShelf_has 1 = .ok (.ifCond .lt 15, 3) := by decide +kernel
theorem d_CShelf_has_4 : decode b_CShelf_has 4 = .ok (.iload_n 1, 1) := by decide +kernel
theorem d_CShelf_has_5 : decode b_CShelf_has 5 = .ok (.aload_n 0, 1) := by decide +kernel
theorem d_CShelf_has_6 : decode b_CShelf_has 6 = .ok (.getfield 19, 3) := by decide +kernel
theorem d_CShelf_has_9 : decode b_CShelf_has 9 = .ok (.if_icmp .ge 7, 3) := by decide +kernel
theorem d_CShelf_has_12 : decode b_CShelf_has 12 = .ok (.iconst 1, 1) := by decide +kernel
theorem d_CShelf_has_13 : decode b_CShelf_has 13 = .ok (.goto 4, 3) := by decide +kernel
theorem d_CShelf_has_16 : decode b_CShelf_has 16 = .ok (.iconst 0, 1) := by decide +kernel
theorem d_CShelf_has_17 : decode b_CShelf_has 17 = .ok (.ireturn, 1) := by decide +kernel
theorem d_CC_begin_0 : decode b_CC_begin 0 = .ok (.aload_n 0, 1) := by decide +kernel
theorem d_CC_begin_1 : decode b_CC_begin 1 = .ok (.getfield 10, 3) := by decide +kernel
theorem d_CC_begin_4 : decode b_CC_begin 4 = .ok (.iload_n 1, 1) := by decide +kernel
theorem d_CC_begin_5 : decode b_CC_begin 5 = .ok (.invokevirtual 54, 3) := by decide +kernel
theorem d_CC_begin_8 : decode b_CC_begin 8 = .ok (.ifCond .ne 5, 3) := by decide +kernel
theorem d_CC_begin_11 : decode b_CC_begin 11 = .ok (.iconst 0, 1) := by decide +kernel
theorem d_CC_begin_12 : decode b_CC_begin 12 = .ok (.ireturn, 1) := by decide +kernel
theorem d_CC_begin_13 : decode b_CC_begin 13 = .ok (.aload_n 0, 1) := by decide +kernel
theorem d_CC_begin_14 : decode b_CC_begin 14 = .ok (.getfield 21, 3) := by decide +kernel
theorem d_CC_begin_17 : decode b_CC_begin 17 = .ok (.iload_n 1, 1) := by decide +kernel
theorem d_CC_begin_18 : decode b_CC_begin 18 = .ok (.invokevirtual 57, 3) := by decide +kernel
theorem d_CC_begin_21 : decode b_CC_begin 21 = .ok (.iconst 1, 1) := by decide +kernel
theorem d_CC_begin_22 : decode b_CC_begin 22 = .ok (.ireturn, 1) := by decide +kernel
theorem d_CCode_openBody_0 : decode b_CCode_openBody 0 = .ok (.aload_n 0, 1) := by decide +kernel
theorem d_CCode_openBody_1 : decode b_CCode_openBody 1 = .ok (.iload_n 1, 1) := by decide +kernel
theorem d_CCode_openBody_2 : decode b_CCode_openBody 2 = .ok (.iconst 0, 1) := by decide +kernel
theorem d_CCode_openBody_3 : decode b_CCode_openBody 3 = .ok (.invokevirtual 59, 3) := by decide +kernel
theorem d_CCode_openBody_6 : decode b_CCode_openBody 6 = .ok (.aload_n 0, 1) := by decide +kernel
theorem d_CCode_openBody_7 : decode b_CCode_openBody 7 = .ok (.getfield 26, 3) := by decide +kernel
theorem d_CCode_openBody_10 : decode b_CCode_openBody 10 = .ok (.getfield 63, 3) := by decide +kernel
theorem d_CCode_openBody_13 : decode b_CCode_openBody 13 = .ok (.iload_n 1, 1) := by decide +kernel
theorem d_CCode_openBody_14 : decode b_CCode_openBody 14 = .ok (.invokevirtual 69, 3) := by decide +kernel
theorem d_CCode_openBody_17 : decode b_CCode_openBody 17 = .ok (.istore_n 2, 1) := by decide +kernel
theorem d_CCode_openBody_18 : decode b_CCode_openBody 18 = .ok (.iconst 0, 1) := by decide +kernel
theorem d_CCode_openBody_19 : decode b_CCode_openBody 19 = .ok (.istore_n 3, 1) := by decide +kernel
theorem d_CCode_openBody_20 : decode b_CCode_openBody 20 = .ok (.iload_n 3, 1) := by decide +kernel
theorem d_CCode_openBody_21 : decode b_CCode_openBody 21 = .ok (.iload_n 2, 1) := by decide +kernel
theorem d_CCode_openBody_22 : decode b_CCode_openBody 22 = .ok (.if_icmp .ge 29, 3) := by decide +kernel
theorem d_CCode_openBody_25 : decode b_CCode_openBody 25 = .ok (.aload_n 0, 1) := by decide +kernel
theorem d_CCode_openBody_26 : decode b_CCode_openBody 26 = .ok (.getfield 12, 3) := by decide +kernel
theorem d_CCode_openBody_29 : decode b_CCode_openBody 29 = .ok (.aload_n 0, 1) := by decide +kernel
theorem d_CCode_openBody_30 : decode b_CCode_openBody 30 = .ok (.getfield 26, 3) := by decide +kernel
theorem d_CCode_openBody_33 : decode b_CCode_openBody 33 = .ok (.getfield 63, 3) := by decide +kernel
theorem d_CCode_openBody_36 : decode b_CCode_openBody 36 = .ok (.iload_n 1, 1) := by decide +kernel
theorem d_CCode_openBody_37 : decode b_CCode_openBody 37 = .ok (.iload_n 3, 1) := by decide +kernel
theorem d_CCode_openBody_38 : decode b_CCode_openBody 38 = .ok (.invokevirtual 75, 3) := by decide +kernel
theorem d_CCode_openBody_41 : decode b_CCode_openBody 41 = .ok (.lconst 1, 1) := by decide +kernel
theorem d_CCode_openBody_42 : decode b_CCode_openBody 42 = .ok (.invokevirtual 79, 3) := by decide +kernel
theorem d_CCode_openBody_45 : decode b_CCode_openBody 45 = .ok (.iinc 3 1, 3) := by decide +kernel
theorem d_CCode_openBody_48 : decode b_CCode_openBody 48 = .ok (.goto (-28), 3) := by decide +kernel
theorem d_CCode_openBody_51 : decode b_CCode_openBody 51 = .ok (.return_, 1) := by decide +kernel
theorem d_CCode_open_0 : decode b_CCode_open 0 = .ok (.aload_n 0, 1) := by decide +kernel
theorem d_CCode_open_1 : decode b_CCode_open 1 = .ok (.getfield 35, 3) := by decide +kernel
theorem d_CCode_open_4 : decode b_CCode_open 4 = .ok (.iload_n 1, 1) := by decide +kernel
theorem d_CCode_open_5 : decode b_CCode_open 5 = .ok (.invokevirtual 39, 3) := by decide +kernel
theorem d_CCode_open_8 : decode b_CCode_open 8 = .ok (.aload_n 0, 1) := by decide +kernel
theorem d_CCode_open_9 : decode b_CCode_open 9 = .ok (.getfield 12, 3) := by decide +kernel
theorem d_CCode_open_12 : decode b_CCode_open 12 = .ok (.invokevirtual 43, 3) := by decide +kernel
theorem d_CCode_open_15 : decode b_CCode_open 15 = .ok (.aload_n 0, 1) := by decide +kernel
theorem d_CCode_open_16 : decode b_CCode_open 16 = .ok (.iconst 0, 1) := by decide +kernel
theorem d_CCode_open_17 : decode b_CCode_open 17 = .ok (.putfield 46, 3) := by decide +kernel
theorem d_CCode_open_20 : decode b_CCode_open 20 = .ok (.aload_n 0, 1) := by decide +kernel
theorem d_CCode_open_21 : decode b_CCode_open 21 = .ok (.iconst 0, 1) := by decide +kernel
theorem d_CCode_open_22 : decode b_CCode_open 22 = .ok (.putfield 49, 3) := by decide +kernel
theorem d_CCode_open_25 : decode b_CCode_open 25 = .ok (.aload_n 0, 1) := by decide +kernel
theorem d_CCode_open_26 : decode b_CCode_open 26 = .ok (.iconst 0, 1) := by decide +kernel
theorem d_CCode_open_27 : decode b_CCode_open 27 = .ok (.putfield 52, 3) := by decide +kernel
theorem d_CCode_open_30 : decode b_CCode_open 30 = .ok (.aload_n 0, 1) := by decide +kernel
theorem d_CCode_open_31 : decode b_CCode_open 31 = .ok (.iload_n 2, 1) := by decide +kernel
theorem d_CCode_open_32 : decode b_CCode_open 32 = .ok (.putfield 56, 3) := by decide +kernel
theorem d_CCode_open_35 : decode b_CCode_open 35 = .ok (.aload_n 0, 1) := by decide +kernel
theorem d_CCode_open_36 : decode b_CCode_open 36 = .ok (.iconst 1, 1) := by decide +kernel
theorem d_CCode_open_37 : decode b_CCode_open 37 = .ok (.putfield 22, 3) := by decide +kernel
theorem d_CCode_open_40 : decode b_CCode_open 40 = .ok (.return_, 1) := by decide +kernel
theorem d_CStack_restart_0 : decode b_CStack_restart 0 = .ok (.aload_n 0, 1) := by decide +kernel
theorem d_CStack_restart_1 : decode b_CStack_restart 1 = .ok (.iconst 0, 1) := by decide +kernel
theorem d_CStack_restart_2 : decode b_CStack_restart 2 = .ok (.putfield 35, 3) := by decide +kernel
theorem d_CStack_restart_5 : decode b_CStack_restart 5 = .ok (.aload_n 0, 1) := by decide +kernel
theorem d_CStack_restart_6 : decode b_CStack_restart 6 = .ok (.iconst 0, 1) := by decide +kernel
theorem d_CStack_restart_7 : decode b_CStack_restart 7 = .ok (.putfield 39, 3) := by decide +kernel
theorem d_CStack_restart_10 : decode b_CStack_restart 10 = .ok (.aload_n 0, 1) := by decide +kernel
theorem d_CStack_restart_11 : decode b_CStack_restart 11 = .ok (.iconst 0, 1) := by decide +kernel
theorem d_CStack_restart_12 : decode b_CStack_restart 12 = .ok (.putfield 42, 3) := by decide +kernel
theorem d_CStack_restart_15 : decode b_CStack_restart 15 = .ok (.aload_n 0, 1) := by decide +kernel
theorem d_CStack_restart_16 : decode b_CStack_restart 16 = .ok (.iconst (-1), 1) := by decide +kernel
theorem d_CStack_restart_17 : decode b_CStack_restart 17 = .ok (.iload_n 1, 1) := by decide +kernel
theorem d_CStack_restart_18 : decode b_CStack_restart 18 = .ok (.invokevirtual 45, 3) := by decide +kernel
theorem d_CStack_restart_21 : decode b_CStack_restart 21 = .ok (.return_, 1) := by decide +kernel
theorem d_CStack_pushBlock_0 : decode b_CStack_pushBlock 0 = .ok (.aload_n 0, 1) := by decide +kernel
theorem d_CStack_pushBlock_1 : decode b_CStack_pushBlock 1 = .ok (.getfield 42, 3) := by decide +kernel
theorem d_CStack_pushBlock_4 : decode b_CStack_pushBlock 4 = .ok (.ifCond .eq 4, 3) := by decide +kernel
theorem d_CStack_pushBlock_7 : decode b_CStack_pushBlock 7 = .ok (.return_, 1) := by decide +kernel
theorem d_CStack_pushBlock_8 : decode b_CStack_pushBlock 8 = .ok (.aload_n 0, 1) := by decide +kernel
theorem d_CStack_pushBlock_9 : decode b_CStack_pushBlock 9 = .ok (.getfield 39, 3) := by decide +kernel
theorem d_CStack_pushBlock_12 : decode b_CStack_pushBlock 12 = .ok (.ifCond .lt 12, 3) := by decide +kernel
theorem d_CStack_pushBlock_15 : decode b_CStack_pushBlock 15 = .ok (.aload_n 0, 1) := by decide +kernel
theorem d_CStack_pushBlock_16 : decode b_CStack_pushBlock 16 = .ok (.getfield 39, 3) := by decide +kernel
theorem d_CStack_pushBlock_19 : decode b_CStack_pushBlock 19 = .ok (.bipush 60, 2) := by decide +kernel
theorem d_CStack_pushBlock_21 : decode b_CStack_pushBlock 21 = .ok (.if_icmp .lt 10, 3) := by decide +kernel
theorem d_CStack_pushBlock_24 : decode b_CStack_pushBlock 24 = .ok (.aload_n 0, 1) := by decide +kernel
theorem d_CStack_pushBlock_25 : decode b_CStack_pushBlock 25 = .ok (.bipush 15, 2) := by decide +kernel
theorem d_CStack_pushBlock_27 : decode b_CStack_pushBlock 27 = .ok (.putfield 42, 3) := by decide +kernel
theorem d_CStack_pushBlock_30 : decode b_CStack_pushBlock 30 = .ok (.return_, 1) := by decide +kernel
theorem d_CStack_pushBlock_31 : decode b_CStack_pushBlock 31 = .ok (.aload_n 0, 1) := by decide +kernel
theorem d_CStack_pushBlock_32 : decode b_CStack_pushBlock 32 = .ok (.getfield 15, 3) := by decide +kernel
theorem d_CStack_pushBlock_35 : decode b_CStack_pushBlock 35 = .ok (.aload_n 0, 1) := by decide +kernel
theorem d_CStack_pushBlock_36 : decode b_CStack_pushBlock 36 = .ok (.getfield 39, 3) := by decide +kernel
theorem d_CStack_pushBlock_39 : decode b_CStack_pushBlock 39 = .ok (.iload_n 2, 1) := by decide +kernel
theorem d_CStack_pushBlock_40 : decode b_CStack_pushBlock 40 = .ok (.iastore, 1) := by decide +kernel
theorem d_CStack_pushBlock_41 : decode b_CStack_pushBlock 41 = .ok (.aload_n 0, 1) := by decide +kernel
theorem d_CStack_pushBlock_42 : decode b_CStack_pushBlock 42 = .ok (.getfield 18, 3) := by decide +kernel
theorem d_CStack_pushBlock_45 : decode b_CStack_pushBlock 45 = .ok (.aload_n 0, 1) := by decide +kernel
theorem d_CStack_pushBlock_46 : decode b_CStack_pushBlock 46 = .ok (.getfield 39, 3) := by decide +kernel
theorem d_CStack_pushBlock_49 : decode b_CStack_pushBlock 49 = .ok (.aload_n 0, 1) := by decide +kernel
theorem d_CStack_pushBlock_50 : decode b_CStack_pushBlock 50 = .ok (.getfield 35, 3) := by decide +kernel
theorem d_CStack_pushBlock_53 : decode b_CStack_pushBlock 53 = .ok (.iastore, 1) := by decide +kernel
theorem d_CStack_pushBlock_54 : decode b_CStack_pushBlock 54 = .ok (.aload_n 0, 1) := by decide +kernel
theorem d_CStack_pushBlock_55 : decode b_CStack_pushBlock 55 = .ok (.getfield 21, 3) := by decide +kernel
theorem d_CStack_pushBlock_58 : decode b_CStack_pushBlock 58 = .ok (.aload_n 0, 1) := by decide +kernel
theorem d_CStack_pushBlock_59 : decode b_CStack_pushBlock 59 = .ok (.getfield 39, 3) := by decide +kernel
theorem d_CStack_pushBlock_62 : decode b_CStack_pushBlock 62 = .ok (.iload_n 1, 1) := by decide +kernel
theorem d_CStack_pushBlock_63 : decode b_CStack_pushBlock 63 = .ok (.iastore, 1) := by decide +kernel
theorem d_CStack_pushBlock_64 : decode b_CStack_pushBlock 64 = .ok (.aload_n 0, 1) := by decide +kernel
theorem d_CStack_pushBlock_65 : decode b_CStack_pushBlock 65 = .ok (.getfield 24, 3) := by decide +kernel
theorem d_CStack_pushBlock_68 : decode b_CStack_pushBlock 68 = .ok (.aload_n 0, 1) := by decide +kernel
theorem d_CStack_pushBlock_69 : decode b_CStack_pushBlock 69 = .ok (.getfield 39, 3) := by decide +kernel
theorem d_CStack_pushBlock_72 : decode b_CStack_pushBlock 72 = .ok (.iconst 1, 1) := by decide +kernel
theorem d_CStack_pushBlock_73 : decode b_CStack_pushBlock 73 = .ok (.bastore, 1) := by decide +kernel
theorem d_CStack_pushBlock_74 : decode b_CStack_pushBlock 74 = .ok (.aload_n 0, 1) := by decide +kernel
theorem d_CStack_pushBlock_75 : decode b_CStack_pushBlock 75 = .ok (.dup, 1) := by decide +kernel
theorem d_CStack_pushBlock_76 : decode b_CStack_pushBlock 76 = .ok (.getfield 39, 3) := by decide +kernel
theorem d_CStack_pushBlock_79 : decode b_CStack_pushBlock 79 = .ok (.iconst 1, 1) := by decide +kernel
theorem d_CStack_pushBlock_80 : decode b_CStack_pushBlock 80 = .ok (.iadd, 1) := by decide +kernel
theorem d_CStack_pushBlock_81 : decode b_CStack_pushBlock 81 = .ok (.putfield 39, 3) := by decide +kernel
theorem d_CStack_pushBlock_84 : decode b_CStack_pushBlock 84 = .ok (.return_, 1) := by decide +kernel
theorem d_CLocals_clear_0 : decode b_CLocals_clear 0 = .ok (.aload_n 0, 1) := by decide +kernel
theorem d_CLocals_clear_1 : decode b_CLocals_clear 1 = .ok (.iconst 0, 1) := by decide +kernel
theorem d_CLocals_clear_2 : decode b_CLocals_clear 2 = .ok (.putfield 19, 3) := by decide +kernel
theorem d_CLocals_clear_5 : decode b_CLocals_clear 5 = .ok (.aload_n 0, 1) := by decide +kernel
theorem d_CLocals_clear_6 : decode b_CLocals_clear 6 = .ok (.lconst 0, 1) := by decide +kernel
theorem d_CLocals_clear_7 : decode b_CLocals_clear 7 = .ok (.putfield 23, 3) := by decide +kernel
theorem d_CLocals_clear_10 : decode b_CLocals_clear 10 = .ok (.return_, 1) := by decide +kernel
theorem d_CRows_partOf_0 : decode b_CRows_partOf 0 = .ok (.iload_n 1, 1) := by decide +kernel
theorem d_CRows_partOf_1 : decode b_CRows_partOf 1 = .ok (.ifCond .ge 9, 3) := by decide +kernel
theorem d_CRows_partOf_4 : decode b_CRows_partOf 4 = .ok (.iload_n 1, 1) := by decide +kernel
theorem d_CRows_partOf_5 : decode b_CRows_partOf 5 = .ok (.sipush 128, 3) := by decide +kernel
theorem d_CRows_partOf_8 : decode b_CRows_partOf 8 = .ok (.iadd, 1) := by decide +kernel
theorem d_CRows_partOf_9 : decode b_CRows_partOf 9 = .ok (.ireturn, 1) := by decide +kernel
theorem d_CRows_partOf_10 : decode b_CRows_partOf 10 = .ok (.iload_n 1, 1) := by decide +kernel
theorem d_CRows_partOf_11 : decode b_CRows_partOf 11 = .ok (.bipush 40, 2) := by decide +kernel
theorem d_CRows_partOf_13 : decode b_CRows_partOf 13 = .ok (.if_icmp .ge 13, 3) := by decide +kernel
theorem d_CRows_partOf_16 : decode b_CRows_partOf 16 = .ok (.iload_n 2, 1) := by decide +kernel
theorem d_CRows_partOf_17 : decode b_CRows_partOf 17 = .ok (.ifCond .lt 9, 3) := by decide +kernel
theorem d_CRows_partOf_20 : decode b_CRows_partOf 20 = .ok (.iload_n 2, 1) := by decide +kernel
theorem d_CRows_partOf_21 : decode b_CRows_partOf 21 = .ok (.bipush 12, 2) := by decide +kernel
theorem d_CRows_partOf_23 : decode b_CRows_partOf 23 = .ok (.if_icmp .lt 5, 3) := by decide +kernel
theorem d_CRows_partOf_26 : decode b_CRows_partOf 26 = .ok (.iconst 0, 1) := by decide +kernel
theorem d_CRows_partOf_27 : decode b_CRows_partOf 27 = .ok (.ireturn, 1) := by decide +kernel
theorem d_CRows_partOf_28 : decode b_CRows_partOf 28 = .ok (.aload_n 0, 1) := by decide +kernel
theorem d_CRows_partOf_29 : decode b_CRows_partOf 29 = .ok (.getfield 15, 3) := by decide +kernel
theorem d_CRows_partOf_32 : decode b_CRows_partOf 32 = .ok (.iload_n 1, 1) := by decide +kernel
theorem d_CRows_partOf_33 : decode b_CRows_partOf 33 = .ok (.bipush 12, 2) := by decide +kernel
theorem d_CRows_partOf_35 : decode b_CRows_partOf 35 = .ok (.imul, 1) := by decide +kernel
theorem d_CRows_partOf_36 : decode b_CRows_partOf 36 = .ok (.iload_n 2, 1) := by decide +kernel
theorem d_CRows_partOf_37 : decode b_CRows_partOf 37 = .ok (.iadd, 1) := by decide +kernel
theorem d_CRows_partOf_38 : decode b_CRows_partOf 38 = .ok (.iaload, 1) := by decide +kernel
theorem d_CRows_partOf_39 : decode b_CRows_partOf 39 = .ok (.ireturn, 1) := by decide +kernel
theorem d_CLocals_append_0 : decode b_CLocals_append 0 = .ok (.aload_n 0, 1) := by decide +kernel
theorem d_CLocals_append_1 : decode b_CLocals_append 1 = .ok (.getfield 19, 3) := by decide +kernel
theorem d_CLocals_append_4 : decode b_CLocals_append 4 = .ok (.ifCond .lt 27, 3) := by decide +kernel
theorem d_CLocals_append_7 : decode b_CLocals_append 7 = .ok (.aload_n 0, 1) := by decide +kernel
theorem d_CLocals_append_8 : decode b_CLocals_append 8 = .ok (.getfield 19, 3) := by decide +kernel
theorem d_CLocals_append_11 : decode b_CLocals_append 11 = .ok (.aload_n 0, 1) := by decide +kernel
theorem d_CLocals_append_12 : decode b_CLocals_append 12 = .ok (.getfield 9, 3) := by decide +kernel
theorem d_CLocals_append_15 : decode b_CLocals_append 15 = .ok (.arraylength, 1) := by decide +kernel
theorem d_CLocals_append_16 : decode b_CLocals_append 16 = .ok (.if_icmp .ge 15, 3) := by decide +kernel
theorem d_CLocals_append_19 : decode b_CLocals_append 19 = .ok (.aload_n 0, 1) := by decide +kernel
theorem d_CLocals_append_20 : decode b_CLocals_append 20 = .ok (.getfield 19, 3) := by decide +kernel
theorem d_CLocals_append_23 : decode b_CLocals_append 23 = .ok (.aload_n 0, 1) := by decide +kernel
theorem d_CLocals_append_24 : decode b_CLocals_append 24 = .ok (.getfield 15, 3) := by decide +kernel
theorem d_CLocals_append_27 : decode b_CLocals_append 27 = .ok (.arraylength, 1) := by decide +kernel
theorem d_CLocals_append_28 : decode b_CLocals_append 28 = .ok (.if_icmp .lt 4, 3) := by decide +kernel
theorem d_CLocals_append_31 : decode b_CLocals_append 31 = .ok (.return_, 1) := by decide +kernel
theorem d_CLocals_append_32 : decode b_CLocals_append 32 = .ok (.aload_n 0, 1) := by decide +kernel
theorem d_CLocals_append_33 : decode b_CLocals_append 33 = .ok (.dup, 1) := by decide +kernel
theorem d_CLocals_append_34 : decode b_CLocals_append 34 = .ok (.getfield 23, 3) := by decide +kernel
theorem d_CLocals_append_37 : decode b_CLocals_append 37 = .ok (.lload_n 2, 1) := by decide +kernel
theorem d_CLocals_append_38 : decode b_CLocals_append 38 = .ok (.ladd, 1) := by decide +kernel
theorem d_CLocals_append_39 : decode b_CLocals_append 39 = .ok (.putfield 23, 3) := by decide +kernel
theorem d_CLocals_append_42 : decode b_CLocals_append 42 = .ok (.aload_n 0, 1) := by decide +kernel
theorem d_CLocals_append_43 : decode b_CLocals_append 43 = .ok (.getfield 9, 3) := by decide +kernel
theorem d_CLocals_append_46 : decode b_CLocals_append 46 = .ok (.aload_n 0, 1) := by decide +kernel
