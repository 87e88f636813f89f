theorem dX2_forget_0 : decode cX2_forget 0 = .ok (.aload_n 0, 1) := by decide +kernel
theorem dX2_forget_1 : decode cX2_forget 1 = .ok (.iconst 0, 1) := by decide +kernel
theorem dX2_forget_2 : decode cX2_forget 2 = .ok (.putfield 18, 3) := by decide +kernel
theorem dX2_forget_5 : decode cX2_forget 5 = .ok (.return_, 1) := by decide +kernel
theorem dX2_remember_0 : decode cX2_remember 0 = .ok (.aload_n 0, 1) := by decide +kernel
theorem dX2_remember_1 : decode cX2_remember 1 = .ok (.getfield 11, 3) := by decide +kernel
theorem dX2_remember_4 : decode cX2_remember 4 = .ok (.aload_n 0, 1) := by decide +kernel
theorem dX2_remember_5 : decode cX2_remember 5 = .ok (.getfield 22, 3) := by decide +kernel
theorem dX2_remember_8 : decode cX2_remember 8 = .ok (.aaload, 1) := by decide +kernel
theorem dX2_remember_9 : decode cX2_remember 9 = .ok (.aload_n 1, 1) := by decide +kernel
theorem dX2_remember_10 : decode cX2_remember 10 = .ok (.invokevirtual 25, 3) := by decide +kernel
theorem dX2_remember_13 : decode cX2_remember 13 = .ok (.aload_n 0, 1) := by decide +kernel
theorem dX2_remember_14 : decode cX2_remember 14 = .ok (.aload_n 0, 1) := by decide +kernel
theorem dX2_remember_15 : decode cX2_remember 15 = .ok (.getfield 22, 3) := by decide +kernel
theorem dX2_remember_18 : decode cX2_remember 18 = .ok (.iconst 1, 1) := by decide +kernel
theorem dX2_remember_19 : decode cX2_remember 19 = .ok (.iadd, 1) := by decide +kernel
theorem dX2_remember_20 : decode cX2_remember 20 = .ok (.bipush 6, 2) := by decide +kernel
theorem dX2_remember_22 : decode cX2_remember 22 = .ok (.irem, 1) := by decide +kernel
theorem dX2_remember_23 : decode cX2_remember 23 = .ok (.putfield 22, 3) := by decide +kernel
theorem dX2_remember_26 : decode cX2_remember 26 = .ok (.aload_n 0, 1) := by decide +kernel
theorem dX2_remember_27 : decode cX2_remember 27 = .ok (.aload_n 0, 1) := by decide +kernel
theorem dX2_remember_28 : decode cX2_remember 28 = .ok (.getfield 18, 3) := by decide +kernel
theorem dX2_remember_31 : decode cX2_remember 31 = .ok (.iconst 1, 1) := by decide +kernel
theorem dX2_remember_32 : decode cX2_remember 32 = .ok (.iadd, 1) := by decide +kernel
theorem dX2_remember_33 : decode cX2_remember 33 = .ok (.bipush 6, 2) := by decide +kernel
theorem dX2_remember_35 : decode cX2_remember 35 = .ok (.invokestatic 29, 3) := by decide +kernel
theorem dX2_remember_38 : decode cX2_remember 38 = .ok (.putfield 18, 3) := by decide +kernel
theorem dX2_remember_41 : decode cX2_remember 41 = .ok (.return_, 1) := by decide +kernel
theorem dX2_recall_0 : decode cX2_recall 0 = .ok (.aload_n 0, 1) := by decide +kernel
theorem dX2_recall_1 : decode cX2_recall 1 = .ok (.aload_n 0, 1) := by decide +kernel
theorem dX2_recall_2 : decode cX2_recall 2 = .ok (.getfield 22, 3) := by decide +kernel
theorem dX2_recall_5 : decode cX2_recall 5 = .ok (.bipush 6, 2) := by decide +kernel
theorem dX2_recall_7 : decode cX2_recall 7 = .ok (.iadd, 1) := by decide +kernel
theorem dX2_recall_8 : decode cX2_recall 8 = .ok (.iconst 1, 1) := by decide +kernel
theorem dX2_recall_9 : decode cX2_recall 9 = .ok (.isub, 1) := by decide +kernel
theorem dX2_recall_10 : decode cX2_recall 10 = .ok (.bipush 6, 2) := by decide +kernel
theorem dX2_recall_12 : decode cX2_recall 12 = .ok (.irem, 1) := by decide +kernel
theorem dX2_recall_13 : decode cX2_recall 13 = .ok (.putfield 22, 3) := by decide +kernel
theorem dX2_recall_16 : decode cX2_recall 16 = .ok (.aload_n 0, 1) := by decide +kernel
theorem dX2_recall_17 : decode cX2_recall 17 = .ok (.dup, 1) := by decide +kernel
theorem dX2_recall_18 : decode cX2_recall 18 = .ok (.getfield 18, 3) := by decide +kernel
theorem dX2_recall_21 : decode cX2_recall 21 = .ok (.iconst 1, 1) := by decide +kernel
theorem dX2_recall_22 : decode cX2_recall 22 = .ok (.isub, 1) := by decide +kernel
theorem dX2_recall_23 : decode cX2_recall 23 = .ok (.putfield 18, 3) := by decide +kernel
theorem dX2_recall_26 : decode cX2_recall 26 = .ok (.aload_n 1, 1) := by decide +kernel
theorem dX2_recall_27 : decode cX2_recall 27 = .ok (.aload_n 0, 1) := by decide +kernel
theorem dX2_recall_28 : decode cX2_recall 28 = .ok (.getfield 11, 3) := by decide +kernel
theorem dX2_recall_31 : decode cX2_recall 31 = .ok (.aload_n 0, 1) := by decide +kernel
theorem dX2_recall_32 : decode cX2_recall 32 = .ok (.getfield 22, 3) := by decide +kernel
theorem dX2_recall_35 : decode cX2_recall 35 = .ok (.aaload, 1) := by decide +kernel
theorem dX2_recall_36 : decode cX2_recall 36 = .ok (.invokevirtual 25, 3) := by decide +kernel
theorem dX2_recall_39 : decode cX2_recall 39 = .ok (.return_, 1) := by decide +kernel
theorem dX4_parse_0 : decode cX4_parse 0 = .ok (.aload_n 0, 1) := by decide +kernel
theorem dX4_parse_1 : decode cX4_parse 1 = .ok (.getfield 12, 3) := by decide +kernel
theorem dX4_parse_4 : decode cX4_parse 4 = .ok (.invokevirtual 27, 3) := by decide +kernel
theorem dX4_parse_7 : decode cX4_parse 7 = .ok (.aload_n 0, 1) := by decide +kernel
theorem dX4_parse_8 : decode cX4_parse 8 = .ok (.getfield 23, 3) := by decide +kernel
theorem dX4_parse_11 : decode cX4_parse 11 = .ok (.invokevirtual 30, 3) := by decide +kernel
theorem dX4_parse_14 : decode cX4_parse 14 = .ok (.iconst 0, 1) := by decide +kernel
theorem dX4_parse_15 : decode cX4_parse 15 = .ok (.istore_n 1, 1) := by decide +kernel
theorem dX4_parse_16 : decode cX4_parse 16 = .ok (.iload_n 1, 1) := by decide +kernel
theorem dX4_parse_17 : decode cX4_parse 17 = .ok (.sipush 160, 3) := by decide +kernel
theorem dX4_parse_20 : decode cX4_parse 20 = .ok (.if_icmp .gt 39, 3) := by decide +kernel
theorem dX4_parse_23 : decode cX4_parse 23 = .ok (.aload_n 0, 1) := by decide +kernel
theorem dX4_parse_24 : decode cX4_parse 24 = .ok (.getfield 23, 3) := by decide +kernel
theorem dX4_parse_27 : decode cX4_parse 27 = .ok (.invokevirtual 33, 3) := by decide +kernel
theorem dX4_parse_30 : decode cX4_parse 30 = .ok (.aload_n 0, 1) := by decide +kernel
theorem dX4_parse_31 : decode cX4_parse 31 = .ok (.getfield 23, 3) := by decide +kernel
theorem dX4_parse_34 : decode cX4_parse 34 = .ok (.getfield 36, 3) := by decide +kernel
theorem dX4_parse_37 : decode cX4_parse 37 = .ok (.iconst 4, 1) := by decide +kernel
theorem dX4_parse_38 : decode cX4_parse 38 = .ok (.if_icmp .ne 5, 3) := by decide +kernel
theorem dX4_parse_41 : decode cX4_parse 41 = .ok (.iload_n 1, 1) := by decide +kernel
theorem dX4_parse_42 : decode cX4_parse 42 = .ok (.ireturn, 1) := by decide +kernel
theorem dX4_parse_43 : decode cX4_parse 43 = .ok (.aload_n 0, 1) := by decide +kernel
theorem dX4_parse_44 : decode cX4_parse 44 = .ok (.invokevirtual 40, 3) := by decide +kernel
theorem dX4_parse_47 : decode cX4_parse 47 = .ok (.ifCond .ne 6, 3) := by decide +kernel
theorem dX4_parse_50 : decode cX4_parse 50 = .ok (.goto 9, 3) := by decide +kernel
theorem dX4_parse_53 : decode cX4_parse 53 = .ok (.iinc 1 1, 3) := by decide +kernel
theorem dX4_parse_56 : decode cX4_parse 56 = .ok (.goto (-40), 3) := by decide +kernel
theorem dX4_parse_59 : decode cX4_parse 59 = .ok (.bipush (-10), 2) := by decide +kernel
theorem dX4_parse_61 : decode cX4_parse 61 = .ok (.aload_n 0, 1) := by decide +kernel
theorem dX4_parse_62 : decode cX4_parse 62 = .ok (.getfield 23, 3) := by decide +kernel
theorem dX4_parse_65 : decode cX4_parse 65 = .ok (.getfield 44, 3) := by decide +kernel
theorem dX4_parse_68 : decode cX4_parse 68 = .ok (.isub, 1) := by decide +kernel
theorem dX4_parse_69 : decode cX4_parse 69 = .ok (.ireturn, 1) := by decide +kernel
theorem dX4_readItem_0 : decode cX4_readItem 0 = .ok (.aload_n 0, 1) := by decide +kernel
theorem dX4_readItem_1 : decode cX4_readItem 1 = .ok (.getfield 23, 3) := by decide +kernel
theorem dX4_readItem_4 : decode cX4_readItem 4 = .ok (.invokevirtual 47, 3) := by decide +kernel
theorem dX4_readItem_7 : decode cX4_readItem 7 = .ok (.lookupswitch 74 #[(97, 59), (102, 54), (107, 64), (114, 49), (115, 69)], 49) := by decide +kernel
theorem dX4_readItem_56 : decode cX4_readItem 56 = .ok (.aload_n 0, 1) := by decide +kernel
theorem dX4_readItem_57 : decode cX4_readItem 57 = .ok (.invokevirtual 51, 3) := by decide +kernel
theorem dX4_readItem_60 : decode cX4_readItem 60 = .ok (.ireturn, 1) := by decide +kernel
theorem dX4_readItem_61 : decode cX4_readItem 61 = .ok (.aload_n 0, 1) := by decide +kernel
theorem dX4_readItem_62 : decode cX4_readItem 62 = .ok (.invokevirtual 54, 3) := by decide +kernel
theorem dX4_readItem_65 : decode cX4_readItem 65 = .ok (.ireturn, 1) := by decide +kernel
theorem dX4_readItem_66 : decode cX4_readItem 66 = .ok (.aload_n 0, 1) := by decide +kernel
theorem dX4_readItem_67 : decode cX4_readItem 67 = .ok (.invokevirtual 57, 3) := by decide +kernel
theorem dX4_readItem_70 : decode cX4_readItem 70 = .ok (.ireturn, 1) := by decide +kernel
theorem dX4_readItem_71 : decode cX4_readItem 71 = .ok (.aload_n 0, 1) := by decide +kernel
theorem dX4_readItem_72 : decode cX4_readItem 72 = .ok (.invokevirtual 60, 3) := by decide +kernel
theorem dX4_readItem_75 : decode cX4_readItem 75 = .ok (.ireturn, 1) := by decide +kernel
theorem dX4_readItem_76 : decode cX4_readItem 76 = .ok (.aload_n 0, 1) := by decide +kernel
theorem dX4_readItem_77 : decode cX4_readItem 77 = .ok (.invokevirtual 63, 3) := by decide +kernel
theorem dX4_readItem_80 : decode cX4_readItem 80 = .ok (.ireturn, 1) := by decide +kernel
theorem dX4_readItem_81 : decode cX4_readItem 81 = .ok (.iconst 0, 1) := by decide +kernel
theorem dX4_readItem_82 : decode cX4_readItem 82 = .ok (.ireturn, 1) := by decide +kernel
theorem dX4_readRegister_0 : decode cX4_readRegister 0 = .ok (.aload_n 0, 1) := by decide +kernel
theorem dX4_readRegister_1 : decode cX4_readRegister 1 = .ok (.getfield 12, 3) := by decide +kernel
theorem dX4_readRegister_4 : decode cX4_readRegister 4 = .ok (.getfield 66, 3) := by decide +kernel
theorem dX4_readRegister_7 : decode cX4_readRegister 7 = .ok (.istore_n 1, 1) := by decide +kernel
theorem dX4_readRegister_8 : decode cX4_readRegister 8 = .ok (.iload_n 1, 1) := by decide +kernel
theorem dX4_readRegister_9 : decode cX4_readRegister 9 = .ok (.bipush 6, 2) := by decide +kernel
theorem dX4_readRegister_11 : decode cX4_readRegister 11 = .ok (.if_icmp .ge 13, 3) := by decide +kernel
theorem dX4_readRegister_14 : decode cX4_readRegister 14 = .ok (.aload_n 0, 1) := by decide +kernel
theorem dX4_readRegister_15 : decode cX4_readRegister 15 = .ok (.iconst 0, 1) := by decide +kernel
theorem dX4_readRegister_16 : decode cX4_readRegister 16 = .ok (.bipush 15, 2) := by decide +kernel
theorem dX4_readRegister_18 : decode cX4_readRegister 18 = .ok (.invokevirtual 69, 3) := by decide +kernel
theorem dX4_readRegister_21 : decode cX4_readRegister 21 = .ok (.ifCond .ne 5, 3) := by decide +kernel
theorem dX4_readRegister_24 : decode cX4_readRegister 24 = .ok (.iconst 0, 1) := by decide +kernel
theorem dX4_readRegister_25 : decode cX4_readRegister 25 = .ok (.ireturn, 1) := by decide +kernel
theorem dX4_readRegister_26 : decode cX4_readRegister 26 = .ok (.aload_n 0, 1) := by decide +kernel
theorem dX4_readRegister_27 : decode cX4_readRegister 27 = .ok (.getfield 12, 3) := by decide +kernel
theorem dX4_readRegister_30 : decode cX4_readRegister 30 = .ok (.getfield 73, 3) := by decide +kernel
theorem dX4_readRegister_33 : decode cX4_readRegister 33 = .ok (.iload_n 1, 1) := by decide +kernel
theorem dX4_readRegister_34 : decode cX4_readRegister 34 = .ok (.aload_n 0, 1) := by decide +kernel
theorem dX4_readRegister_35 : decode cX4_readRegister 35 = .ok (.getfield 23, 3) := by decide +kernel
theorem dX4_readRegister_38 : decode cX4_readRegister 38 = .ok (.invokevirtual 77, 3) := by decide +kernel
theorem dX4_readRegister_41 : decode cX4_readRegister 41 = .ok (.iastore, 1) := by decide +kernel
theorem dX4_readRegister_42 : decode cX4_readRegister 42 = .ok (.aload_n 0, 1) := by decide +kernel
theorem dX4_readRegister_43 : decode cX4_readRegister 43 = .ok (.getfield 12, 3) := by decide +kernel
theorem dX4_readRegister_46 : decode cX4_readRegister 46 = .ok (.getfield 80, 3) := by decide +kernel
theorem dX4_readRegister_49 : decode cX4_readRegister 49 = .ok (.iload_n 1, 1) := by decide +kernel
theorem dX4_readRegister_50 : decode cX4_readRegister 50 = .ok (.bipush (-9), 2) := by decide +kernel
theorem dX4_readRegister_52 : decode cX4_readRegister 52 = .ok (.iastore, 1) := by decide +kernel
theorem dX4_readRegister_53 : decode cX4_readRegister 53 = .ok (.aload_n 0, 1) := by decide +kernel
theorem dX4_readRegister_54 : decode cX4_readRegister 54 = .ok (.getfield 12, 3) := by decide +kernel
theorem dX4_readRegister_57 : decode cX4_readRegister 57 = .ok (.getfield 83, 3) := by decide +kernel
theorem dX4_readRegister_60 : decode cX4_readRegister 60 = .ok (.iload_n 1, 1) := by decide +kernel
theorem dX4_readRegister_61 : decode cX4_readRegister 61 = .ok (.bipush (-9), 2) := by decide +kernel
theorem dX4_readRegister_63 : decode cX4_readRegister 63 = .ok (.iastore, 1) := by decide +kernel
theorem dX4_readRegister_64 : decode cX4_readRegister 64 = .ok (.aload_n 0, 1) := by decide +kernel
theorem dX4_readRegister_65 : decode cX4_readRegister 65 = .ok (.getfield 12, 3) := by decide +kernel
theorem dX4_readRegister_68 : decode cX4_readRegister 68 = .ok (.dup, 1) := by decide +kernel
theorem dX4_readRegister_69 : decode cX4_readRegister 69 = .ok (.getfield 66, 3) := by decide +kernel
theorem dX4_readRegister_72 : decode cX4_readRegister 72 = .ok (.iconst 1, 1) := by decide +kernel
theorem dX4_readRegister_73 : decode cX4_readRegister 73 = .ok (.iadd, 1) := by decide +kernel
theorem dX4_readRegister_74 : decode cX4_readRegister 74 = .ok (.putfield 66, 3) := by decide +kernel
theorem dX4_readRegister_77 : decode cX4_readRegister 77 = .ok (.aload_n 0, 1) := by decide +kernel
theorem dX4_readRegister_78 : decode cX4_readRegister 78 = .ok (.invokevirtual 86, 3) := by decide +kernel
theorem dX4_readRegister_81 : decode cX4_readRegister 81 = .ok (.ireturn, 1) := by decide +kernel
theorem dX4_readField_0 : decode cX4_readField 0 = .ok (.aload_n 0, 1) := by decide +kernel
theorem dX4_readField_1 : decode cX4_readField 1 = .ok (.getfield 12, 3) := by decide +kernel
theorem dX4_readField_4 : decode cX4_readField 4 = .ok (.getfield 89, 3) := by decide +kernel
theorem dX4_readField_7 : decode cX4_readField 7 = .ok (.istore_n 1, 1) := by decide +kernel
theorem dX4_readField_8 : decode cX4_readField 8 = .ok (.aload_n 0, 1) := by decide +kernel
theorem dX4_readField_9 : decode cX4_readField 9 = .ok (.getfield 12, 3) := by decide +kernel
theorem dX4_readField_12 : decode cX4_readField 12 = .ok (.getfield 66, 3) := by decide +kernel
theorem dX4_readField_15 : decode cX4_readField 15 = .ok (.iconst 1, 1) := by decide +kernel
theorem dX4_readField_16 : decode cX4_readField 16 = .ok (.isub, 1) := by decide +kernel
theorem dX4_readField_17 : decode cX4_readField 17 = .ok (.istore_n 2, 1) := by decide +kernel
theorem dX4_readField_18 : decode cX4_readField 18 = .ok (.iload_n 1, 1) := by decide +kernel
theorem dX4_readField_19 : decode cX4_readField 19 = .ok (.bipush 12, 2) := by decide +kernel
theorem dX4_readField_21 : decode cX4_readField 21 = .ok (.if_icmp .ge 14, 3) := by decide +kernel
theorem dX4_readField_24 : decode cX4_readField 24 = .ok (.iload_n 2, 1) := by decide +kernel
theorem dX4_readField_25 : decode cX4_readField 25 = .ok (.ifCond .lt 10, 3) := by decide +kernel
theorem dX4_readField_28 : decode cX4_readField 28 = .ok (.aload_n 0, 1) := by decide +kernel
theorem dX4_readField_29 : decode cX4_readField 29 = .ok (.invokevirtual 92, 3) := by decide +kernel
theorem dX4_readField_32 : decode cX4_readField 32 = .ok (.ifCond .ne 5, 3) := by decide +kernel
theorem dX4_readField_35 : decode cX4_readField 35 = .ok (.iconst 0, 1) := by decide +kernel
theorem dX4_readField_36 : decode cX4_readField 36 = .ok (.ireturn, 1) := by decide +kernel
theorem dX4_readField_37 : decode cX4_readField 37 = .ok (.aload_n 0, 1) := by decide +kernel
theorem dX4_readField_38 : decode cX4_readField 38 = .ok (.getfield 12, 3) := by decide +kernel
theorem dX4_readField_41 : decode cX4_readField 41 = .ok (.getfield 95, 3) := by decide +kernel
theorem dX4_readField_44 : decode cX4_readField 44 = .ok (.iload_n 1, 1) := by decide +kernel
theorem dX4_readField_45 : decode cX4_readField 45 = .ok (.iload_n 2, 1) := by decide +kernel
theorem dX4_readField_46 : decode cX4_readField 46 = .ok (.iastore, 1) := by decide +kernel
theorem dX4_readField_47 : decode cX4_readField 47 = .ok (.aload_n 0, 1) := by decide +kernel
theorem dX4_readField_48 : decode cX4_readField 48 = .ok (.getfield 12, 3) := by decide +kernel
theorem dX4_readField_51 : decode cX4_readField 51 = .ok (.getfield 98, 3) := by decide +kernel
theorem dX4_readField_54 : decode cX4_readField 54 = .ok (.iload_n 1, 1) := by decide +kernel
theorem dX4_readField_55 : decode cX4_readField 55 = .ok (.aload_n 0, 1) := by decide +kernel
theorem dX4_readField_56 : decode cX4_readField 56 = .ok (.getfield 23, 3) := by decide +kernel
theorem dX4_readField_59 : decode cX4_readField 59 = .ok (.invokevirtual 101, 3) := by decide +kernel
theorem dX4_readField_62 : decode cX4_readField 62 = .ok (.iastore, 1) := by decide +kernel
theorem dX4_readField_63 : decode cX4_readField 63 = .ok (.aload_n 0, 1) := by decide +kernel
theorem dX4_readField_64 : decode cX4_readField 64 = .ok (.getfield 12, 3) := by decide +kernel
theorem dX4_readField_67 : decode cX4_readField 67 = .ok (.iload_n 2, 1) := by decide +kernel
theorem dX4_readField_68 : decode cX4_readField 68 = .ok (.invokevirtual 103, 3) := by decide +kernel
theorem dX4_readField_71 : decode cX4_readField 71 = .ok (.istore_n 3, 1) := by decide +kernel
theorem dX4_readField_72 : decode cX4_readField 72 = .ok (.aload_n 0, 1) := by decide +kernel
theorem dX4_readField_73 : decode cX4_readField 73 = .ok (.iconst 0, 1) := by decide +kernel
theorem dX4_readField_74 : decode cX4_readField 74 = .ok (.bipush 7, 2) := by decide +kernel
theorem dX4_readField_76 : decode cX4_readField 76 = .ok (.invokevirtual 69, 3) := by decide +kernel
theorem dX4_readField_79 : decode cX4_readField 79 = .ok (.ifCond .ne 5, 3) := by decide +kernel
theorem dX4_readField_82 : decode cX4_readField 82 = .ok (.iconst 0, 1) := by decide +kernel
theorem dX4_readField_83 : decode cX4_readField 83 = .ok (.ireturn, 1) := by decide +kernel
theorem dX4_readField_84 : decode cX4_readField 84 = .ok (.aload_n 0, 1) := by decide +kernel
theorem dX4_readField_85 : decode cX4_readField 85 = .ok (.getfield 23, 3) := by decide +kernel
theorem dX4_readField_88 : decode cX4_readField 88 = .ok (.invokevirtual 77, 3) := by decide +kernel
theorem dX4_readField_91 : decode cX4_readField 91 = .ok (.istore 4, 2) := by decide +kernel
theorem dX4_readField_93 : decode cX4_readField 93 = .ok (.iload_n 3, 1) := by decide +kernel
theorem dX4_readField_94 : decode cX4_readField 94 = .ok (.iload 4, 2) := by decide +kernel
theorem dX4_readField_96 : decode cX4_readField 96 = .ok (.ishr, 1) := by decide +kernel
theorem dX4_readField_97 : decode cX4_readField 97 = .ok (.iconst 1, 1) := by decide +kernel
theorem dX4_readField_98 : decode cX4_readField 98 = .ok (.iand, 1) := by decide +kernel
theorem dX4_readField_99 : decode cX4_readField 99 = .ok (.ifCond .ne 14, 3) := by decide +kernel
theorem dX4_readField_102 : decode cX4_readField 102 = .ok (.aload_n 0, 1) := by decide +kernel
theorem dX4_readField_103 : decode cX4_readField 103 = .ok (.iload 4, 2) := by decide +kernel
theorem dX4_readField_105 : decode cX4_readField 105 = .ok (.bipush 7, 2) := by decide +kernel
theorem dX4_readField_107 : decode cX4_readField 107 = .ok (.invokevirtual 69, 3) := by decide +kernel
theorem dX4_readField_110 : decode cX4_readField 110 = .ok (.ifCond .ne 5, 3) := by decide +kernel
theorem dX4_readField_113 : decode cX4_readField 113 = .ok (.iconst 0, 1) := by decide +kernel
theorem dX4_readField_114 : decode cX4_readField 114 = .ok (.ireturn, 1) := by decide +kernel
theorem dX4_readField_115 : decode cX4_readField 115 = .ok (.aload_n 0, 1) := by decide +kernel
theorem dX4_readField_116 : decode cX4_readField 116 = .ok (.getfield 23, 3) := by decide +kernel
theorem dX4_readField_119 : decode cX4_readField 119 = .ok (.invokevirtual 77, 3) := by decide +kernel
theorem dX4_readField_122 : decode cX4_readField 122 = .ok (.istore 5, 2) := by decide +kernel
theorem dX4_readField_124 : decode cX4_readField 124 = .ok (.iconst 2, 1) := by decide +kernel
theorem dX4_readField_125 : decode cX4_readField 125 = .ok (.iload 5, 2) := by decide +kernel
theorem dX4_readField_127 : decode cX4_readField 127 = .ok (.ishl, 1) := by decide +kernel
theorem dX4_readField_128 : decode cX4_readField 128 = .ok (.iconst 1, 1) := by decide +kernel
theorem dX4_readField_129 : decode cX4_readField 129 = .ok (.iload 4, 2) := by decide +kernel
theorem dX4_readField_131 : decode cX4_readField 131 = .ok (.ishl, 1) := by decide +kernel
theorem dX4_readField_132 : decode cX4_readField 132 = .ok (.isub, 1) := by decide +kernel
theorem dX4_readField_133 : decode cX4_readField 133 = .ok (.istore 6, 2) := by decide +kernel
theorem dX4_readField_135 : decode cX4_readField 135 = .ok (.iload_n 3, 1) := by decide +kernel
theorem dX4_readField_136 : decode cX4_readField 136 = .ok (.iload 6, 2) := by decide +kernel
theorem dX4_readField_138 : decode cX4_readField 138 = .ok (.iand, 1) := by decide +kernel
theorem dX4_readField_139 : decode cX4_readField 139 = .ok (.ifCond .ne 16, 3) := by decide +kernel
theorem dX4_readField_142 : decode cX4_readField 142 = .ok (.aload_n 0, 1) := by decide +kernel
theorem dX4_readField_143 : decode cX4_readField 143 = .ok (.iconst 0, 1) := by decide +kernel
theorem dX4_readField_144 : decode cX4_readField 144 = .ok (.iload 6, 2) := by decide +kernel
theorem dX4_readField_146 : decode cX4_readField 146 = .ok (.iload 4, 2) := by decide +kernel
theorem dX4_readField_148 : decode cX4_readField 148 = .ok (.ishr, 1) := by decide +kernel
theorem dX4_readField_149 : decode cX4_readField 149 = .ok (.invokevirtual 69, 3) := by decide +kernel
theorem dX4_readField_152 : decode cX4_readField 152 = .ok (.ifCond .ne 5, 3) := by decide +kernel
theorem dX4_readField_155 : decode cX4_readField 155 = .ok (.iconst 0, 1) := by decide +kernel
theorem dX4_readField_156 : decode cX4_readField 156 = .ok (.ireturn, 1) := by decide +kernel
theorem dX4_readField_157 : decode cX4_readField 157 = .ok (.aload_n 0, 1) := by decide +kernel
theorem dX4_readField_158 : decode cX4_readField 158 = .ok (.getfield 12, 3) := by decide +kernel
theorem dX4_readField_161 : decode cX4_readField 161 = .ok (.getfield 107, 3) := by decide +kernel
theorem dX4_readField_164 : decode cX4_readField 164 = .ok (.iload_n 1, 1) := by decide +kernel
theorem dX4_readField_165 : decode cX4_readField 165 = .ok (.iload 4, 2) := by decide +kernel
theorem dX4_readField_167 : decode cX4_readField 167 = .ok (.iastore, 1) := by decide +kernel
theorem dX4_readField_168 : decode cX4_readField 168 = .ok (.aload_n 0, 1) := by decide +kernel
theorem dX4_readField_169 : decode cX4_readField 169 = .ok (.getfield 12, 3) := by decide +kernel
theorem dX4_readField_172 : decode cX4_readField 172 = .ok (.getfield 110, 3) := by decide +kernel
theorem dX4_readField_175 : decode cX4_readField 175 = .ok (.iload_n 1, 1) := by decide +kernel
theorem dX4_readField_176 : decode cX4_readField 176 = .ok (.iload 5, 2) := by decide +kernel
theorem dX4_readField_178 : decode cX4_readField 178 = .ok (.iastore, 1) := by decide +kernel
theorem dX4_readField_179 : decode cX4_readField 179 = .ok (.aload_n 0, 1) := by decide +kernel
theorem dX4_readField_180 : decode cX4_readField 180 = .ok (.getfield 12, 3) := by decide +kernel
theorem dX4_readField_183 : decode cX4_readField 183 = .ok (.getfield 113, 3) := by decide +kernel
theorem dX4_readField_186 : decode cX4_readField 186 = .ok (.iload_n 1, 1) := by decide +kernel
theorem dX4_readField_187 : decode cX4_readField 187 = .ok (.iload 6, 2) := by decide +kernel
theorem dX4_readField_189 : decode cX4_readField 189 = .ok (.iastore, 1) := by decide +kernel
theorem dX4_readField_190 : decode cX4_readField 190 = .ok (.aload_n 0, 1) := by decide +kernel
theorem dX4_readField_191 : decode cX4_readField 191 = .ok (.getfield 12, 3) := by decide +kernel
theorem dX4_readField_194 : decode cX4_readField 194 = .ok (.getfield 116, 3) := by decide +kernel
theorem dX4_readField_197 : decode cX4_readField 197 = .ok (.iload_n 1, 1) := by decide +kernel
theorem dX4_readField_198 : decode cX4_readField 198 = .ok (.aload_n 0, 1) := by decide +kernel
theorem dX4_readField_199 : decode cX4_readField 199 = .ok (.getfield 23, 3) := by decide +kernel
theorem dX4_readField_202 : decode cX4_readField 202 = .ok (.invokevirtual 77, 3) := by decide +kernel
theorem dX4_readField_205 : decode cX4_readField 205 = .ok (.iastore, 1) := by decide +kernel
theorem dX4_readField_206 : decode cX4_readField 206 = .ok (.aload_n 0, 1) := by decide +kernel
theorem dX4_readField_207 : decode cX4_readField 207 = .ok (.getfield 12, 3) := by decide +kernel
theorem dX4_readField_210 : decode cX4_readField 210 = .ok (.dup, 1) := by decide +kernel
theorem dX4_readField_211 : decode cX4_readField 211 = .ok (.getfield 89, 3) := by decide +kernel
theorem dX4_readField_214 : decode cX4_readField 214 = .ok (.iconst 1, 1) := by decide +kernel
theorem dX4_readField_215 : decode cX4_readField 215 = .ok (.iadd, 1) := by decide +kernel
theorem dX4_readField_216 : decode cX4_readField 216 = .ok (.putfield 89, 3) := by decide +kernel
theorem dX4_readField_219 : decode cX4_readField 219 = .ok (.aload_n 0, 1) := by decide +kernel
theorem dX4_readField_220 : decode cX4_readField 220 = .ok (.invokevirtual 86, 3) := by decide +kernel
theorem dX4_readField_223 : decode cX4_readField 223 = .ok (.ireturn, 1) := by decide +kernel
theorem dX4_readAlias_0 : decode cX4_readAlias 0 = .ok (.aload_n 0, 1) := by decide +kernel
theorem dX4_readAlias_1 : decode cX4_readAlias 1 = .ok (.getfield 12, 3) := by decide +kernel
theorem dX4_readAlias_4 : decode cX4_readAlias 4 = .ok (.getfield 119, 3) := by decide +kernel
theorem dX4_readAlias_7 : decode cX4_readAlias 7 = .ok (.istore_n 1, 1) := by decide +kernel
theorem dX4_readAlias_8 : decode cX4_readAlias 8 = .ok (.iload_n 1, 1) := by decide +kernel
theorem dX4_readAlias_9 : decode cX4_readAlias 9 = .ok (.iconst 4, 1) := by decide +kernel
theorem dX4_readAlias_10 : decode cX4_readAlias 10 = .ok (.if_icmp .ge 13, 3) := by decide +kernel
theorem dX4_readAlias_13 : decode cX4_readAlias 13 = .ok (.aload_n 0, 1) := by decide +kernel
theorem dX4_readAlias_14 : decode cX4_readAlias 14 = .ok (.iconst 0, 1) := by decide +kernel
theorem dX4_readAlias_15 : decode cX4_readAlias 15 = .ok (.bipush 15, 2) := by decide +kernel
theorem dX4_readAlias_17 : decode cX4_readAlias 17 = .ok (.invokevirtual 69, 3) := by decide +kernel
theorem dX4_readAlias_20 : decode cX4_readAlias 20 = .ok (.ifCond .ne 5, 3) := by decide +kernel
theorem dX4_readAlias_23 : decode cX4_readAlias 23 = .ok (.iconst 0, 1) := by decide +kernel
theorem dX4_readAlias_24 : decode cX4_readAlias 24 = .ok (.ireturn, 1) := by decide +kernel
theorem dX4_readAlias_25 : decode cX4_readAlias 25 = .ok (.aload_n 0, 1) := by decide +kernel
theorem dX4_readAlias_26 : decode cX4_readAlias 26 = .ok (.getfield 12, 3) := by decide +kernel
theorem dX4_readAlias_29 : decode cX4_readAlias 29 = .ok (.getfield 122, 3) := by decide +kernel
theorem dX4_readAlias_32 : decode cX4_readAlias 32 = .ok (.iload_n 1, 1) := by decide +kernel
theorem dX4_readAlias_33 : decode cX4_readAlias 33 = .ok (.aload_n 0, 1) := by decide +kernel
theorem dX4_readAlias_34 : decode cX4_readAlias 34 = .ok (.getfield 23, 3) := by decide +kernel
theorem dX4_readAlias_37 : decode cX4_readAlias 37 = .ok (.invokevirtual 77, 3) := by decide +kernel
theorem dX4_readAlias_40 : decode cX4_readAlias 40 = .ok (.iastore, 1) := by decide +kernel
theorem dX4_readAlias_41 : decode cX4_readAlias 41 = .ok (.aload_n 0, 1) := by decide +kernel
theorem dX4_readAlias_42 : decode cX4_readAlias 42 = .ok (.iconst 0, 1) := by decide +kernel
theorem dX4_readAlias_43 : decode cX4_readAlias 43 = .ok (.aload_n 0, 1) := by decide +kernel
theorem dX4_readAlias_44 : decode cX4_readAlias 44 = .ok (.getfield 12, 3) := by decide +kernel
theorem dX4_readAlias_47 : decode cX4_readAlias 47 = .ok (.getfield 66, 3) := by decide +kernel
theorem dX4_readAlias_50 : decode cX4_readAlias 50 = .ok (.iconst 1, 1) := by decide +kernel
theorem dX4_readAlias_51 : decode cX4_readAlias 51 = .ok (.isub, 1) := by decide +kernel
theorem dX4_readAlias_52 : decode cX4_readAlias 52 = .ok (.invokevirtual 69, 3) := by decide +kernel
theorem dX4_readAlias_55 : decode cX4_readAlias 55 = .ok (.ifCond .ne 5, 3) := by decide +kernel
theorem dX4_readAlias_58 : decode cX4_readAlias 58 = .ok (.iconst 0, 1) := by decide +kernel
theorem dX4_readAlias_59 : decode cX4_readAlias 59 = .ok (.ireturn, 1) := by decide +kernel
theorem dX4_readAlias_60 : decode cX4_readAlias 60 = .ok (.aload_n 0, 1) := by decide +kernel
theorem dX4_readAlias_61 : decode cX4_readAlias 61 = .ok (.getfield 12, 3) := by decide +kernel
theorem dX4_readAlias_64 : decode cX4_readAlias 64 = .ok (.getfield 125, 3) := by decide +kernel
theorem dX4_readAlias_67 : decode cX4_readAlias 67 = .ok (.iload_n 1, 1) := by decide +kernel
theorem dX4_readAlias_68 : decode cX4_readAlias 68 = .ok (.aload_n 0, 1) := by decide +kernel
theorem dX4_readAlias_69 : decode cX4_readAlias 69 = .ok (.getfield 23, 3) := by decide +kernel
theorem dX4_readAlias_72 : decode cX4_readAlias 72 = .ok (.invokevirtual 77, 3) := by decide +kernel
theorem dX4_readAlias_75 : decode cX4_readAlias 75 = .ok (.iastore, 1) := by decide +kernel
theorem dX4_readAlias_76 : decode cX4_readAlias 76 = .ok (.aload_n 0, 1) := by decide +kernel
theorem dX4_readAlias_77 : decode cX4_readAlias 77 = .ok (.invokevirtual 92, 3) := by decide +kernel
theorem dX4_readAlias_80 : decode cX4_readAlias 80 = .ok (.ifCond .eq 16, 3) := by decide +kernel
theorem dX4_readAlias_83 : decode cX4_readAlias 83 = .ok (.aload_n 0, 1) := by decide +kernel
theorem dX4_readAlias_84 : decode cX4_readAlias 84 = .ok (.getfield 23, 3) := by decide +kernel
theorem dX4_readAlias_87 : decode cX4_readAlias 87 = .ok (.invokevirtual 101, 3) := by decide +kernel
theorem dX4_readAlias_90 : decode cX4_readAlias 90 = .ok (.invokestatic 128, 3) := by decide +kernel
theorem dX4_readAlias_93 : decode cX4_readAlias 93 = .ok (.ifCond .ne 5, 3) := by decide +kernel
theorem dX4_readAlias_96 : decode cX4_readAlias 96 = .ok (.iconst 0, 1) := by decide +kernel
theorem dX4_readAlias_97 : decode cX4_readAlias 97 = .ok (.ireturn, 1) := by decide +kernel
theorem dX4_readAlias_98 : decode cX4_readAlias 98 = .ok (.aload_n 0, 1) := by decide +kernel
theorem dX4_readAlias_99 : decode cX4_readAlias 99 = .ok (.getfield 12, 3) := by decide +kernel
theorem dX4_readAlias_102 : decode cX4_readAlias 102 = .ok (.getfield 132, 3) := by decide +kernel
theorem dX4_readAlias_105 : decode cX4_readAlias 105 = .ok (.iload_n 1, 1) := by decide +kernel
theorem dX4_readAlias_106 : decode cX4_readAlias 106 = .ok (.aload_n 0, 1) := by decide +kernel
theorem dX4_readAlias_107 : decode cX4_readAlias 107 = .ok (.getfield 23, 3) := by decide +kernel
theorem dX4_readAlias_110 : decode cX4_readAlias 110 = .ok (.invokevirtual 101, 3) := by decide +kernel
theorem dX4_readAlias_113 : decode cX4_readAlias 113 = .ok (.iastore, 1) := by decide +kernel
theorem dX4_readAlias_114 : decode cX4_readAlias 114 = .ok (.aload_n 0, 1) := by decide +kernel
theorem dX4_readAlias_115 : decode cX4_readAlias 115 = .ok (.getfield 12, 3) := by decide +kernel
theorem dX4_readAlias_118 : decode cX4_readAlias 118 = .ok (.dup, 1) := by decide +kernel
theorem dX4_readAlias_119 : decode cX4_readAlias 119 = .ok (.getfield 119, 3) := by decide +kernel
theorem dX4_readAlias_122 : decode cX4_readAlias 122 = .ok (.iconst 1, 1) := by decide +kernel
theorem dX4_readAlias_123 : decode cX4_readAlias 123 = .ok (.iadd, 1) := by decide +kernel
theorem dX4_readAlias_124 : decode cX4_readAlias 124 = .ok (.putfield 119, 3) := by decide +kernel
theorem dX4_readAlias_127 : decode cX4_readAlias 127 = .ok (.aload_n 0, 1) := by decide +kernel
theorem dX4_readAlias_128 : decode cX4_readAlias 128 = .ok (.invokevirtual 86, 3) := by decide +kernel
theorem dX4_readAlias_131 : decode cX4_readAlias 131 = .ok (.ireturn, 1) := by decide +kernel
theorem dX4_suitsAlias_0 : decode cX4_suitsAlias 0 = .ok (.iload_n 0, 1) := by decide +kernel
theorem dX4_suitsAlias_1 : decode cX4_suitsAlias 1 = .ok (.ifCond .eq 23, 3) := by decide +kernel
theorem dX4_suitsAlias_4 : decode cX4_suitsAlias 4 = .ok (.iload_n 0, 1) := by decide +kernel
theorem dX4_suitsAlias_5 : decode cX4_suitsAlias 5 = .ok (.iconst 1, 1) := by decide +kernel
theorem dX4_suitsAlias_6 : decode cX4_suitsAlias 6 = .ok (.if_icmp .eq 18, 3) := by decide +kernel
theorem dX4_suitsAlias_9 : decode cX4_suitsAlias 9 = .ok (.iload_n 0, 1) := by decide +kernel
theorem dX4_suitsAlias_10 : decode cX4_suitsAlias 10 = .ok (.iconst 3, 1) := by decide +kernel
theorem dX4_suitsAlias_11 : decode cX4_suitsAlias 11 = .ok (.if_icmp .eq 13, 3) := by decide +kernel
theorem dX4_suitsAlias_14 : decode cX4_suitsAlias 14 = .ok (.iload_n 0, 1) := by decide +kernel
theorem dX4_suitsAlias_15 : decode cX4_suitsAlias 15 = .ok (.iconst 4, 1) := by decide +kernel
theorem dX4_suitsAlias_16 : decode cX4_suitsAlias 16 = .ok (.if_icmp .eq 8, 3) := by decide +kernel
theorem dX4_suitsAlias_19 : decode cX4_suitsAlias 19 = .ok (.iload_n 0, 1) := by decide +kernel
theorem dX4_suitsAlias_20 : decode cX4_suitsAlias 20 = .ok (.iconst 5, 1) := by decide +kernel
theorem dX4_suitsAlias_21 : decode cX4_suitsAlias 21 = .ok (.if_icmp .ne 7, 3) := by decide +kernel
theorem dX4_suitsAlias_24 : decode cX4_suitsAlias 24 = .ok (.iconst 1, 1) := by decide +kernel
theorem dX4_suitsAlias_25 : decode cX4_suitsAlias 25 = .ok (.goto 4, 3) := by decide +kernel
theorem dX4_suitsAlias_28 : decode cX4_suitsAlias 28 = .ok (.iconst 0, 1) := by decide +kernel
theorem dX4_suitsAlias_29 : decode cX4_suitsAlias 29 = .ok (.ireturn, 1) := by decide +kernel
theorem dX4_readLock_0 : decode cX4_readLock 0 = .ok (.aload_n 0, 1) := by decide +kernel
theorem dX4_readLock_1 : decode cX4_readLock 1 = .ok (.getfield 12, 3) := by decide +kernel
theorem dX4_readLock_4 : decode cX4_readLock 4 = .ok (.getfield 66, 3) := by decide +kernel
theorem dX4_readLock_7 : decode cX4_readLock 7 = .ok (.ifCond .eq 20, 3) := by decide +kernel
theorem dX4_readLock_10 : decode cX4_readLock 10 = .ok (.aload_n 0, 1) := by decide +kernel
theorem dX4_readLock_11 : decode cX4_readLock 11 = .ok (.iconst 0, 1) := by decide +kernel
theorem dX4_readLock_12 : decode cX4_readLock 12 = .ok (.aload_n 0, 1) := by decide +kernel
theorem dX4_readLock_13 : decode cX4_readLock 13 = .ok (.getfield 12, 3) := by decide +kernel
theorem dX4_readLock_16 : decode cX4_readLock 16 = .ok (.getfield 66, 3) := by decide +kernel
theorem dX4_readLock_19 : decode cX4_readLock 19 = .ok (.iconst 1, 1) := by decide +kernel
theorem dX4_readLock_20 : decode cX4_readLock 20 = .ok (.isub, 1) := by decide +kernel
theorem dX4_readLock_21 : decode cX4_readLock 21 = .ok (.invokevirtual 69, 3) := by decide +kernel
theorem dX4_readLock_24 : decode cX4_readLock 24 = .ok (.ifCond .ne 5, 3) := by decide +kernel
theorem dX4_readLock_27 : decode cX4_readLock 27 = .ok (.iconst 0, 1) := by decide +kernel
theorem dX4_readLock_28 : decode cX4_readLock 28 = .ok (.ireturn, 1) := by decide +kernel
theorem dX4_readLock_29 : decode cX4_readLock 29 = .ok (.aload_n 0, 1) := by decide +kernel
theorem dX4_readLock_30 : decode cX4_readLock 30 = .ok (.getfield 23, 3) := by decide +kernel
theorem dX4_readLock_33 : decode cX4_readLock 33 = .ok (.invokevirtual 77, 3) := by decide +kernel
theorem dX4_readLock_36 : decode cX4_readLock 36 = .ok (.istore_n 1, 1) := by decide +kernel
theorem dX4_readLock_37 : decode cX4_readLock 37 = .ok (.aload_n 0, 1) := by decide +kernel
theorem dX4_readLock_38 : decode cX4_readLock 38 = .ok (.getfield 12, 3) := by decide +kernel
theorem dX4_readLock_41 : decode cX4_readLock 41 = .ok (.getfield 80, 3) := by decide +kernel
theorem dX4_readLock_44 : decode cX4_readLock 44 = .ok (.iload_n 1, 1) := by decide +kernel
theorem dX4_readLock_45 : decode cX4_readLock 45 = .ok (.iaload, 1) := by decide +kernel
theorem dX4_readLock_46 : decode cX4_readLock 46 = .ok (.bipush (-9), 2) := by decide +kernel
theorem dX4_readLock_48 : decode cX4_readLock 48 = .ok (.if_icmp .ne 20, 3) := by decide +kernel
theorem dX4_readLock_51 : decode cX4_readLock 51 = .ok (.aload_n 0, 1) := by decide +kernel
theorem dX4_readLock_52 : decode cX4_readLock 52 = .ok (.iconst 0, 1) := by decide +kernel
theorem dX4_readLock_53 : decode cX4_readLock 53 = .ok (.aload_n 0, 1) := by decide +kernel
theorem dX4_readLock_54 : decode cX4_readLock 54 = .ok (.getfield 12, 3) := by decide +kernel
theorem dX4_readLock_57 : decode cX4_readLock 57 = .ok (.getfield 89, 3) := by decide +kernel
theorem dX4_readLock_60 : decode cX4_readLock 60 = .ok (.iconst 1, 1) := by decide +kernel
theorem dX4_readLock_61 : decode cX4_readLock 61 = .ok (.isub, 1) := by decide +kernel
theorem dX4_readLock_62 : decode cX4_readLock 62 = .ok (.invokevirtual 69, 3) := by decide +kernel
theorem dX4_readLock_65 : decode cX4_readLock 65 = .ok (.ifCond .ne 5, 3) := by decide +kernel
theorem dX4_readLock_68 : decode cX4_readLock 68 = .ok (.iconst 0, 1) := by decide +kernel
theorem dX4_readLock_69 : decode cX4_readLock 69 = .ok (.ireturn, 1) := by decide +kernel
theorem dX4_readLock_70 : decode cX4_readLock 70 = .ok (.aload_n 0, 1) := by decide +kernel
theorem dX4_readLock_71 : decode cX4_readLock 71 = .ok (.getfield 12, 3) := by decide +kernel
theorem dX4_readLock_74 : decode cX4_readLock 74 = .ok (.getfield 80, 3) := by decide +kernel
theorem dX4_readLock_77 : decode cX4_readLock 77 = .ok (.iload_n 1, 1) := by decide +kernel
theorem dX4_readLock_78 : decode cX4_readLock 78 = .ok (.aload_n 0, 1) := by decide +kernel
theorem dX4_readLock_79 : decode cX4_readLock 79 = .ok (.getfield 23, 3) := by decide +kernel
theorem dX4_readLock_82 : decode cX4_readLock 82 = .ok (.invokevirtual 77, 3) := by decide +kernel
theorem dX4_readLock_85 : decode cX4_readLock 85 = .ok (.iastore, 1) := by decide +kernel
theorem dX4_readLock_86 : decode cX4_readLock 86 = .ok (.aload_n 0, 1) := by decide +kernel
theorem dX4_readLock_87 : decode cX4_readLock 87 = .ok (.invokevirtual 86, 3) := by decide +kernel
theorem dX4_readLock_90 : decode cX4_readLock 90 = .ok (.ireturn, 1) := by decide +kernel
theorem dX4_readGate_0 : decode cX4_readGate 0 = .ok (.aload_n 0, 1) := by decide +kernel
theorem dX4_readGate_1 : decode cX4_readGate 1 = .ok (.getfield 12, 3) := by decide +kernel
theorem dX4_readGate_4 : decode cX4_readGate 4 = .ok (.getfield 66, 3) := by decide +kernel
theorem dX4_readGate_7 : decode cX4_readGate 7 = .ok (.ifCond .eq 20, 3) := by decide +kernel
theorem dX4_readGate_10 : decode cX4_readGate 10 = .ok (.aload_n 0, 1) := by decide +kernel
theorem dX4_readGate_11 : decode cX4_readGate 11 = .ok (.iconst 0, 1) := by decide +kernel
theorem dX4_readGate_12 : decode cX4_readGate 12 = .ok (.aload_n 0, 1) := by decide +kernel
theorem dX4_readGate_13 : decode cX4_readGate 13 = .ok (.getfield 12, 3) := by decide +kernel
theorem dX4_readGate_16 : decode cX4_readGate 16 = .ok (.getfield 66, 3) := by decide +kernel
theorem dX4_readGate_19 : decode cX4_readGate 19 = .ok (.iconst 1, 1) := by decide +kernel
theorem dX4_readGate_20 : decode cX4_readGate 20 = .ok (.isub, 1) := by decide +kernel
theorem dX4_readGate_21 : decode cX4_readGate 21 = .ok (.invokevirtual 69, 3) := by decide +kernel
theorem dX4_readGate_24 : decode cX4_readGate 24 = .ok (.ifCond .ne 5, 3) := by decide +kernel
theorem dX4_readGate_27 : decode cX4_readGate 27 = .ok (.iconst 0, 1) := by decide +kernel
theorem dX4_readGate_28 : decode cX4_readGate 28 = .ok (.ireturn, 1) := by decide +kernel
theorem dX4_readGate_29 : decode cX4_readGate 29 = .ok (.aload_n 0, 1) := by decide +kernel
theorem dX4_readGate_30 : decode cX4_readGate 30 = .ok (.getfield 23, 3) := by decide +kernel
theorem dX4_readGate_33 : decode cX4_readGate 33 = .ok (.invokevirtual 77, 3) := by decide +kernel
theorem dX4_readGate_36 : decode cX4_readGate 36 = .ok (.istore_n 1, 1) := by decide +kernel
theorem dX4_readGate_37 : decode cX4_readGate 37 = .ok (.aload_n 0, 1) := by decide +kernel
theorem dX4_readGate_38 : decode cX4_readGate 38 = .ok (.getfield 12, 3) := by decide +kernel
theorem dX4_readGate_41 : decode cX4_readGate 41 = .ok (.getfield 83, 3) := by decide +kernel
theorem dX4_readGate_44 : decode cX4_readGate 44 = .ok (.iload_n 1, 1) := by decide +kernel
theorem dX4_readGate_45 : decode cX4_readGate 45 = .ok (.iaload, 1) := by decide +kernel
theorem dX4_readGate_46 : decode cX4_readGate 46 = .ok (.bipush (-9), 2) := by decide +kernel
theorem dX4_readGate_48 : decode cX4_readGate 48 = .ok (.if_icmp .ne 20, 3) := by decide +kernel
theorem dX4_readGate_51 : decode cX4_readGate 51 = .ok (.aload_n 0, 1) := by decide +kernel
theorem dX4_readGate_52 : decode cX4_readGate 52 = .ok (.iconst 0, 1) := by decide +kernel
theorem dX4_readGate_53 : decode cX4_readGate 53 = .ok (.aload_n 0, 1) := by decide +kernel
theorem dX4_readGate_54 : decode cX4_readGate 54 = .ok (.getfield 12, 3) := by decide +kernel
theorem dX4_readGate_57 : decode cX4_readGate 57 = .ok (.getfield 89, 3) := by decide +kernel
theorem dX4_readGate_60 : decode cX4_readGate 60 = .ok (.iconst 1, 1) := by decide +kernel
theorem dX4_readGate_61 : decode cX4_readGate 61 = .ok (.isub, 1) := by decide +kernel
theorem dX4_readGate_62 : decode cX4_readGate 62 = .ok (.invokevirtual 69, 3) := by decide +kernel
theorem dX4_readGate_65 : decode cX4_readGate 65 = .ok (.ifCond .ne 5, 3) := by decide +kernel
theorem dX4_readGate_68 : decode cX4_readGate 68 = .ok (.iconst 0, 1) := by decide +kernel
theorem dX4_readGate_69 : decode cX4_readGate 69 = .ok (.ireturn, 1) := by decide +kernel
theorem dX4_readGate_70 : decode cX4_readGate 70 = .ok (.aload_n 0, 1) := by decide +kernel
theorem dX4_readGate_71 : decode cX4_readGate 71 = .ok (.getfield 23, 3) := by decide +kernel
theorem dX4_readGate_74 : decode cX4_readGate 74 = .ok (.invokevirtual 77, 3) := by decide +kernel
theorem dX4_readGate_77 : decode cX4_readGate 77 = .ok (.istore_n 2, 1) := by decide +kernel
theorem dX4_readGate_78 : decode cX4_readGate 78 = .ok (.aload_n 0, 1) := by decide +kernel
theorem dX4_readGate_79 : decode cX4_readGate 79 = .ok (.getfield 12, 3) := by decide +kernel
theorem dX4_readGate_82 : decode cX4_readGate 82 = .ok (.getfield 95, 3) := by decide +kernel
theorem dX4_readGate_85 : decode cX4_readGate 85 = .ok (.iload_n 2, 1) := by decide +kernel
theorem dX4_readGate_86 : decode cX4_readGate 86 = .ok (.iaload, 1) := by decide +kernel
theorem dX4_readGate_87 : decode cX4_readGate 87 = .ok (.iload_n 1, 1) := by decide +kernel
theorem dX4_readGate_88 : decode cX4_readGate 88 = .ok (.if_icmp .ne 5, 3) := by decide +kernel
theorem dX4_readGate_91 : decode cX4_readGate 91 = .ok (.iconst 0, 1) := by decide +kernel
theorem dX4_readGate_92 : decode cX4_readGate 92 = .ok (.ireturn, 1) := by decide +kernel
theorem dX4_readGate_93 : decode cX4_readGate 93 = .ok (.aload_n 0, 1) := by decide +kernel
theorem dX4_readGate_94 : decode cX4_readGate 94 = .ok (.getfield 12, 3) := by decide +kernel
theorem dX4_readGate_97 : decode cX4_readGate 97 = .ok (.getfield 83, 3) := by decide +kernel
theorem dX4_readGate_100 : decode cX4_readGate 100 = .ok (.iload_n 1, 1) := by decide +kernel
theorem dX4_readGate_101 : decode cX4_readGate 101 = .ok (.iload_n 2, 1) := by decide +kernel
theorem dX4_readGate_102 : decode cX4_readGate 102 = .ok (.iastore, 1) := by decide +kernel
theorem dX4_readGate_103 : decode cX4_readGate 103 = .ok (.aload_n 0, 1) := by decide +kernel
theorem dX4_readGate_104 : decode cX4_readGate 104 = .ok (.invokevirtual 86, 3) := by decide +kernel
theorem dX4_readGate_107 : decode cX4_readGate 107 = .ok (.ireturn, 1) := by decide +kernel
theorem dX4_takeNumber_0 : decode cX4_takeNumber 0 = .ok (.aload_n 0, 1) := by decide +kernel
theorem dX4_takeNumber_1 : decode cX4_takeNumber 1 = .ok (.getfield 23, 3) := by decide +kernel
theorem dX4_takeNumber_4 : decode cX4_takeNumber 4 = .ok (.invokevirtual 33, 3) := by decide +kernel
theorem dX4_takeNumber_7 : decode cX4_takeNumber 7 = .ok (.aload_n 0, 1) := by decide +kernel
theorem dX4_takeNumber_8 : decode cX4_takeNumber 8 = .ok (.getfield 23, 3) := by decide +kernel
theorem dX4_takeNumber_11 : decode cX4_takeNumber 11 = .ok (.invokevirtual 77, 3) := by decide +kernel
theorem dX4_takeNumber_14 : decode cX4_takeNumber 14 = .ok (.istore_n 3, 1) := by decide +kernel
theorem dX4_takeNumber_15 : decode cX4_takeNumber 15 = .ok (.iload_n 3, 1) := by decide +kernel
theorem dX4_takeNumber_16 : decode cX4_takeNumber 16 = .ok (.bipush (-9), 2) := by decide +kernel
theorem dX4_takeNumber_18 : decode cX4_takeNumber 18 = .ok (.if_icmp .eq 17, 3) := by decide +kernel
theorem dX4_takeNumber_21 : decode cX4_takeNumber 21 = .ok (.iload_n 3, 1) := by decide +kernel
theorem dX4_takeNumber_22 : decode cX4_takeNumber 22 = .ok (.iload_n 1, 1) := by decide +kernel
theorem dX4_takeNumber_23 : decode cX4_takeNumber 23 = .ok (.if_icmp .lt 12, 3) := by decide +kernel
theorem dX4_takeNumber_26 : decode cX4_takeNumber 26 = .ok (.iload_n 3, 1) := by decide +kernel
theorem dX4_takeNumber_27 : decode cX4_takeNumber 27 = .ok (.iload_n 2, 1) := by decide +kernel
theorem dX4_takeNumber_28 : decode cX4_takeNumber 28 = .ok (.if_icmp .gt 7, 3) := by decide +kernel
theorem dX4_takeNumber_31 : decode cX4_takeNumber 31 = .ok (.iconst 1, 1) := by decide +kernel
theorem dX4_takeNumber_32 : decode cX4_takeNumber 32 = .ok (.goto 4, 3) := by decide +kernel
theorem dX4_takeNumber_35 : decode cX4_takeNumber 35 = .ok (.iconst 0, 1) := by decide +kernel
theorem dX4_takeNumber_36 : decode cX4_takeNumber 36 = .ok (.ireturn, 1) := by decide +kernel
theorem dX4_takeKind_0 : decode cX4_takeKind 0 = .ok (.aload_n 0, 1) := by decide +kernel
theorem dX4_takeKind_1 : decode cX4_takeKind 1 = .ok (.getfield 23, 3) := by decide +kernel
theorem dX4_takeKind_4 : decode cX4_takeKind 4 = .ok (.invokevirtual 33, 3) := by decide +kernel
theorem dX4_takeKind_7 : decode cX4_takeKind 7 = .ok (.aload_n 0, 1) := by decide +kernel
theorem dX4_takeKind_8 : decode cX4_takeKind 8 = .ok (.getfield 23, 3) := by decide +kernel
theorem dX4_takeKind_11 : decode cX4_takeKind 11 = .ok (.invokevirtual 101, 3) := by decide +kernel
theorem dX4_takeKind_14 : decode cX4_takeKind 14 = .ok (.bipush (-9), 2) := by decide +kernel
theorem dX4_takeKind_16 : decode cX4_takeKind 16 = .ok (.if_icmp .eq 7, 3) := by decide +kernel
theorem dX4_takeKind_19 : decode cX4_takeKind 19 = .ok (.iconst 1, 1) := by decide +kernel
theorem dX4_takeKind_20 : decode cX4_takeKind 20 = .ok (.goto 4, 3) := by decide +kernel
theorem dX4_takeKind_23 : decode cX4_takeKind 23 = .ok (.iconst 0, 1) := by decide +kernel
theorem dX4_takeKind_24 : decode cX4_takeKind 24 = .ok (.ireturn, 1) := by decide +kernel
theorem dX4_takeSemicolon_0 : decode cX4_takeSemicolon 0 = .ok (.aload_n 0, 1) := by decide +kernel
theorem dX4_takeSemicolon_1 : decode cX4_takeSemicolon 1 = .ok (.getfield 23, 3) := by decide +kernel
theorem dX4_takeSemicolon_4 : decode cX4_takeSemicolon 4 = .ok (.invokevirtual 33, 3) := by decide +kernel
theorem dX4_takeSemicolon_7 : decode cX4_takeSemicolon 7 = .ok (.aload_n 0, 1) := by decide +kernel
theorem dX4_takeSemicolon_8 : decode cX4_takeSemicolon 8 = .ok (.getfield 23, 3) := by decide +kernel
theorem dX4_takeSemicolon_11 : decode cX4_takeSemicolon 11 = .ok (.getfield 36, 3) := by decide +kernel
theorem dX4_takeSemicolon_14 : decode cX4_takeSemicolon 14 = .ok (.iconst 3, 1) := by decide +kernel
theorem dX4_takeSemicolon_15 : decode cX4_takeSemicolon 15 = .ok (.if_icmp .ne 7, 3) := by decide +kernel
theorem dX4_takeSemicolon_18 : decode cX4_takeSemicolon 18 = .ok (.iconst 1, 1) := by decide +kernel
theorem dX4_takeSemicolon_19 : decode cX4_takeSemicolon 19 = .ok (.goto 4, 3) := by decide +kernel
theorem dX4_takeSemicolon_22 : decode cX4_takeSemicolon 22 = .ok (.iconst 0, 1) := by decide +kernel
theorem dX4_takeSemicolon_23 : decode cX4_takeSemicolon 23 = .ok (.ireturn, 1) := by decide +kernel
theorem dX7_rewind_0 : decode cX7_rewind 0 = .ok (.aload_n 0, 1) := by decide +kernel
theorem dX7_rewind_1 : decode cX7_rewind 1 = .ok (.iconst 0, 1) := by decide +kernel
theorem dX7_rewind_2 : decode cX7_rewind 2 = .ok (.putfield 15, 3) := by decide +kernel
theorem dX7_rewind_5 : decode cX7_rewind 5 = .ok (.return_, 1) := by decide +kernel
theorem dX7_advance_0 : decode cX7_advance 0 = .ok (.aload_n 0, 1) := by decide +kernel
theorem dX7_advance_1 : decode cX7_advance 1 = .ok (.aload_n 0, 1) := by decide +kernel
theorem dX7_advance_2 : decode cX7_advance 2 = .ok (.getfield 15, 3) := by decide +kernel
theorem dX7_advance_5 : decode cX7_advance 5 = .ok (.putfield 19, 3) := by decide +kernel
theorem dX7_advance_8 : decode cX7_advance 8 = .ok (.aload_n 0, 1) := by decide +kernel
theorem dX7_advance_9 : decode cX7_advance 9 = .ok (.getfield 19, 3) := by decide +kernel
theorem dX7_advance_12 : decode cX7_advance 12 = .ok (.aload_n 0, 1) := by decide +kernel
theorem dX7_advance_13 : decode cX7_advance 13 = .ok (.getfield 9, 3) := by decide +kernel
theorem dX7_advance_16 : decode cX7_advance 16 = .ok (.getfield 22, 3) := by decide +kernel
theorem dX7_advance_19 : decode cX7_advance 19 = .ok (.if_icmp .ge 33, 3) := by decide +kernel
theorem dX7_advance_22 : decode cX7_advance 22 = .ok (.aload_n 0, 1) := by decide +kernel
theorem dX7_advance_23 : decode cX7_advance 23 = .ok (.getfield 9, 3) := by decide +kernel
theorem dX7_advance_26 : decode cX7_advance 26 = .ok (.getfield 27, 3) := by decide +kernel
theorem dX7_advance_29 : decode cX7_advance 29 = .ok (.aload_n 0, 1) := by decide +kernel
theorem dX7_advance_30 : decode cX7_advance 30 = .ok (.getfield 19, 3) := by decide +kernel
theorem dX7_advance_33 : decode cX7_advance 33 = .ok (.iaload, 1) := by decide +kernel
theorem dX7_advance_34 : decode cX7_advance 34 = .ok (.bipush 32, 2) := by decide +kernel
theorem dX7_advance_36 : decode cX7_advance 36 = .ok (.if_icmp .ne 16, 3) := by decide +kernel
theorem dX7_advance_39 : decode cX7_advance 39 = .ok (.aload_n 0, 1) := by decide +kernel
theorem dX7_advance_40 : decode cX7_advance 40 = .ok (.dup, 1) := by decide +kernel
theorem dX7_advance_41 : decode cX7_advance 41 = .ok (.getfield 19, 3) := by decide +kernel
theorem dX7_advance_44 : decode cX7_advance 44 = .ok (.iconst 1, 1) := by decide +kernel
theorem dX7_advance_45 : decode cX7_advance 45 = .ok (.iadd, 1) := by decide +kernel
theorem dX7_advance_46 : decode cX7_advance 46 = .ok (.putfield 19, 3) := by decide +kernel
theorem dX7_advance_49 : decode cX7_advance 49 = .ok (.goto (-41), 3) := by decide +kernel
theorem dX7_advance_52 : decode cX7_advance 52 = .ok (.aload_n 0, 1) := by decide +kernel
theorem dX7_advance_53 : decode cX7_advance 53 = .ok (.aload_n 0, 1) := by decide +kernel
theorem dX7_advance_54 : decode cX7_advance 54 = .ok (.getfield 19, 3) := by decide +kernel
theorem dX7_advance_57 : decode cX7_advance 57 = .ok (.putfield 15, 3) := by decide +kernel
theorem dX7_advance_60 : decode cX7_advance 60 = .ok (.aload_n 0, 1) := by decide +kernel
theorem dX7_advance_61 : decode cX7_advance 61 = .ok (.getfield 19, 3) := by decide +kernel
theorem dX7_advance_64 : decode cX7_advance 64 = .ok (.aload_n 0, 1) := by decide +kernel
theorem dX7_advance_65 : decode cX7_advance 65 = .ok (.getfield 9, 3) := by decide +kernel
theorem dX7_advance_68 : decode cX7_advance 68 = .ok (.getfield 22, 3) := by decide +kernel
theorem dX7_advance_71 : decode cX7_advance 71 = .ok (.if_icmp .lt 11, 3) := by decide +kernel
theorem dX7_advance_74 : decode cX7_advance 74 = .ok (.aload_n 0, 1) := by decide +kernel
theorem dX7_advance_75 : decode cX7_advance 75 = .ok (.iconst 4, 1) := by decide +kernel
theorem dX7_advance_76 : decode cX7_advance 76 = .ok (.putfield 31, 3) := by decide +kernel
theorem dX7_advance_79 : decode cX7_advance 79 = .ok (.goto 159, 3) := by decide +kernel
theorem dX7_advance_82 : decode cX7_advance 82 = .ok (.aload_n 0, 1) := by decide +kernel
theorem dX7_advance_83 : decode cX7_advance 83 = .ok (.getfield 9, 3) := by decide +kernel
theorem dX7_advance_86 : decode cX7_advance 86 = .ok (.aload_n 0, 1) := by decide +kernel
theorem dX7_advance_87 : decode cX7_advance 87 = .ok (.getfield 19, 3) := by decide +kernel
theorem dX7_advance_90 : decode cX7_advance 90 = .ok (.invokevirtual 34, 3) := by decide +kernel
theorem dX7_advance_93 : decode cX7_advance 93 = .ok (.ifCond .eq 49, 3) := by decide +kernel
theorem dX7_advance_96 : decode cX7_advance 96 = .ok (.aload_n 0, 1) := by decide +kernel
theorem dX7_advance_97 : decode cX7_advance 97 = .ok (.iconst 1, 1) := by decide +kernel
theorem dX7_advance_98 : decode cX7_advance 98 = .ok (.putfield 31, 3) := by decide +kernel
theorem dX7_advance_101 : decode cX7_advance 101 = .ok (.aload_n 0, 1) := by decide +kernel
theorem dX7_advance_102 : decode cX7_advance 102 = .ok (.getfield 15, 3) := by decide +kernel
theorem dX7_advance_105 : decode cX7_advance 105 = .ok (.aload_n 0, 1) := by decide +kernel
theorem dX7_advance_106 : decode cX7_advance 106 = .ok (.getfield 9, 3) := by decide +kernel
theorem dX7_advance_109 : decode cX7_advance 109 = .ok (.getfield 22, 3) := by decide +kernel
theorem dX7_advance_112 : decode cX7_advance 112 = .ok (.if_icmp .ge 126, 3) := by decide +kernel
theorem dX7_advance_115 : decode cX7_advance 115 = .ok (.aload_n 0, 1) := by decide +kernel
theorem dX7_advance_116 : decode cX7_advance 116 = .ok (.getfield 9, 3) := by decide +kernel
theorem dX7_advance_119 : decode cX7_advance 119 = .ok (.aload_n 0, 1) := by decide +kernel
theorem dX7_advance_120 : decode cX7_advance 120 = .ok (.getfield 15, 3) := by decide +kernel
theorem dX7_advance_123 : decode cX7_advance 123 = .ok (.invokevirtual 34, 3) := by decide +kernel
theorem dX7_advance_126 : decode cX7_advance 126 = .ok (.ifCond .eq 112, 3) := by decide +kernel
theorem dX7_advance_129 : decode cX7_advance 129 = .ok (.aload_n 0, 1) := by decide +kernel
theorem dX7_advance_130 : decode cX7_advance 130 = .ok (.dup, 1) := by decide +kernel
theorem dX7_advance_131 : decode cX7_advance 131 = .ok (.getfield 15, 3) := by decide +kernel
theorem dX7_advance_134 : decode cX7_advance 134 = .ok (.iconst 1, 1) := by decide +kernel
theorem dX7_advance_135 : decode cX7_advance 135 = .ok (.iadd, 1) := by decide +kernel
theorem dX7_advance_136 : decode cX7_advance 136 = .ok (.putfield 15, 3) := by decide +kernel
theorem dX7_advance_139 : decode cX7_advance 139 = .ok (.goto (-38), 3) := by decide +kernel
theorem dX7_advance_142 : decode cX7_advance 142 = .ok (.aload_n 0, 1) := by decide +kernel
theorem dX7_advance_143 : decode cX7_advance 143 = .ok (.getfield 9, 3) := by decide +kernel
theorem dX7_advance_146 : decode cX7_advance 146 = .ok (.aload_n 0, 1) := by decide +kernel
theorem dX7_advance_147 : decode cX7_advance 147 = .ok (.getfield 19, 3) := by decide +kernel
theorem dX7_advance_150 : decode cX7_advance 150 = .ok (.invokevirtual 38, 3) := by decide +kernel
theorem dX7_advance_153 : decode cX7_advance 153 = .ok (.ifCond .eq 49, 3) := by decide +kernel
theorem dX7_advance_156 : decode cX7_advance 156 = .ok (.aload_n 0, 1) := by decide +kernel
theorem dX7_advance_157 : decode cX7_advance 157 = .ok (.iconst 2, 1) := by decide +kernel
theorem dX7_advance_158 : decode cX7_advance 158 = .ok (.putfield 31, 3) := by decide +kernel
theorem dX7_advance_161 : decode cX7_advance 161 = .ok (.aload_n 0, 1) := by decide +kernel
theorem dX7_advance_162 : decode cX7_advance 162 = .ok (.getfield 15, 3) := by decide +kernel
theorem dX7_advance_165 : decode cX7_advance 165 = .ok (.aload_n 0, 1) := by decide +kernel
theorem dX7_advance_166 : decode cX7_advance 166 = .ok (.getfield 9, 3) := by decide +kernel
theorem dX7_advance_169 : decode cX7_advance 169 = .ok (.getfield 22, 3) := by decide +kernel
theorem dX7_advance_172 : decode cX7_advance 172 = .ok (.if_icmp .ge 66, 3) := by decide +kernel
theorem dX7_advance_175 : decode cX7_advance 175 = .ok (.aload_n 0, 1) := by decide +kernel
theorem dX7_advance_176 : decode cX7_advance 176 = .ok (.getfield 9, 3) := by decide +kernel
theorem dX7_advance_179 : decode cX7_advance 179 = .ok (.aload_n 0, 1) := by decide +kernel
theorem dX7_advance_180 : decode cX7_advance 180 = .ok (.getfield 15, 3) := by decide +kernel
theorem dX7_advance_183 : decode cX7_advance 183 = .ok (.invokevirtual 38, 3) := by decide +kernel
theorem dX7_advance_186 : decode cX7_advance 186 = .ok (.ifCond .eq 52, 3) := by decide +kernel
theorem dX7_advance_189 : decode cX7_advance 189 = .ok (.aload_n 0, 1) := by decide +kernel
theorem dX7_advance_190 : decode cX7_advance 190 = .ok (.dup, 1) := by decide +kernel
theorem dX7_advance_191 : decode cX7_advance 191 = .ok (.getfield 15, 3) := by decide +kernel
theorem dX7_advance_194 : decode cX7_advance 194 = .ok (.iconst 1, 1) := by decide +kernel
theorem dX7_advance_195 : decode cX7_advance 195 = .ok (.iadd, 1) := by decide +kernel
theorem dX7_advance_196 : decode cX7_advance 196 = .ok (.putfield 15, 3) := by decide +kernel
theorem dX7_advance_199 : decode cX7_advance 199 = .ok (.goto (-38), 3) := by decide +kernel
theorem dX7_advance_202 : decode cX7_advance 202 = .ok (.aload_n 0, 1) := by decide +kernel
theorem dX7_advance_203 : decode cX7_advance 203 = .ok (.aload_n 0, 1) := by decide +kernel
theorem dX7_advance_204 : decode cX7_advance 204 = .ok (.getfield 9, 3) := by decide +kernel
theorem dX7_advance_207 : decode cX7_advance 207 = .ok (.getfield 27, 3) := by decide +kernel
theorem dX7_advance_210 : decode cX7_advance 210 = .ok (.aload_n 0, 1) := by decide +kernel
theorem dX7_advance_211 : decode cX7_advance 211 = .ok (.getfield 19, 3) := by decide +kernel
theorem dX7_advance_214 : decode cX7_advance 214 = .ok (.iaload, 1) := by decide +kernel
theorem dX7_advance_215 : decode cX7_advance 215 = .ok (.bipush 59, 2) := by decide +kernel
theorem dX7_advance_217 : decode cX7_advance 217 = .ok (.if_icmp .ne 7, 3) := by decide +kernel
theorem dX7_advance_220 : decode cX7_advance 220 = .ok (.iconst 3, 1) := by decide +kernel
theorem dX7_advance_221 : decode cX7_advance 221 = .ok (.goto 4, 3) := by decide +kernel
theorem dX7_advance_224 : decode cX7_advance 224 = .ok (.iconst 0, 1) := by decide +kernel
theorem dX7_advance_225 : decode cX7_advance 225 = .ok (.putfield 31, 3) := by decide +kernel
theorem dX7_advance_228 : decode cX7_advance 228 = .ok (.aload_n 0, 1) := by decide +kernel
theorem dX7_advance_229 : decode cX7_advance 229 = .ok (.dup, 1) := by decide +kernel
theorem dX7_advance_230 : decode cX7_advance 230 = .ok (.getfield 15, 3) := by decide +kernel
theorem dX7_advance_233 : decode cX7_advance 233 = .ok (.iconst 1, 1) := by decide +kernel
theorem dX7_advance_234 : decode cX7_advance 234 = .ok (.iadd, 1) := by decide +kernel
theorem dX7_advance_235 : decode cX7_advance 235 = .ok (.putfield 15, 3) := by decide +kernel
theorem dX7_advance_238 : decode cX7_advance 238 = .ok (.return_, 1) := by decide +kernel
theorem dX7_letter_0 : decode cX7_letter 0 = .ok (.aload_n 0, 1) := by decide +kernel
theorem dX7_letter_1 : decode cX7_letter 1 = .ok (.getfield 31, 3) := by decide +kernel
theorem dX7_letter_4 : decode cX7_letter 4 = .ok (.iconst 1, 1) := by decide +kernel
theorem dX7_letter_5 : decode cX7_letter 5 = .ok (.if_icmp .ne 31, 3) := by decide +kernel
theorem dX7_letter_8 : decode cX7_letter 8 = .ok (.aload_n 0, 1) := by decide +kernel
theorem dX7_letter_9 : decode cX7_letter 9 = .ok (.getfield 15, 3) := by decide +kernel
theorem dX7_letter_12 : decode cX7_letter 12 = .ok (.aload_n 0, 1) := by decide +kernel
theorem dX7_letter_13 : decode cX7_letter 13 = .ok (.getfield 19, 3) := by decide +kernel
theorem dX7_letter_16 : decode cX7_letter 16 = .ok (.isub, 1) := by decide +kernel
theorem dX7_letter_17 : decode cX7_letter 17 = .ok (.iconst 1, 1) := by decide +kernel
theorem dX7_letter_18 : decode cX7_letter 18 = .ok (.if_icmp .ne 18, 3) := by decide +kernel
theorem dX7_letter_21 : decode cX7_letter 21 = .ok (.aload_n 0, 1) := by decide +kernel
theorem dX7_letter_22 : decode cX7_letter 22 = .ok (.getfield 9, 3) := by decide +kernel
theorem dX7_letter_25 : decode cX7_letter 25 = .ok (.getfield 27, 3) := by decide +kernel
theorem dX7_letter_28 : decode cX7_letter 28 = .ok (.aload_n 0, 1) := by decide +kernel
theorem dX7_letter_29 : decode cX7_letter 29 = .ok (.getfield 19, 3) := by decide +kernel
theorem dX7_letter_32 : decode cX7_letter 32 = .ok (.iaload, 1) := by decide +kernel
theorem dX7_letter_33 : decode cX7_letter 33 = .ok (.goto 5, 3) := by decide +kernel
theorem dX7_letter_36 : decode cX7_letter 36 = .ok (.bipush (-9), 2) := by decide +kernel
theorem dX7_letter_38 : decode cX7_letter 38 = .ok (.ireturn, 1) := by decide +kernel
theorem dX7_kind_0 : decode cX7_kind 0 = .ok (.aload_n 0, 1) := by decide +kernel
theorem dX7_kind_1 : decode cX7_kind 1 = .ok (.getfield 31, 3) := by decide +kernel
theorem dX7_kind_4 : decode cX7_kind 4 = .ok (.iconst 1, 1) := by decide +kernel
theorem dX7_kind_5 : decode cX7_kind 5 = .ok (.if_icmp .ne 16, 3) := by decide +kernel
theorem dX7_kind_8 : decode cX7_kind 8 = .ok (.aload_n 0, 1) := by decide +kernel
theorem dX7_kind_9 : decode cX7_kind 9 = .ok (.getfield 15, 3) := by decide +kernel
theorem dX7_kind_12 : decode cX7_kind 12 = .ok (.aload_n 0, 1) := by decide +kernel
theorem dX7_kind_13 : decode cX7_kind 13 = .ok (.getfield 19, 3) := by decide +kernel
theorem dX7_kind_16 : decode cX7_kind 16 = .ok (.isub, 1) := by decide +kernel
theorem dX7_kind_17 : decode cX7_kind 17 = .ok (.iconst 2, 1) := by decide +kernel
theorem dX7_kind_18 : decode cX7_kind 18 = .ok (.if_icmp .eq 6, 3) := by decide +kernel
theorem dX7_kind_21 : decode cX7_kind 21 = .ok (.bipush (-9), 2) := by decide +kernel
theorem dX7_kind_23 : decode cX7_kind 23 = .ok (.ireturn, 1) := by decide +kernel
theorem dX7_kind_24 : decode cX7_kind 24 = .ok (.iconst 0, 1) := by decide +kernel
theorem dX7_kind_25 : decode cX7_kind 25 = .ok (.istore_n 1, 1) := by decide +kernel
theorem dX7_kind_26 : decode cX7_kind 26 = .ok (.iload_n 1, 1) := by decide +kernel
theorem dX7_kind_27 : decode cX7_kind 27 = .ok (.bipush 8, 2) := by decide +kernel
theorem dX7_kind_29 : decode cX7_kind 29 = .ok (.if_icmp .ge 59, 3) := by decide +kernel
theorem dX7_kind_32 : decode cX7_kind 32 = .ok (.aload_n 0, 1) := by decide +kernel
theorem dX7_kind_33 : decode cX7_kind 33 = .ok (.getfield 9, 3) := by decide +kernel
theorem dX7_kind_36 : decode cX7_kind 36 = .ok (.getfield 27, 3) := by decide +kernel
theorem dX7_kind_39 : decode cX7_kind 39 = .ok (.aload_n 0, 1) := by decide +kernel
theorem dX7_kind_40 : decode cX7_kind 40 = .ok (.getfield 19, 3) := by decide +kernel
theorem dX7_kind_43 : decode cX7_kind 43 = .ok (.iaload, 1) := by decide +kernel
theorem dX7_kind_44 : decode cX7_kind 44 = .ok (.getstatic 41, 3) := by decide +kernel
theorem dX7_kind_47 : decode cX7_kind 47 = .ok (.iconst 2, 1) := by decide +kernel
theorem dX7_kind_48 : decode cX7_kind 48 = .ok (.iload_n 1, 1) := by decide +kernel
theorem dX7_kind_49 : decode cX7_kind 49 = .ok (.imul, 1) := by decide +kernel
theorem dX7_kind_50 : decode cX7_kind 50 = .ok (.caload, 1) := by decide +kernel
theorem dX7_kind_51 : decode cX7_kind 51 = .ok (.if_icmp .ne 31, 3) := by decide +kernel
theorem dX7_kind_54 : decode cX7_kind 54 = .ok (.aload_n 0, 1) := by decide +kernel
theorem dX7_kind_55 : decode cX7_kind 55 = .ok (.getfield 9, 3) := by decide +kernel
theorem dX7_kind_58 : decode cX7_kind 58 = .ok (.getfield 27, 3) := by decide +kernel
theorem dX7_kind_61 : decode cX7_kind 61 = .ok (.aload_n 0, 1) := by decide +kernel
theorem dX7_kind_62 : decode cX7_kind 62 = .ok (.getfield 19, 3) := by decide +kernel
theorem dX7_kind_65 : decode cX7_kind 65 = .ok (.iconst 1, 1) := by decide +kernel
theorem dX7_kind_66 : decode cX7_kind 66 = .ok (.iadd, 1) := by decide +kernel
theorem dX7_kind_67 : decode cX7_kind 67 = .ok (.iaload, 1) := by decide +kernel
theorem dX7_kind_68 : decode cX7_kind 68 = .ok (.getstatic 41, 3) := by decide +kernel
theorem dX7_kind_71 : decode cX7_kind 71 = .ok (.iconst 2, 1) := by decide +kernel
theorem dX7_kind_72 : decode cX7_kind 72 = .ok (.iload_n 1, 1) := by decide +kernel
theorem dX7_kind_73 : decode cX7_kind 73 = .ok (.imul, 1) := by decide +kernel
theorem dX7_kind_74 : decode cX7_kind 74 = .ok (.iconst 1, 1) := by decide +kernel
theorem dX7_kind_75 : decode cX7_kind 75 = .ok (.iadd, 1) := by decide +kernel
theorem dX7_kind_76 : decode cX7_kind 76 = .ok (.caload, 1) := by decide +kernel
theorem dX7_kind_77 : decode cX7_kind 77 = .ok (.if_icmp .ne 5, 3) := by decide +kernel
theorem dX7_kind_80 : decode cX7_kind 80 = .ok (.iload_n 1, 1) := by decide +kernel
theorem dX7_kind_81 : decode cX7_kind 81 = .ok (.ireturn, 1) := by decide +kernel
theorem dX7_kind_82 : decode cX7_kind 82 = .ok (.iinc 1 1, 3) := by decide +kernel
theorem dX7_kind_85 : decode cX7_kind 85 = .ok (.goto (-59), 3) := by decide +kernel
theorem dX7_kind_88 : decode cX7_kind 88 = .ok (.bipush (-9), 2) := by decide +kernel
theorem dX7_kind_90 : decode cX7_kind 90 = .ok (.ireturn, 1) := by decide +kernel
theorem dX7_number_0 : decode cX7_number 0 = .ok (.aload_n 0, 1) := by decide +kernel
theorem dX7_number_1 : decode cX7_number 1 = .ok (.getfield 15, 3) := by decide +kernel
theorem dX7_number_4 : decode cX7_number 4 = .ok (.aload_n 0, 1) := by decide +kernel
theorem dX7_number_5 : decode cX7_number 5 = .ok (.getfield 19, 3) := by decide +kernel
theorem dX7_number_8 : decode cX7_number 8 = .ok (.isub, 1) := by decide +kernel
theorem dX7_number_9 : decode cX7_number 9 = .ok (.istore_n 1, 1) := by decide +kernel
theorem dX7_number_10 : decode cX7_number 10 = .ok (.aload_n 0, 1) := by decide +kernel
theorem dX7_number_11 : decode cX7_number 11 = .ok (.getfield 31, 3) := by decide +kernel
theorem dX7_number_14 : decode cX7_number 14 = .ok (.iconst 2, 1) := by decide +kernel
theorem dX7_number_15 : decode cX7_number 15 = .ok (.if_icmp .ne 30, 3) := by decide +kernel
theorem dX7_number_18 : decode cX7_number 18 = .ok (.iload_n 1, 1) := by decide +kernel
theorem dX7_number_19 : decode cX7_number 19 = .ok (.iconst 3, 1) := by decide +kernel
theorem dX7_number_20 : decode cX7_number 20 = .ok (.if_icmp .gt 25, 3) := by decide +kernel
theorem dX7_number_23 : decode cX7_number 23 = .ok (.iload_n 1, 1) := by decide +kernel
theorem dX7_number_24 : decode cX7_number 24 = .ok (.iconst 1, 1) := by decide +kernel
theorem dX7_number_25 : decode cX7_number 25 = .ok (.if_icmp .le 23, 3) := by decide +kernel
theorem dX7_number_28 : decode cX7_number 28 = .ok (.aload_n 0, 1) := by decide +kernel
theorem dX7_number_29 : decode cX7_number 29 = .ok (.getfield 9, 3) := by decide +kernel
theorem dX7_number_32 : decode cX7_number 32 = .ok (.getfield 27, 3) := by decide +kernel
theorem dX7_number_35 : decode cX7_number 35 = .ok (.aload_n 0, 1) := by decide +kernel
theorem dX7_number_36 : decode cX7_number 36 = .ok (.getfield 19, 3) := by decide +kernel
theorem dX7_number_39 : decode cX7_number 39 = .ok (.iaload, 1) := by decide +kernel
theorem dX7_number_40 : decode cX7_number 40 = .ok (.bipush 48, 2) := by decide +kernel
theorem dX7_number_42 : decode cX7_number 42 = .ok (.if_icmp .ne 6, 3) := by decide +kernel
theorem dX7_number_45 : decode cX7_number 45 = .ok (.bipush (-9), 2) := by decide +kernel
theorem dX7_number_47 : decode cX7_number 47 = .ok (.ireturn, 1) := by decide +kernel
theorem dX7_number_48 : decode cX7_number 48 = .ok (.iconst 0, 1) := by decide +kernel
theorem dX7_number_49 : decode cX7_number 49 = .ok (.istore_n 2, 1) := by decide +kernel
theorem dX7_number_50 : decode cX7_number 50 = .ok (.aload_n 0, 1) := by decide +kernel
theorem dX7_number_51 : decode cX7_number 51 = .ok (.getfield 19, 3) := by decide +kernel
theorem dX7_number_54 : decode cX7_number 54 = .ok (.istore_n 3, 1) := by decide +kernel
theorem dX7_number_55 : decode cX7_number 55 = .ok (.iload_n 3, 1) := by decide +kernel
theorem dX7_number_56 : decode cX7_number 56 = .ok (.aload_n 0, 1) := by decide +kernel
theorem dX7_number_57 : decode cX7_number 57 = .ok (.getfield 15, 3) := by decide +kernel
theorem dX7_number_60 : decode cX7_number 60 = .ok (.if_icmp .ge 27, 3) := by decide +kernel
theorem dX7_number_63 : decode cX7_number 63 = .ok (.bipush 10, 2) := by decide +kernel
theorem dX7_number_65 : decode cX7_number 65 = .ok (.iload_n 2, 1) := by decide +kernel
theorem dX7_number_66 : decode cX7_number 66 = .ok (.imul, 1) := by decide +kernel
theorem dX7_number_67 : decode cX7_number 67 = .ok (.aload_n 0, 1) := by decide +kernel
theorem dX7_number_68 : decode cX7_number 68 = .ok (.getfield 9, 3) := by decide +kernel
theorem dX7_number_71 : decode cX7_number 71 = .ok (.getfield 27, 3) := by decide +kernel
theorem dX7_number_74 : decode cX7_number 74 = .ok (.iload_n 3, 1) := by decide +kernel
theorem dX7_number_75 : decode cX7_number 75 = .ok (.iaload, 1) := by decide +kernel
theorem dX7_number_76 : decode cX7_number 76 = .ok (.iadd, 1) := by decide +kernel
theorem dX7_number_77 : decode cX7_number 77 = .ok (.bipush 48, 2) := by decide +kernel
theorem dX7_number_79 : decode cX7_number 79 = .ok (.isub, 1) := by decide +kernel
theorem dX7_number_80 : decode cX7_number 80 = .ok (.istore_n 2, 1) := by decide +kernel
theorem dX7_number_81 : decode cX7_number 81 = .ok (.iinc 3 1, 3) := by decide +kernel
theorem dX7_number_84 : decode cX7_number 84 = .ok (.goto (-29), 3) := by decide +kernel
theorem dX7_number_87 : decode cX7_number 87 = .ok (.iload_n 2, 1) := by decide +kernel
theorem dX7_number_88 : decode cX7_number 88 = .ok (.ireturn, 1) := by decide +kernel
