theorem dX9_in_0 : decode cX9_in 0 = .ok (.iload_n 0, 1) := by decide +kernel
theorem dX9_in_1 : decode cX9_in 1 = .ok (.iload_n 1, 1) := by decide +kernel
theorem dX9_in_2 : decode cX9_in 2 = .ok (.if_icmp .lt 12, 3) := by decide +kernel
theorem dX9_in_5 : decode cX9_in 5 = .ok (.iload_n 0, 1) := by decide +kernel
theorem dX9_in_6 : decode cX9_in 6 = .ok (.iload_n 2, 1) := by decide +kernel
theorem dX9_in_7 : decode cX9_in 7 = .ok (.if_icmp .gt 7, 3) := by decide +kernel
theorem dX9_in_10 : decode cX9_in 10 = .ok (.iconst 1, 1) := by decide +kernel
theorem dX9_in_11 : decode cX9_in 11 = .ok (.goto 4, 3) := by decide +kernel
theorem dX9_in_14 : decode cX9_in 14 = .ok (.iconst 0, 1) := by decide +kernel
theorem dX9_in_15 : decode cX9_in 15 = .ok (.ireturn, 1) := by decide +kernel
theorem dX9_fields_0 : decode cX9_fields 0 = .ok (.aload_n 0, 1) := by decide +kernel
theorem dX9_fields_1 : decode cX9_fields 1 = .ok (.getfield 7, 3) := by decide +kernel
theorem dX9_fields_4 : decode cX9_fields 4 = .ok (.bipush 91, 2) := by decide +kernel
theorem dX9_fields_6 : decode cX9_fields 6 = .ok (.iaload, 1) := by decide +kernel
theorem dX9_fields_7 : decode cX9_fields 7 = .ok (.ireturn, 1) := by decide +kernel
theorem dX9_registers_0 : decode cX9_registers 0 = .ok (.aload_n 0, 1) := by decide +kernel
theorem dX9_registers_1 : decode cX9_registers 1 = .ok (.getfield 7, 3) := by decide +kernel
theorem dX9_registers_4 : decode cX9_registers 4 = .ok (.bipush 90, 2) := by decide +kernel
theorem dX9_registers_6 : decode cX9_registers 6 = .ok (.iaload, 1) := by decide +kernel
theorem dX9_registers_7 : decode cX9_registers 7 = .ok (.ireturn, 1) := by decide +kernel
theorem dX9_isField_0 : decode cX9_isField 0 = .ok (.iload_n 1, 1) := by decide +kernel
theorem dX9_isField_1 : decode cX9_isField 1 = .ok (.iconst 0, 1) := by decide +kernel
theorem dX9_isField_2 : decode cX9_isField 2 = .ok (.aload_n 0, 1) := by decide +kernel
theorem dX9_isField_3 : decode cX9_isField 3 = .ok (.invokevirtual 35, 3) := by decide +kernel
theorem dX9_isField_6 : decode cX9_isField 6 = .ok (.iconst 1, 1) := by decide +kernel
theorem dX9_isField_7 : decode cX9_isField 7 = .ok (.isub, 1) := by decide +kernel
theorem dX9_isField_8 : decode cX9_isField 8 = .ok (.invokestatic 39, 3) := by decide +kernel
theorem dX9_isField_11 : decode cX9_isField 11 = .ok (.ireturn, 1) := by decide +kernel
theorem dX9_isRegister_0 : decode cX9_isRegister 0 = .ok (.iload_n 1, 1) := by decide +kernel
theorem dX9_isRegister_1 : decode cX9_isRegister 1 = .ok (.iconst 0, 1) := by decide +kernel
theorem dX9_isRegister_2 : decode cX9_isRegister 2 = .ok (.aload_n 0, 1) := by decide +kernel
theorem dX9_isRegister_3 : decode cX9_isRegister 3 = .ok (.invokevirtual 43, 3) := by decide +kernel
theorem dX9_isRegister_6 : decode cX9_isRegister 6 = .ok (.iconst 1, 1) := by decide +kernel
theorem dX9_isRegister_7 : decode cX9_isRegister 7 = .ok (.isub, 1) := by decide +kernel
theorem dX9_isRegister_8 : decode cX9_isRegister 8 = .ok (.invokestatic 39, 3) := by decide +kernel
theorem dX9_isRegister_11 : decode cX9_isRegister 11 = .ok (.ireturn, 1) := by decide +kernel
theorem dX9_most_0 : decode cX9_most 0 = .ok (.iconst 1, 1) := by decide +kernel
theorem dX9_most_1 : decode cX9_most 1 = .ok (.aload_n 0, 1) := by decide +kernel
theorem dX9_most_2 : decode cX9_most 2 = .ok (.getfield 7, 3) := by decide +kernel
theorem dX9_most_5 : decode cX9_most 5 = .ok (.bipush 42, 2) := by decide +kernel
theorem dX9_most_7 : decode cX9_most 7 = .ok (.iload_n 1, 1) := by decide +kernel
theorem dX9_most_8 : decode cX9_most 8 = .ok (.iadd, 1) := by decide +kernel
theorem dX9_most_9 : decode cX9_most 9 = .ok (.iaload, 1) := by decide +kernel
theorem dX9_most_10 : decode cX9_most 10 = .ok (.aload_n 0, 1) := by decide +kernel
theorem dX9_most_11 : decode cX9_most 11 = .ok (.getfield 7, 3) := by decide +kernel
theorem dX9_most_14 : decode cX9_most 14 = .ok (.bipush 30, 2) := by decide +kernel
theorem dX9_most_16 : decode cX9_most 16 = .ok (.iload_n 1, 1) := by decide +kernel
theorem dX9_most_17 : decode cX9_most 17 = .ok (.iadd, 1) := by decide +kernel
theorem dX9_most_18 : decode cX9_most 18 = .ok (.iaload, 1) := by decide +kernel
theorem dX9_most_19 : decode cX9_most 19 = .ok (.isub, 1) := by decide +kernel
theorem dX9_most_20 : decode cX9_most 20 = .ok (.iconst 1, 1) := by decide +kernel
theorem dX9_most_21 : decode cX9_most 21 = .ok (.iadd, 1) := by decide +kernel
theorem dX9_most_22 : decode cX9_most 22 = .ok (.ishl, 1) := by decide +kernel
theorem dX9_most_23 : decode cX9_most 23 = .ok (.iconst 1, 1) := by decide +kernel
theorem dX9_most_24 : decode cX9_most 24 = .ok (.isub, 1) := by decide +kernel
theorem dX9_most_25 : decode cX9_most 25 = .ok (.ireturn, 1) := by decide +kernel
theorem dX9_bitsOf_0 : decode cX9_bitsOf 0 = .ok (.aload_n 0, 1) := by decide +kernel
theorem dX9_bitsOf_1 : decode cX9_bitsOf 1 = .ok (.iload_n 1, 1) := by decide +kernel
theorem dX9_bitsOf_2 : decode cX9_bitsOf 2 = .ok (.invokevirtual 46, 3) := by decide +kernel
theorem dX9_bitsOf_5 : decode cX9_bitsOf 5 = .ok (.aload_n 0, 1) := by decide +kernel
theorem dX9_bitsOf_6 : decode cX9_bitsOf 6 = .ok (.getfield 7, 3) := by decide +kernel
theorem dX9_bitsOf_9 : decode cX9_bitsOf 9 = .ok (.bipush 30, 2) := by decide +kernel
theorem dX9_bitsOf_11 : decode cX9_bitsOf 11 = .ok (.iload_n 1, 1) := by decide +kernel
theorem dX9_bitsOf_12 : decode cX9_bitsOf 12 = .ok (.iadd, 1) := by decide +kernel
theorem dX9_bitsOf_13 : decode cX9_bitsOf 13 = .ok (.iaload, 1) := by decide +kernel
theorem dX9_bitsOf_14 : decode cX9_bitsOf 14 = .ok (.ishl, 1) := by decide +kernel
theorem dX9_bitsOf_15 : decode cX9_bitsOf 15 = .ok (.ireturn, 1) := by decide +kernel
theorem dX9_reset_0 : decode cX9_reset 0 = .ok (.iconst 0, 1) := by decide +kernel
theorem dX9_reset_1 : decode cX9_reset 1 = .ok (.istore_n 2, 1) := by decide +kernel
theorem dX9_reset_2 : decode cX9_reset 2 = .ok (.iload_n 2, 1) := by decide +kernel
theorem dX9_reset_3 : decode cX9_reset 3 = .ok (.bipush 12, 2) := by decide +kernel
theorem dX9_reset_5 : decode cX9_reset 5 = .ok (.if_icmp .ge 38, 3) := by decide +kernel
theorem dX9_reset_8 : decode cX9_reset 8 = .ok (.aload_n 0, 1) := by decide +kernel
theorem dX9_reset_9 : decode cX9_reset 9 = .ok (.getfield 16, 3) := by decide +kernel
theorem dX9_reset_12 : decode cX9_reset 12 = .ok (.iload_n 1, 1) := by decide +kernel
theorem dX9_reset_13 : decode cX9_reset 13 = .ok (.iload_n 2, 1) := by decide +kernel
theorem dX9_reset_14 : decode cX9_reset 14 = .ok (.iadd, 1) := by decide +kernel
theorem dX9_reset_15 : decode cX9_reset 15 = .ok (.iload_n 2, 1) := by decide +kernel
theorem dX9_reset_16 : decode cX9_reset 16 = .ok (.aload_n 0, 1) := by decide +kernel
theorem dX9_reset_17 : decode cX9_reset 17 = .ok (.invokevirtual 35, 3) := by decide +kernel
theorem dX9_reset_20 : decode cX9_reset 20 = .ok (.if_icmp .ge 15, 3) := by decide +kernel
theorem dX9_reset_23 : decode cX9_reset 23 = .ok (.aload_n 0, 1) := by decide +kernel
theorem dX9_reset_24 : decode cX9_reset 24 = .ok (.getfield 7, 3) := by decide +kernel
theorem dX9_reset_27 : decode cX9_reset 27 = .ok (.bipush 66, 2) := by decide +kernel
theorem dX9_reset_29 : decode cX9_reset 29 = .ok (.iload_n 2, 1) := by decide +kernel
theorem dX9_reset_30 : decode cX9_reset 30 = .ok (.iadd, 1) := by decide +kernel
theorem dX9_reset_31 : decode cX9_reset 31 = .ok (.iaload, 1) := by decide +kernel
theorem dX9_reset_32 : decode cX9_reset 32 = .ok (.goto 4, 3) := by decide +kernel
theorem dX9_reset_35 : decode cX9_reset 35 = .ok (.iconst 0, 1) := by decide +kernel
theorem dX9_reset_36 : decode cX9_reset 36 = .ok (.iastore, 1) := by decide +kernel
theorem dX9_reset_37 : decode cX9_reset 37 = .ok (.iinc 2 1, 3) := by decide +kernel
theorem dX9_reset_40 : decode cX9_reset 40 = .ok (.goto (-38), 3) := by decide +kernel
theorem dX9_reset_43 : decode cX9_reset 43 = .ok (.iconst 0, 1) := by decide +kernel
theorem dX9_reset_44 : decode cX9_reset 44 = .ok (.istore_n 2, 1) := by decide +kernel
theorem dX9_reset_45 : decode cX9_reset 45 = .ok (.iload_n 2, 1) := by decide +kernel
theorem dX9_reset_46 : decode cX9_reset 46 = .ok (.bipush 6, 2) := by decide +kernel
theorem dX9_reset_48 : decode cX9_reset 48 = .ok (.if_icmp .ge 34, 3) := by decide +kernel
theorem dX9_reset_51 : decode cX9_reset 51 = .ok (.aload_n 0, 1) := by decide +kernel
theorem dX9_reset_52 : decode cX9_reset 52 = .ok (.getfield 16, 3) := by decide +kernel
theorem dX9_reset_55 : decode cX9_reset 55 = .ok (.iload_n 1, 1) := by decide +kernel
theorem dX9_reset_56 : decode cX9_reset 56 = .ok (.bipush 24, 2) := by decide +kernel
theorem dX9_reset_58 : decode cX9_reset 58 = .ok (.iadd, 1) := by decide +kernel
theorem dX9_reset_59 : decode cX9_reset 59 = .ok (.iload_n 2, 1) := by decide +kernel
theorem dX9_reset_60 : decode cX9_reset 60 = .ok (.iadd, 1) := by decide +kernel
theorem dX9_reset_61 : decode cX9_reset 61 = .ok (.bipush (-9), 2) := by decide +kernel
theorem dX9_reset_63 : decode cX9_reset 63 = .ok (.iastore, 1) := by decide +kernel
theorem dX9_reset_64 : decode cX9_reset 64 = .ok (.aload_n 0, 1) := by decide +kernel
theorem dX9_reset_65 : decode cX9_reset 65 = .ok (.getfield 16, 3) := by decide +kernel
theorem dX9_reset_68 : decode cX9_reset 68 = .ok (.iload_n 1, 1) := by decide +kernel
theorem dX9_reset_69 : decode cX9_reset 69 = .ok (.bipush 30, 2) := by decide +kernel
theorem dX9_reset_71 : decode cX9_reset 71 = .ok (.iadd, 1) := by decide +kernel
theorem dX9_reset_72 : decode cX9_reset 72 = .ok (.iload_n 2, 1) := by decide +kernel
theorem dX9_reset_73 : decode cX9_reset 73 = .ok (.iadd, 1) := by decide +kernel
theorem dX9_reset_74 : decode cX9_reset 74 = .ok (.iconst 0, 1) := by decide +kernel
theorem dX9_reset_75 : decode cX9_reset 75 = .ok (.iastore, 1) := by decide +kernel
theorem dX9_reset_76 : decode cX9_reset 76 = .ok (.iinc 2 1, 3) := by decide +kernel
theorem dX9_reset_79 : decode cX9_reset 79 = .ok (.goto (-34), 3) := by decide +kernel
theorem dX9_reset_82 : decode cX9_reset 82 = .ok (.return_, 1) := by decide +kernel
theorem dX9_repair_0 : decode cX9_repair 0 = .ok (.iconst 0, 1) := by decide +kernel
theorem dX9_repair_1 : decode cX9_repair 1 = .ok (.istore_n 2, 1) := by decide +kernel
theorem dX9_repair_2 : decode cX9_repair 2 = .ok (.iload_n 2, 1) := by decide +kernel
theorem dX9_repair_3 : decode cX9_repair 3 = .ok (.bipush 12, 2) := by decide +kernel
theorem dX9_repair_5 : decode cX9_repair 5 = .ok (.if_icmp .ge 41, 3) := by decide +kernel
theorem dX9_repair_8 : decode cX9_repair 8 = .ok (.aload_n 0, 1) := by decide +kernel
theorem dX9_repair_9 : decode cX9_repair 9 = .ok (.getfield 16, 3) := by decide +kernel
theorem dX9_repair_12 : decode cX9_repair 12 = .ok (.iload_n 1, 1) := by decide +kernel
theorem dX9_repair_13 : decode cX9_repair 13 = .ok (.bipush 12, 2) := by decide +kernel
theorem dX9_repair_15 : decode cX9_repair 15 = .ok (.iadd, 1) := by decide +kernel
theorem dX9_repair_16 : decode cX9_repair 16 = .ok (.iload_n 2, 1) := by decide +kernel
theorem dX9_repair_17 : decode cX9_repair 17 = .ok (.iadd, 1) := by decide +kernel
theorem dX9_repair_18 : decode cX9_repair 18 = .ok (.iload_n 2, 1) := by decide +kernel
theorem dX9_repair_19 : decode cX9_repair 19 = .ok (.aload_n 0, 1) := by decide +kernel
theorem dX9_repair_20 : decode cX9_repair 20 = .ok (.invokevirtual 35, 3) := by decide +kernel
theorem dX9_repair_23 : decode cX9_repair 23 = .ok (.if_icmp .ge 15, 3) := by decide +kernel
theorem dX9_repair_26 : decode cX9_repair 26 = .ok (.aload_n 0, 1) := by decide +kernel
theorem dX9_repair_27 : decode cX9_repair 27 = .ok (.getfield 7, 3) := by decide +kernel
theorem dX9_repair_30 : decode cX9_repair 30 = .ok (.bipush 54, 2) := by decide +kernel
theorem dX9_repair_32 : decode cX9_repair 32 = .ok (.iload_n 2, 1) := by decide +kernel
theorem dX9_repair_33 : decode cX9_repair 33 = .ok (.iadd, 1) := by decide +kernel
theorem dX9_repair_34 : decode cX9_repair 34 = .ok (.iaload, 1) := by decide +kernel
theorem dX9_repair_35 : decode cX9_repair 35 = .ok (.goto 4, 3) := by decide +kernel
theorem dX9_repair_38 : decode cX9_repair 38 = .ok (.iconst 0, 1) := by decide +kernel
theorem dX9_repair_39 : decode cX9_repair 39 = .ok (.iastore, 1) := by decide +kernel
theorem dX9_repair_40 : decode cX9_repair 40 = .ok (.iinc 2 1, 3) := by decide +kernel
theorem dX9_repair_43 : decode cX9_repair 43 = .ok (.goto (-41), 3) := by decide +kernel
theorem dX9_repair_46 : decode cX9_repair 46 = .ok (.return_, 1) := by decide +kernel
theorem dX9_begin_0 : decode cX9_begin 0 = .ok (.aload_n 0, 1) := by decide +kernel
theorem dX9_begin_1 : decode cX9_begin 1 = .ok (.iconst 0, 1) := by decide +kernel
theorem dX9_begin_2 : decode cX9_begin 2 = .ok (.invokevirtual 50, 3) := by decide +kernel
theorem dX9_begin_5 : decode cX9_begin 5 = .ok (.aload_n 0, 1) := by decide +kernel
theorem dX9_begin_6 : decode cX9_begin 6 = .ok (.bipush 36, 2) := by decide +kernel
theorem dX9_begin_8 : decode cX9_begin 8 = .ok (.invokevirtual 50, 3) := by decide +kernel
theorem dX9_begin_11 : decode cX9_begin 11 = .ok (.aload_n 0, 1) := by decide +kernel
theorem dX9_begin_12 : decode cX9_begin 12 = .ok (.iconst 0, 1) := by decide +kernel
theorem dX9_begin_13 : decode cX9_begin 13 = .ok (.invokevirtual 54, 3) := by decide +kernel
theorem dX9_begin_16 : decode cX9_begin 16 = .ok (.aload_n 0, 1) := by decide +kernel
theorem dX9_begin_17 : decode cX9_begin 17 = .ok (.bipush 36, 2) := by decide +kernel
theorem dX9_begin_19 : decode cX9_begin 19 = .ok (.invokevirtual 54, 3) := by decide +kernel
theorem dX9_begin_22 : decode cX9_begin 22 = .ok (.aload_n 0, 1) := by decide +kernel
theorem dX9_begin_23 : decode cX9_begin 23 = .ok (.invokevirtual 57, 3) := by decide +kernel
theorem dX9_begin_26 : decode cX9_begin 26 = .ok (.aload_n 0, 1) := by decide +kernel
theorem dX9_begin_27 : decode cX9_begin 27 = .ok (.iconst 0, 1) := by decide +kernel
theorem dX9_begin_28 : decode cX9_begin 28 = .ok (.putfield 60, 3) := by decide +kernel
theorem dX9_begin_31 : decode cX9_begin 31 = .ok (.aload_n 0, 1) := by decide +kernel
theorem dX9_begin_32 : decode cX9_begin 32 = .ok (.getfield 25, 3) := by decide +kernel
theorem dX9_begin_35 : decode cX9_begin 35 = .ok (.iconst 0, 1) := by decide +kernel
theorem dX9_begin_36 : decode cX9_begin 36 = .ok (.iconst 0, 1) := by decide +kernel
theorem dX9_begin_37 : decode cX9_begin 37 = .ok (.bastore, 1) := by decide +kernel
theorem dX9_begin_38 : decode cX9_begin 38 = .ok (.aload_n 0, 1) := by decide +kernel
theorem dX9_begin_39 : decode cX9_begin 39 = .ok (.getfield 25, 3) := by decide +kernel
theorem dX9_begin_42 : decode cX9_begin 42 = .ok (.iconst 1, 1) := by decide +kernel
theorem dX9_begin_43 : decode cX9_begin 43 = .ok (.iconst 0, 1) := by decide +kernel
theorem dX9_begin_44 : decode cX9_begin 44 = .ok (.bastore, 1) := by decide +kernel
theorem dX9_begin_45 : decode cX9_begin 45 = .ok (.return_, 1) := by decide +kernel
theorem dX9_emptyLog_0 : decode cX9_emptyLog 0 = .ok (.aload_n 0, 1) := by decide +kernel
theorem dX9_emptyLog_1 : decode cX9_emptyLog 1 = .ok (.getfield 16, 3) := by decide +kernel
theorem dX9_emptyLog_4 : decode cX9_emptyLog 4 = .ok (.bipush 72, 2) := by decide +kernel
theorem dX9_emptyLog_6 : decode cX9_emptyLog 6 = .ok (.iconst 0, 1) := by decide +kernel
theorem dX9_emptyLog_7 : decode cX9_emptyLog 7 = .ok (.iastore, 1) := by decide +kernel
theorem dX9_emptyLog_8 : decode cX9_emptyLog 8 = .ok (.aload_n 0, 1) := by decide +kernel
theorem dX9_emptyLog_9 : decode cX9_emptyLog 9 = .ok (.getfield 16, 3) := by decide +kernel
theorem dX9_emptyLog_12 : decode cX9_emptyLog 12 = .ok (.sipush 133, 3) := by decide +kernel
theorem dX9_emptyLog_15 : decode cX9_emptyLog 15 = .ok (.iconst 0, 1) := by decide +kernel
theorem dX9_emptyLog_16 : decode cX9_emptyLog 16 = .ok (.iastore, 1) := by decide +kernel
theorem dX9_emptyLog_17 : decode cX9_emptyLog 17 = .ok (.aload_n 0, 1) := by decide +kernel
theorem dX9_emptyLog_18 : decode cX9_emptyLog 18 = .ok (.getfield 16, 3) := by decide +kernel
theorem dX9_emptyLog_21 : decode cX9_emptyLog 21 = .ok (.sipush 134, 3) := by decide +kernel
theorem dX9_emptyLog_24 : decode cX9_emptyLog 24 = .ok (.bipush (-9), 2) := by decide +kernel
theorem dX9_emptyLog_26 : decode cX9_emptyLog 26 = .ok (.iastore, 1) := by decide +kernel
theorem dX9_emptyLog_27 : decode cX9_emptyLog 27 = .ok (.return_, 1) := by decide +kernel
theorem dX9_isLocked_0 : decode cX9_isLocked 0 = .ok (.aload_n 0, 1) := by decide +kernel
theorem dX9_isLocked_1 : decode cX9_isLocked 1 = .ok (.getfield 7, 3) := by decide +kernel
theorem dX9_isLocked_4 : decode cX9_isLocked 4 = .ok (.bipush 6, 2) := by decide +kernel
theorem dX9_isLocked_6 : decode cX9_isLocked 6 = .ok (.iload_n 2, 1) := by decide +kernel
theorem dX9_isLocked_7 : decode cX9_isLocked 7 = .ok (.iadd, 1) := by decide +kernel
theorem dX9_isLocked_8 : decode cX9_isLocked 8 = .ok (.iaload, 1) := by decide +kernel
theorem dX9_isLocked_9 : decode cX9_isLocked 9 = .ok (.bipush (-9), 2) := by decide +kernel
theorem dX9_isLocked_11 : decode cX9_isLocked 11 = .ok (.if_icmp .eq 26, 3) := by decide +kernel
theorem dX9_isLocked_14 : decode cX9_isLocked 14 = .ok (.aload_n 0, 1) := by decide +kernel
theorem dX9_isLocked_15 : decode cX9_isLocked 15 = .ok (.getfield 16, 3) := by decide +kernel
theorem dX9_isLocked_18 : decode cX9_isLocked 18 = .ok (.iload_n 1, 1) := by decide +kernel
theorem dX9_isLocked_19 : decode cX9_isLocked 19 = .ok (.aload_n 0, 1) := by decide +kernel
theorem dX9_isLocked_20 : decode cX9_isLocked 20 = .ok (.getfield 7, 3) := by decide +kernel
theorem dX9_isLocked_23 : decode cX9_isLocked 23 = .ok (.bipush 6, 2) := by decide +kernel
theorem dX9_isLocked_25 : decode cX9_isLocked 25 = .ok (.iload_n 2, 1) := by decide +kernel
theorem dX9_isLocked_26 : decode cX9_isLocked 26 = .ok (.iadd, 1) := by decide +kernel
theorem dX9_isLocked_27 : decode cX9_isLocked 27 = .ok (.iaload, 1) := by decide +kernel
theorem dX9_isLocked_28 : decode cX9_isLocked 28 = .ok (.iadd, 1) := by decide +kernel
theorem dX9_isLocked_29 : decode cX9_isLocked 29 = .ok (.iaload, 1) := by decide +kernel
theorem dX9_isLocked_30 : decode cX9_isLocked 30 = .ok (.ifCond .eq 7, 3) := by decide +kernel
theorem dX9_isLocked_33 : decode cX9_isLocked 33 = .ok (.iconst 1, 1) := by decide +kernel
theorem dX9_isLocked_34 : decode cX9_isLocked 34 = .ok (.goto 4, 3) := by decide +kernel
theorem dX9_isLocked_37 : decode cX9_isLocked 37 = .ok (.iconst 0, 1) := by decide +kernel
theorem dX9_isLocked_38 : decode cX9_isLocked 38 = .ok (.ireturn, 1) := by decide +kernel
theorem dX9_goesTo_0 : decode cX9_goesTo 0 = .ok (.iconst 0, 1) := by decide +kernel
theorem dX9_goesTo_1 : decode cX9_goesTo 1 = .ok (.istore_n 2, 1) := by decide +kernel
theorem dX9_goesTo_2 : decode cX9_goesTo 2 = .ok (.iload_n 2, 1) := by decide +kernel
theorem dX9_goesTo_3 : decode cX9_goesTo 3 = .ok (.aload_n 0, 1) := by decide +kernel
theorem dX9_goesTo_4 : decode cX9_goesTo 4 = .ok (.invokevirtual 43, 3) := by decide +kernel
theorem dX9_goesTo_7 : decode cX9_goesTo 7 = .ok (.if_icmp .ge 23, 3) := by decide +kernel
theorem dX9_goesTo_10 : decode cX9_goesTo 10 = .ok (.aload_n 0, 1) := by decide +kernel
theorem dX9_goesTo_11 : decode cX9_goesTo 11 = .ok (.getfield 7, 3) := by decide +kernel
theorem dX9_goesTo_14 : decode cX9_goesTo 14 = .ok (.iconst 0, 1) := by decide +kernel
theorem dX9_goesTo_15 : decode cX9_goesTo 15 = .ok (.iload_n 2, 1) := by decide +kernel
theorem dX9_goesTo_16 : decode cX9_goesTo 16 = .ok (.iadd, 1) := by decide +kernel
theorem dX9_goesTo_17 : decode cX9_goesTo 17 = .ok (.iaload, 1) := by decide +kernel
theorem dX9_goesTo_18 : decode cX9_goesTo 18 = .ok (.iload_n 1, 1) := by decide +kernel
theorem dX9_goesTo_19 : decode cX9_goesTo 19 = .ok (.if_icmp .ne 5, 3) := by decide +kernel
theorem dX9_goesTo_22 : decode cX9_goesTo 22 = .ok (.iload_n 2, 1) := by decide +kernel
theorem dX9_goesTo_23 : decode cX9_goesTo 23 = .ok (.ireturn, 1) := by decide +kernel
theorem dX9_goesTo_24 : decode cX9_goesTo 24 = .ok (.iinc 2 1, 3) := by decide +kernel
theorem dX9_goesTo_27 : decode cX9_goesTo 27 = .ok (.goto (-25), 3) := by decide +kernel
theorem dX9_goesTo_30 : decode cX9_goesTo 30 = .ok (.iconst 0, 1) := by decide +kernel
theorem dX9_goesTo_31 : decode cX9_goesTo 31 = .ok (.istore_n 2, 1) := by decide +kernel
theorem dX9_goesTo_32 : decode cX9_goesTo 32 = .ok (.iload_n 2, 1) := by decide +kernel
theorem dX9_goesTo_33 : decode cX9_goesTo 33 = .ok (.aload_n 0, 1) := by decide +kernel
theorem dX9_goesTo_34 : decode cX9_goesTo 34 = .ok (.getfield 7, 3) := by decide +kernel
theorem dX9_goesTo_37 : decode cX9_goesTo 37 = .ok (.bipush 92, 2) := by decide +kernel
theorem dX9_goesTo_39 : decode cX9_goesTo 39 = .ok (.iaload, 1) := by decide +kernel
theorem dX9_goesTo_40 : decode cX9_goesTo 40 = .ok (.if_icmp .ge 27, 3) := by decide +kernel
theorem dX9_goesTo_43 : decode cX9_goesTo 43 = .ok (.aload_n 0, 1) := by decide +kernel
theorem dX9_goesTo_44 : decode cX9_goesTo 44 = .ok (.getfield 7, 3) := by decide +kernel
theorem dX9_goesTo_47 : decode cX9_goesTo 47 = .ok (.bipush 78, 2) := by decide +kernel
theorem dX9_goesTo_49 : decode cX9_goesTo 49 = .ok (.iload_n 2, 1) := by decide +kernel
theorem dX9_goesTo_50 : decode cX9_goesTo 50 = .ok (.iadd, 1) := by decide +kernel
theorem dX9_goesTo_51 : decode cX9_goesTo 51 = .ok (.iaload, 1) := by decide +kernel
theorem dX9_goesTo_52 : decode cX9_goesTo 52 = .ok (.iload_n 1, 1) := by decide +kernel
theorem dX9_goesTo_53 : decode cX9_goesTo 53 = .ok (.if_icmp .ne 8, 3) := by decide +kernel
theorem dX9_goesTo_56 : decode cX9_goesTo 56 = .ok (.bipush 100, 2) := by decide +kernel
theorem dX9_goesTo_58 : decode cX9_goesTo 58 = .ok (.iload_n 2, 1) := by decide +kernel
theorem dX9_goesTo_59 : decode cX9_goesTo 59 = .ok (.iadd, 1) := by decide +kernel
theorem dX9_goesTo_60 : decode cX9_goesTo 60 = .ok (.ireturn, 1) := by decide +kernel
theorem dX9_goesTo_61 : decode cX9_goesTo 61 = .ok (.iinc 2 1, 3) := by decide +kernel
theorem dX9_goesTo_64 : decode cX9_goesTo 64 = .ok (.goto (-32), 3) := by decide +kernel
theorem dX9_goesTo_67 : decode cX9_goesTo 67 = .ok (.bipush (-9), 2) := by decide +kernel
theorem dX9_goesTo_69 : decode cX9_goesTo 69 = .ok (.ireturn, 1) := by decide +kernel
theorem dX9_registerOf_0 : decode cX9_registerOf 0 = .ok (.iload_n 1, 1) := by decide +kernel
theorem dX9_registerOf_1 : decode cX9_registerOf 1 = .ok (.bipush 100, 2) := by decide +kernel
theorem dX9_registerOf_3 : decode cX9_registerOf 3 = .ok (.if_icmp .ge 7, 3) := by decide +kernel
theorem dX9_registerOf_6 : decode cX9_registerOf 6 = .ok (.iload_n 1, 1) := by decide +kernel
theorem dX9_registerOf_7 : decode cX9_registerOf 7 = .ok (.goto 15, 3) := by decide +kernel
theorem dX9_registerOf_10 : decode cX9_registerOf 10 = .ok (.aload_n 0, 1) := by decide +kernel
theorem dX9_registerOf_11 : decode cX9_registerOf 11 = .ok (.getfield 7, 3) := by decide +kernel
theorem dX9_registerOf_14 : decode cX9_registerOf 14 = .ok (.bipush 82, 2) := by decide +kernel
theorem dX9_registerOf_16 : decode cX9_registerOf 16 = .ok (.iload_n 1, 1) := by decide +kernel
theorem dX9_registerOf_17 : decode cX9_registerOf 17 = .ok (.iadd, 1) := by decide +kernel
theorem dX9_registerOf_18 : decode cX9_registerOf 18 = .ok (.bipush 100, 2) := by decide +kernel
theorem dX9_registerOf_20 : decode cX9_registerOf 20 = .ok (.isub, 1) := by decide +kernel
theorem dX9_registerOf_21 : decode cX9_registerOf 21 = .ok (.iaload, 1) := by decide +kernel
theorem dX9_registerOf_22 : decode cX9_registerOf 22 = .ok (.ireturn, 1) := by decide +kernel
theorem dX9_tellsOf_0 : decode cX9_tellsOf 0 = .ok (.iconst 0, 1) := by decide +kernel
theorem dX9_tellsOf_1 : decode cX9_tellsOf 1 = .ok (.istore_n 3, 1) := by decide +kernel
theorem dX9_tellsOf_2 : decode cX9_tellsOf 2 = .ok (.iconst 0, 1) := by decide +kernel
theorem dX9_tellsOf_3 : decode cX9_tellsOf 3 = .ok (.istore 4, 2) := by decide +kernel
theorem dX9_tellsOf_5 : decode cX9_tellsOf 5 = .ok (.iload 4, 2) := by decide +kernel
theorem dX9_tellsOf_7 : decode cX9_tellsOf 7 = .ok (.aload_n 0, 1) := by decide +kernel
theorem dX9_tellsOf_8 : decode cX9_tellsOf 8 = .ok (.invokevirtual 35, 3) := by decide +kernel
theorem dX9_tellsOf_11 : decode cX9_tellsOf 11 = .ok (.if_icmp .ge 62, 3) := by decide +kernel
theorem dX9_tellsOf_14 : decode cX9_tellsOf 14 = .ok (.aload_n 0, 1) := by decide +kernel
theorem dX9_tellsOf_15 : decode cX9_tellsOf 15 = .ok (.getfield 7, 3) := by decide +kernel
theorem dX9_tellsOf_18 : decode cX9_tellsOf 18 = .ok (.bipush 18, 2) := by decide +kernel
theorem dX9_tellsOf_20 : decode cX9_tellsOf 20 = .ok (.iload 4, 2) := by decide +kernel
theorem dX9_tellsOf_22 : decode cX9_tellsOf 22 = .ok (.iadd, 1) := by decide +kernel
theorem dX9_tellsOf_23 : decode cX9_tellsOf 23 = .ok (.iaload, 1) := by decide +kernel
theorem dX9_tellsOf_24 : decode cX9_tellsOf 24 = .ok (.iload_n 2, 1) := by decide +kernel
theorem dX9_tellsOf_25 : decode cX9_tellsOf 25 = .ok (.if_icmp .ne 42, 3) := by decide +kernel
theorem dX9_tellsOf_28 : decode cX9_tellsOf 28 = .ok (.aload_n 0, 1) := by decide +kernel
theorem dX9_tellsOf_29 : decode cX9_tellsOf 29 = .ok (.getfield 16, 3) := by decide +kernel
theorem dX9_tellsOf_32 : decode cX9_tellsOf 32 = .ok (.iload_n 1, 1) := by decide +kernel
theorem dX9_tellsOf_33 : decode cX9_tellsOf 33 = .ok (.bipush 12, 2) := by decide +kernel
theorem dX9_tellsOf_35 : decode cX9_tellsOf 35 = .ok (.iadd, 1) := by decide +kernel
theorem dX9_tellsOf_36 : decode cX9_tellsOf 36 = .ok (.iload 4, 2) := by decide +kernel
theorem dX9_tellsOf_38 : decode cX9_tellsOf 38 = .ok (.iadd, 1) := by decide +kernel
theorem dX9_tellsOf_39 : decode cX9_tellsOf 39 = .ok (.iaload, 1) := by decide +kernel
theorem dX9_tellsOf_40 : decode cX9_tellsOf 40 = .ok (.iconst 2, 1) := by decide +kernel
theorem dX9_tellsOf_41 : decode cX9_tellsOf 41 = .ok (.if_icmp .eq 26, 3) := by decide +kernel
theorem dX9_tellsOf_44 : decode cX9_tellsOf 44 = .ok (.iload_n 3, 1) := by decide +kernel
theorem dX9_tellsOf_45 : decode cX9_tellsOf 45 = .ok (.aload_n 0, 1) := by decide +kernel
theorem dX9_tellsOf_46 : decode cX9_tellsOf 46 = .ok (.getfield 16, 3) := by decide +kernel
theorem dX9_tellsOf_49 : decode cX9_tellsOf 49 = .ok (.iload_n 1, 1) := by decide +kernel
theorem dX9_tellsOf_50 : decode cX9_tellsOf 50 = .ok (.iload 4, 2) := by decide +kernel
theorem dX9_tellsOf_52 : decode cX9_tellsOf 52 = .ok (.iadd, 1) := by decide +kernel
theorem dX9_tellsOf_53 : decode cX9_tellsOf 53 = .ok (.iaload, 1) := by decide +kernel
theorem dX9_tellsOf_54 : decode cX9_tellsOf 54 = .ok (.aload_n 0, 1) := by decide +kernel
theorem dX9_tellsOf_55 : decode cX9_tellsOf 55 = .ok (.getfield 7, 3) := by decide +kernel
theorem dX9_tellsOf_58 : decode cX9_tellsOf 58 = .ok (.bipush 30, 2) := by decide +kernel
theorem dX9_tellsOf_60 : decode cX9_tellsOf 60 = .ok (.iload 4, 2) := by decide +kernel
theorem dX9_tellsOf_62 : decode cX9_tellsOf 62 = .ok (.iadd, 1) := by decide +kernel
theorem dX9_tellsOf_63 : decode cX9_tellsOf 63 = .ok (.iaload, 1) := by decide +kernel
theorem dX9_tellsOf_64 : decode cX9_tellsOf 64 = .ok (.ishl, 1) := by decide +kernel
theorem dX9_tellsOf_65 : decode cX9_tellsOf 65 = .ok (.ior, 1) := by decide +kernel
theorem dX9_tellsOf_66 : decode cX9_tellsOf 66 = .ok (.istore_n 3, 1) := by decide +kernel
theorem dX9_tellsOf_67 : decode cX9_tellsOf 67 = .ok (.iinc 4 1, 3) := by decide +kernel
theorem dX9_tellsOf_70 : decode cX9_tellsOf 70 = .ok (.goto (-65), 3) := by decide +kernel
theorem dX9_tellsOf_73 : decode cX9_tellsOf 73 = .ok (.iload_n 3, 1) := by decide +kernel
theorem dX9_tellsOf_74 : decode cX9_tellsOf 74 = .ok (.ireturn, 1) := by decide +kernel
theorem dX9_peekAt_0 : decode cX9_peekAt 0 = .ok (.aload_n 0, 1) := by decide +kernel
theorem dX9_peekAt_1 : decode cX9_peekAt 1 = .ok (.iload_n 2, 1) := by decide +kernel
theorem dX9_peekAt_2 : decode cX9_peekAt 2 = .ok (.invokevirtual 64, 3) := by decide +kernel
theorem dX9_peekAt_5 : decode cX9_peekAt 5 = .ok (.istore_n 3, 1) := by decide +kernel
theorem dX9_peekAt_6 : decode cX9_peekAt 6 = .ok (.iload_n 3, 1) := by decide +kernel
theorem dX9_peekAt_7 : decode cX9_peekAt 7 = .ok (.bipush (-9), 2) := by decide +kernel
theorem dX9_peekAt_9 : decode cX9_peekAt 9 = .ok (.if_icmp .ne 7, 3) := by decide +kernel
theorem dX9_peekAt_12 : decode cX9_peekAt 12 = .ok (.iconst 0, 1) := by decide +kernel
theorem dX9_peekAt_13 : decode cX9_peekAt 13 = .ok (.goto 13, 3) := by decide +kernel
theorem dX9_peekAt_16 : decode cX9_peekAt 16 = .ok (.aload_n 0, 1) := by decide +kernel
theorem dX9_peekAt_17 : decode cX9_peekAt 17 = .ok (.iload_n 1, 1) := by decide +kernel
theorem dX9_peekAt_18 : decode cX9_peekAt 18 = .ok (.aload_n 0, 1) := by decide +kernel
theorem dX9_peekAt_19 : decode cX9_peekAt 19 = .ok (.iload_n 3, 1) := by decide +kernel
theorem dX9_peekAt_20 : decode cX9_peekAt 20 = .ok (.invokevirtual 67, 3) := by decide +kernel
theorem dX9_peekAt_23 : decode cX9_peekAt 23 = .ok (.invokevirtual 70, 3) := by decide +kernel
theorem dX9_peekAt_26 : decode cX9_peekAt 26 = .ok (.ireturn, 1) := by decide +kernel
theorem dX9_clearRead_0 : decode cX9_clearRead 0 = .ok (.iconst 0, 1) := by decide +kernel
theorem dX9_clearRead_1 : decode cX9_clearRead 1 = .ok (.istore_n 3, 1) := by decide +kernel
theorem dX9_clearRead_2 : decode cX9_clearRead 2 = .ok (.iload_n 3, 1) := by decide +kernel
theorem dX9_clearRead_3 : decode cX9_clearRead 3 = .ok (.aload_n 0, 1) := by decide +kernel
theorem dX9_clearRead_4 : decode cX9_clearRead 4 = .ok (.invokevirtual 35, 3) := by decide +kernel
theorem dX9_clearRead_7 : decode cX9_clearRead 7 = .ok (.if_icmp .ge 53, 3) := by decide +kernel
theorem dX9_clearRead_10 : decode cX9_clearRead 10 = .ok (.iload_n 2, 1) := by decide +kernel
theorem dX9_clearRead_11 : decode cX9_clearRead 11 = .ok (.bipush 100, 2) := by decide +kernel
theorem dX9_clearRead_13 : decode cX9_clearRead 13 = .ok (.if_icmp .ge 47, 3) := by decide +kernel
theorem dX9_clearRead_16 : decode cX9_clearRead 16 = .ok (.aload_n 0, 1) := by decide +kernel
theorem dX9_clearRead_17 : decode cX9_clearRead 17 = .ok (.getfield 7, 3) := by decide +kernel
theorem dX9_clearRead_20 : decode cX9_clearRead 20 = .ok (.bipush 18, 2) := by decide +kernel
theorem dX9_clearRead_22 : decode cX9_clearRead 22 = .ok (.iload_n 3, 1) := by decide +kernel
theorem dX9_clearRead_23 : decode cX9_clearRead 23 = .ok (.iadd, 1) := by decide +kernel
theorem dX9_clearRead_24 : decode cX9_clearRead 24 = .ok (.iaload, 1) := by decide +kernel
theorem dX9_clearRead_25 : decode cX9_clearRead 25 = .ok (.iload_n 2, 1) := by decide +kernel
theorem dX9_clearRead_26 : decode cX9_clearRead 26 = .ok (.if_icmp .ne 28, 3) := by decide +kernel
theorem dX9_clearRead_29 : decode cX9_clearRead 29 = .ok (.aload_n 0, 1) := by decide +kernel
theorem dX9_clearRead_30 : decode cX9_clearRead 30 = .ok (.getfield 16, 3) := by decide +kernel
theorem dX9_clearRead_33 : decode cX9_clearRead 33 = .ok (.iload_n 1, 1) := by decide +kernel
theorem dX9_clearRead_34 : decode cX9_clearRead 34 = .ok (.bipush 12, 2) := by decide +kernel
theorem dX9_clearRead_36 : decode cX9_clearRead 36 = .ok (.iadd, 1) := by decide +kernel
theorem dX9_clearRead_37 : decode cX9_clearRead 37 = .ok (.iload_n 3, 1) := by decide +kernel
theorem dX9_clearRead_38 : decode cX9_clearRead 38 = .ok (.iadd, 1) := by decide +kernel
theorem dX9_clearRead_39 : decode cX9_clearRead 39 = .ok (.iaload, 1) := by decide +kernel
theorem dX9_clearRead_40 : decode cX9_clearRead 40 = .ok (.bipush 6, 2) := by decide +kernel
theorem dX9_clearRead_42 : decode cX9_clearRead 42 = .ok (.if_icmp .ne 12, 3) := by decide +kernel
theorem dX9_clearRead_45 : decode cX9_clearRead 45 = .ok (.aload_n 0, 1) := by decide +kernel
theorem dX9_clearRead_46 : decode cX9_clearRead 46 = .ok (.getfield 16, 3) := by decide +kernel
theorem dX9_clearRead_49 : decode cX9_clearRead 49 = .ok (.iload_n 1, 1) := by decide +kernel
theorem dX9_clearRead_50 : decode cX9_clearRead 50 = .ok (.iload_n 3, 1) := by decide +kernel
theorem dX9_clearRead_51 : decode cX9_clearRead 51 = .ok (.iadd, 1) := by decide +kernel
theorem dX9_clearRead_52 : decode cX9_clearRead 52 = .ok (.iconst 0, 1) := by decide +kernel
theorem dX9_clearRead_53 : decode cX9_clearRead 53 = .ok (.iastore, 1) := by decide +kernel
theorem dX9_clearRead_54 : decode cX9_clearRead 54 = .ok (.iinc 3 1, 3) := by decide +kernel
theorem dX9_clearRead_57 : decode cX9_clearRead 57 = .ok (.goto (-55), 3) := by decide +kernel
theorem dX9_clearRead_60 : decode cX9_clearRead 60 = .ok (.return_, 1) := by decide +kernel
theorem dX9_readOf_0 : decode cX9_readOf 0 = .ok (.aload_n 0, 1) := by decide +kernel
theorem dX9_readOf_1 : decode cX9_readOf 1 = .ok (.iload_n 1, 1) := by decide +kernel
theorem dX9_readOf_2 : decode cX9_readOf 2 = .ok (.iload_n 2, 1) := by decide +kernel
theorem dX9_readOf_3 : decode cX9_readOf 3 = .ok (.invokevirtual 74, 3) := by decide +kernel
theorem dX9_readOf_6 : decode cX9_readOf 6 = .ok (.istore_n 3, 1) := by decide +kernel
theorem dX9_readOf_7 : decode cX9_readOf 7 = .ok (.aload_n 0, 1) := by decide +kernel
theorem dX9_readOf_8 : decode cX9_readOf 8 = .ok (.iload_n 2, 1) := by decide +kernel
theorem dX9_readOf_9 : decode cX9_readOf 9 = .ok (.invokevirtual 64, 3) := by decide +kernel
theorem dX9_readOf_12 : decode cX9_readOf 12 = .ok (.istore 4, 2) := by decide +kernel
theorem dX9_readOf_14 : decode cX9_readOf 14 = .ok (.iload 4, 2) := by decide +kernel
theorem dX9_readOf_16 : decode cX9_readOf 16 = .ok (.bipush (-9), 2) := by decide +kernel
theorem dX9_readOf_18 : decode cX9_readOf 18 = .ok (.if_icmp .eq 10, 3) := by decide +kernel
theorem dX9_readOf_21 : decode cX9_readOf 21 = .ok (.aload_n 0, 1) := by decide +kernel
theorem dX9_readOf_22 : decode cX9_readOf 22 = .ok (.iload_n 1, 1) := by decide +kernel
theorem dX9_readOf_23 : decode cX9_readOf 23 = .ok (.iload 4, 2) := by decide +kernel
theorem dX9_readOf_25 : decode cX9_readOf 25 = .ok (.invokevirtual 77, 3) := by decide +kernel
theorem dX9_readOf_28 : decode cX9_readOf 28 = .ok (.iload_n 3, 1) := by decide +kernel
theorem dX9_readOf_29 : decode cX9_readOf 29 = .ok (.ireturn, 1) := by decide +kernel
theorem dX9_by_0 : decode cX9_by 0 = .ok (.iload_n 0, 1) := by decide +kernel
theorem dX9_by_1 : decode cX9_by 1 = .ok (.tableswitch 73 0 7 #[47, 73, 47, 49, 55, 59, 73, 63], 47) := by decide +kernel
theorem dX9_by_48 : decode cX9_by 48 = .ok (.iload_n 2, 1) := by decide +kernel
theorem dX9_by_49 : decode cX9_by 49 = .ok (.ireturn, 1) := by decide +kernel
theorem dX9_by_50 : decode cX9_by 50 = .ok (.iload_n 1, 1) := by decide +kernel
theorem dX9_by_51 : decode cX9_by 51 = .ok (.iload_n 2, 1) := by decide +kernel
theorem dX9_by_52 : decode cX9_by 52 = .ok (.iconst (-1), 1) := by decide +kernel
theorem dX9_by_53 : decode cX9_by 53 = .ok (.ixor, 1) := by decide +kernel
theorem dX9_by_54 : decode cX9_by 54 = .ok (.iand, 1) := by decide +kernel
theorem dX9_by_55 : decode cX9_by 55 = .ok (.ireturn, 1) := by decide +kernel
theorem dX9_by_56 : decode cX9_by 56 = .ok (.iload_n 1, 1) := by decide +kernel
theorem dX9_by_57 : decode cX9_by 57 = .ok (.iload_n 2, 1) := by decide +kernel
theorem dX9_by_58 : decode cX9_by 58 = .ok (.ior, 1) := by decide +kernel
theorem dX9_by_59 : decode cX9_by 59 = .ok (.ireturn, 1) := by decide +kernel
theorem dX9_by_60 : decode cX9_by 60 = .ok (.iload_n 1, 1) := by decide +kernel
theorem dX9_by_61 : decode cX9_by 61 = .ok (.iload_n 2, 1) := by decide +kernel
theorem dX9_by_62 : decode cX9_by 62 = .ok (.ixor, 1) := by decide +kernel
theorem dX9_by_63 : decode cX9_by 63 = .ok (.ireturn, 1) := by decide +kernel
theorem dX9_by_64 : decode cX9_by 64 = .ok (.iload_n 3, 1) := by decide +kernel
theorem dX9_by_65 : decode cX9_by 65 = .ok (.ifCond .eq 7, 3) := by decide +kernel
theorem dX9_by_68 : decode cX9_by 68 = .ok (.iload_n 2, 1) := by decide +kernel
theorem dX9_by_69 : decode cX9_by 69 = .ok (.goto 4, 3) := by decide +kernel
theorem dX9_by_72 : decode cX9_by 72 = .ok (.iload_n 1, 1) := by decide +kernel
theorem dX9_by_73 : decode cX9_by 73 = .ok (.ireturn, 1) := by decide +kernel
theorem dX9_by_74 : decode cX9_by 74 = .ok (.iload_n 1, 1) := by decide +kernel
theorem dX9_by_75 : decode cX9_by 75 = .ok (.ireturn, 1) := by decide +kernel
