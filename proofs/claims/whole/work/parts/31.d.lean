theorem dX8_type_0 : decode cX8_type 0 = .ok (.iload_n 1, 1) := by decide +kernel
theorem dX8_type_1 : decode cX8_type 1 = .ok (.sipush 256, 3) := by decide +kernel
theorem dX8_type_4 : decode cX8_type 4 = .ok (.invokestatic 61, 3) := by decide +kernel
theorem dX8_type_7 : decode cX8_type 7 = .ok (.ifCond .ne 5, 3) := by decide +kernel
theorem dX8_type_10 : decode cX8_type 10 = .ok (.iconst (-1), 1) := by decide +kernel
theorem dX8_type_11 : decode cX8_type 11 = .ok (.ireturn, 1) := by decide +kernel
theorem dX8_type_12 : decode cX8_type 12 = .ok (.aload_n 0, 1) := by decide +kernel
theorem dX8_type_13 : decode cX8_type 13 = .ok (.getfield 10, 3) := by decide +kernel
theorem dX8_type_16 : decode cX8_type 16 = .ok (.getfield 65, 3) := by decide +kernel
theorem dX8_type_19 : decode cX8_type 19 = .ok (.sipush 160, 3) := by decide +kernel
theorem dX8_type_22 : decode cX8_type 22 = .ok (.if_icmp .lt 6, 3) := by decide +kernel
theorem dX8_type_25 : decode cX8_type 25 = .ok (.bipush (-3), 2) := by decide +kernel
theorem dX8_type_27 : decode cX8_type 27 = .ok (.ireturn, 1) := by decide +kernel
theorem dX8_type_28 : decode cX8_type 28 = .ok (.aload_n 0, 1) := by decide +kernel
theorem dX8_type_29 : decode cX8_type 29 = .ok (.getfield 10, 3) := by decide +kernel
theorem dX8_type_32 : decode cX8_type 32 = .ok (.iload_n 1, 1) := by decide +kernel
theorem dX8_type_33 : decode cX8_type 33 = .ok (.invokevirtual 69, 3) := by decide +kernel
theorem dX8_type_36 : decode cX8_type 36 = .ok (.aload_n 0, 1) := by decide +kernel
theorem dX8_type_37 : decode cX8_type 37 = .ok (.getfield 10, 3) := by decide +kernel
theorem dX8_type_40 : decode cX8_type 40 = .ok (.getfield 65, 3) := by decide +kernel
theorem dX8_type_43 : decode cX8_type 43 = .ok (.ireturn, 1) := by decide +kernel
theorem dX8_clear_0 : decode cX8_clear 0 = .ok (.aload_n 0, 1) := by decide +kernel
theorem dX8_clear_1 : decode cX8_clear 1 = .ok (.getfield 10, 3) := by decide +kernel
theorem dX8_clear_4 : decode cX8_clear 4 = .ok (.getfield 65, 3) := by decide +kernel
theorem dX8_clear_7 : decode cX8_clear 7 = .ok (.istore_n 1, 1) := by decide +kernel
theorem dX8_clear_8 : decode cX8_clear 8 = .ok (.aload_n 0, 1) := by decide +kernel
theorem dX8_clear_9 : decode cX8_clear 9 = .ok (.getfield 10, 3) := by decide +kernel
theorem dX8_clear_12 : decode cX8_clear 12 = .ok (.iconst 0, 1) := by decide +kernel
theorem dX8_clear_13 : decode cX8_clear 13 = .ok (.putfield 65, 3) := by decide +kernel
theorem dX8_clear_16 : decode cX8_clear 16 = .ok (.iload_n 1, 1) := by decide +kernel
theorem dX8_clear_17 : decode cX8_clear 17 = .ok (.ireturn, 1) := by decide +kernel
theorem dX8_resets_0 : decode cX8_resets 0 = .ok (.aload_n 0, 1) := by decide +kernel
theorem dX8_resets_1 : decode cX8_resets 1 = .ok (.getfield 35, 3) := by decide +kernel
theorem dX8_resets_4 : decode cX8_resets 4 = .ok (.aload_n 0, 1) := by decide +kernel
theorem dX8_resets_5 : decode cX8_resets 5 = .ok (.getfield 28, 3) := by decide +kernel
theorem dX8_resets_8 : decode cX8_resets 8 = .ok (.invokevirtual 88, 3) := by decide +kernel
theorem dX8_resets_11 : decode cX8_resets 11 = .ok (.aload_n 0, 1) := by decide +kernel
theorem dX8_resets_12 : decode cX8_resets 12 = .ok (.getfield 28, 3) := by decide +kernel
theorem dX8_resets_15 : decode cX8_resets 15 = .ok (.getfield 92, 3) := by decide +kernel
theorem dX8_resets_18 : decode cX8_resets 18 = .ok (.getfield 96, 3) := by decide +kernel
theorem dX8_resets_21 : decode cX8_resets 21 = .ok (.istore_n 1, 1) := by decide +kernel
theorem dX8_resets_22 : decode cX8_resets 22 = .ok (.aload_n 0, 1) := by decide +kernel
theorem dX8_resets_23 : decode cX8_resets 23 = .ok (.getfield 28, 3) := by decide +kernel
theorem dX8_resets_26 : decode cX8_resets 26 = .ok (.aload_n 0, 1) := by decide +kernel
theorem dX8_resets_27 : decode cX8_resets 27 = .ok (.getfield 57, 3) := by decide +kernel
theorem dX8_resets_30 : decode cX8_resets 30 = .ok (.invokevirtual 99, 3) := by decide +kernel
theorem dX8_resets_33 : decode cX8_resets 33 = .ok (.iload_n 1, 1) := by decide +kernel
theorem dX8_resets_34 : decode cX8_resets 34 = .ok (.ireturn, 1) := by decide +kernel
theorem dX8_reads_0 : decode cX8_reads 0 = .ok (.iload_n 1, 1) := by decide +kernel
theorem dX8_reads_1 : decode cX8_reads 1 = .ok (.bipush 16, 2) := by decide +kernel
theorem dX8_reads_3 : decode cX8_reads 3 = .ok (.invokestatic 61, 3) := by decide +kernel
theorem dX8_reads_6 : decode cX8_reads 6 = .ok (.ifCond .ne 5, 3) := by decide +kernel
theorem dX8_reads_9 : decode cX8_reads 9 = .ok (.iconst (-1), 1) := by decide +kernel
theorem dX8_reads_10 : decode cX8_reads 10 = .ok (.ireturn, 1) := by decide +kernel
theorem dX8_reads_11 : decode cX8_reads 11 = .ok (.aload_n 0, 1) := by decide +kernel
theorem dX8_reads_12 : decode cX8_reads 12 = .ok (.getfield 28, 3) := by decide +kernel
theorem dX8_reads_15 : decode cX8_reads 15 = .ok (.getfield 92, 3) := by decide +kernel
theorem dX8_reads_18 : decode cX8_reads 18 = .ok (.getfield 96, 3) := by decide +kernel
theorem dX8_reads_21 : decode cX8_reads 21 = .ok (.bipush 20, 2) := by decide +kernel
theorem dX8_reads_23 : decode cX8_reads 23 = .ok (.if_icmp .lt 6, 3) := by decide +kernel
theorem dX8_reads_26 : decode cX8_reads 26 = .ok (.bipush (-3), 2) := by decide +kernel
theorem dX8_reads_28 : decode cX8_reads 28 = .ok (.ireturn, 1) := by decide +kernel
theorem dX8_reads_29 : decode cX8_reads 29 = .ok (.aload_n 0, 1) := by decide +kernel
theorem dX8_reads_30 : decode cX8_reads 30 = .ok (.getfield 35, 3) := by decide +kernel
theorem dX8_reads_33 : decode cX8_reads 33 = .ok (.aload_n 0, 1) := by decide +kernel
theorem dX8_reads_34 : decode cX8_reads 34 = .ok (.getfield 28, 3) := by decide +kernel
theorem dX8_reads_37 : decode cX8_reads 37 = .ok (.invokevirtual 88, 3) := by decide +kernel
theorem dX8_reads_40 : decode cX8_reads 40 = .ok (.aload_n 0, 1) := by decide +kernel
theorem dX8_reads_41 : decode cX8_reads 41 = .ok (.getfield 28, 3) := by decide +kernel
theorem dX8_reads_44 : decode cX8_reads 44 = .ok (.aload_n 0, 1) := by decide +kernel
theorem dX8_reads_45 : decode cX8_reads 45 = .ok (.getfield 57, 3) := by decide +kernel
theorem dX8_reads_48 : decode cX8_reads 48 = .ok (.iload_n 1, 1) := by decide +kernel
theorem dX8_reads_49 : decode cX8_reads 49 = .ok (.invokevirtual 102, 3) := by decide +kernel
theorem dX8_reads_52 : decode cX8_reads 52 = .ok (.ireturn, 1) := by decide +kernel
theorem dX8_writes_0 : decode cX8_writes 0 = .ok (.iload_n 1, 1) := by decide +kernel
theorem dX8_writes_1 : decode cX8_writes 1 = .ok (.bipush 16, 2) := by decide +kernel
theorem dX8_writes_3 : decode cX8_writes 3 = .ok (.invokestatic 61, 3) := by decide +kernel
theorem dX8_writes_6 : decode cX8_writes 6 = .ok (.ifCond .eq 13, 3) := by decide +kernel
theorem dX8_writes_9 : decode cX8_writes 9 = .ok (.iload_n 2, 1) := by decide +kernel
theorem dX8_writes_10 : decode cX8_writes 10 = .ok (.sipush 256, 3) := by decide +kernel
theorem dX8_writes_13 : decode cX8_writes 13 = .ok (.invokestatic 61, 3) := by decide +kernel
theorem dX8_writes_16 : decode cX8_writes 16 = .ok (.ifCond .ne 5, 3) := by decide +kernel
theorem dX8_writes_19 : decode cX8_writes 19 = .ok (.iconst (-1), 1) := by decide +kernel
theorem dX8_writes_20 : decode cX8_writes 20 = .ok (.ireturn, 1) := by decide +kernel
theorem dX8_writes_21 : decode cX8_writes 21 = .ok (.aload_n 0, 1) := by decide +kernel
theorem dX8_writes_22 : decode cX8_writes 22 = .ok (.getfield 28, 3) := by decide +kernel
theorem dX8_writes_25 : decode cX8_writes 25 = .ok (.getfield 92, 3) := by decide +kernel
theorem dX8_writes_28 : decode cX8_writes 28 = .ok (.getfield 96, 3) := by decide +kernel
theorem dX8_writes_31 : decode cX8_writes 31 = .ok (.bipush 20, 2) := by decide +kernel
theorem dX8_writes_33 : decode cX8_writes 33 = .ok (.if_icmp .lt 6, 3) := by decide +kernel
theorem dX8_writes_36 : decode cX8_writes 36 = .ok (.bipush (-3), 2) := by decide +kernel
theorem dX8_writes_38 : decode cX8_writes 38 = .ok (.ireturn, 1) := by decide +kernel
theorem dX8_writes_39 : decode cX8_writes 39 = .ok (.aload_n 0, 1) := by decide +kernel
theorem dX8_writes_40 : decode cX8_writes 40 = .ok (.getfield 35, 3) := by decide +kernel
theorem dX8_writes_43 : decode cX8_writes 43 = .ok (.aload_n 0, 1) := by decide +kernel
theorem dX8_writes_44 : decode cX8_writes 44 = .ok (.getfield 28, 3) := by decide +kernel
theorem dX8_writes_47 : decode cX8_writes 47 = .ok (.invokevirtual 88, 3) := by decide +kernel
theorem dX8_writes_50 : decode cX8_writes 50 = .ok (.aload_n 0, 1) := by decide +kernel
theorem dX8_writes_51 : decode cX8_writes 51 = .ok (.iload_n 1, 1) := by decide +kernel
theorem dX8_writes_52 : decode cX8_writes 52 = .ok (.iload_n 2, 1) := by decide +kernel
theorem dX8_writes_53 : decode cX8_writes 53 = .ok (.invokevirtual 106, 3) := by decide +kernel
theorem dX8_writes_56 : decode cX8_writes 56 = .ok (.istore_n 3, 1) := by decide +kernel
theorem dX8_writes_57 : decode cX8_writes 57 = .ok (.aload_n 0, 1) := by decide +kernel
theorem dX8_writes_58 : decode cX8_writes 58 = .ok (.getfield 28, 3) := by decide +kernel
theorem dX8_writes_61 : decode cX8_writes 61 = .ok (.aload_n 0, 1) := by decide +kernel
theorem dX8_writes_62 : decode cX8_writes 62 = .ok (.getfield 57, 3) := by decide +kernel
theorem dX8_writes_65 : decode cX8_writes 65 = .ok (.iload_n 1, 1) := by decide +kernel
theorem dX8_writes_66 : decode cX8_writes 66 = .ok (.iload_n 2, 1) := by decide +kernel
theorem dX8_writes_67 : decode cX8_writes 67 = .ok (.invokevirtual 110, 3) := by decide +kernel
theorem dX8_writes_70 : decode cX8_writes 70 = .ok (.iload_n 3, 1) := by decide +kernel
theorem dX8_writes_71 : decode cX8_writes 71 = .ok (.ireturn, 1) := by decide +kernel
theorem dX8_sets_0 : decode cX8_sets 0 = .ok (.aload_n 0, 1) := by decide +kernel
theorem dX8_sets_1 : decode cX8_sets 1 = .ok (.getfield 57, 3) := by decide +kernel
theorem dX8_sets_4 : decode cX8_sets 4 = .ok (.iload_n 1, 1) := by decide +kernel
theorem dX8_sets_5 : decode cX8_sets 5 = .ok (.iload_n 2, 1) := by decide +kernel
theorem dX8_sets_6 : decode cX8_sets 6 = .ok (.invokevirtual 114, 3) := by decide +kernel
theorem dX8_sets_9 : decode cX8_sets 9 = .ok (.ifCond .ne 5, 3) := by decide +kernel
theorem dX8_sets_12 : decode cX8_sets 12 = .ok (.iconst (-1), 1) := by decide +kernel
theorem dX8_sets_13 : decode cX8_sets 13 = .ok (.ireturn, 1) := by decide +kernel
theorem dX8_sets_14 : decode cX8_sets 14 = .ok (.aload_n 0, 1) := by decide +kernel
theorem dX8_sets_15 : decode cX8_sets 15 = .ok (.getfield 28, 3) := by decide +kernel
theorem dX8_sets_18 : decode cX8_sets 18 = .ok (.getfield 117, 3) := by decide +kernel
theorem dX8_sets_21 : decode cX8_sets 21 = .ok (.aload_n 0, 1) := by decide +kernel
theorem dX8_sets_22 : decode cX8_sets 22 = .ok (.getfield 57, 3) := by decide +kernel
theorem dX8_sets_25 : decode cX8_sets 25 = .ok (.iload_n 1, 1) := by decide +kernel
theorem dX8_sets_26 : decode cX8_sets 26 = .ok (.invokevirtual 120, 3) := by decide +kernel
theorem dX8_sets_29 : decode cX8_sets 29 = .ok (.istore_n 3, 1) := by decide +kernel
theorem dX8_sets_30 : decode cX8_sets 30 = .ok (.iload_n 3, 1) := by decide +kernel
theorem dX8_sets_31 : decode cX8_sets 31 = .ok (.iload_n 2, 1) := by decide +kernel
theorem dX8_sets_32 : decode cX8_sets 32 = .ok (.if_icmp .ne 6, 3) := by decide +kernel
theorem dX8_sets_35 : decode cX8_sets 35 = .ok (.bipush (-2), 2) := by decide +kernel
theorem dX8_sets_37 : decode cX8_sets 37 = .ok (.ireturn, 1) := by decide +kernel
theorem dX8_sets_38 : decode cX8_sets 38 = .ok (.aload_n 0, 1) := by decide +kernel
theorem dX8_sets_39 : decode cX8_sets 39 = .ok (.getfield 35, 3) := by decide +kernel
theorem dX8_sets_42 : decode cX8_sets 42 = .ok (.aload_n 0, 1) := by decide +kernel
theorem dX8_sets_43 : decode cX8_sets 43 = .ok (.getfield 28, 3) := by decide +kernel
theorem dX8_sets_46 : decode cX8_sets 46 = .ok (.invokevirtual 88, 3) := by decide +kernel
theorem dX8_sets_49 : decode cX8_sets 49 = .ok (.aload_n 0, 1) := by decide +kernel
theorem dX8_sets_50 : decode cX8_sets 50 = .ok (.getfield 28, 3) := by decide +kernel
theorem dX8_sets_53 : decode cX8_sets 53 = .ok (.getfield 117, 3) := by decide +kernel
theorem dX8_sets_56 : decode cX8_sets 56 = .ok (.aload_n 0, 1) := by decide +kernel
theorem dX8_sets_57 : decode cX8_sets 57 = .ok (.getfield 57, 3) := by decide +kernel
theorem dX8_sets_60 : decode cX8_sets 60 = .ok (.iload_n 1, 1) := by decide +kernel
theorem dX8_sets_61 : decode cX8_sets 61 = .ok (.iload_n 2, 1) := by decide +kernel
theorem dX8_sets_62 : decode cX8_sets 62 = .ok (.invokevirtual 123, 3) := by decide +kernel
theorem dX8_sets_65 : decode cX8_sets 65 = .ok (.iload_n 3, 1) := by decide +kernel
theorem dX8_sets_66 : decode cX8_sets 66 = .ok (.ireturn, 1) := by decide +kernel
theorem dX8_breaks_0 : decode cX8_breaks 0 = .ok (.iload_n 1, 1) := by decide +kernel
theorem dX8_breaks_1 : decode cX8_breaks 1 = .ok (.aload_n 0, 1) := by decide +kernel
theorem dX8_breaks_2 : decode cX8_breaks 2 = .ok (.getfield 57, 3) := by decide +kernel
theorem dX8_breaks_5 : decode cX8_breaks 5 = .ok (.getfield 126, 3) := by decide +kernel
theorem dX8_breaks_8 : decode cX8_breaks 8 = .ok (.invokestatic 61, 3) := by decide +kernel
theorem dX8_breaks_11 : decode cX8_breaks 11 = .ok (.ifCond .eq 12, 3) := by decide +kernel
theorem dX8_breaks_14 : decode cX8_breaks 14 = .ok (.iload_n 2, 1) := by decide +kernel
theorem dX8_breaks_15 : decode cX8_breaks 15 = .ok (.bipush 8, 2) := by decide +kernel
theorem dX8_breaks_17 : decode cX8_breaks 17 = .ok (.invokestatic 61, 3) := by decide +kernel
theorem dX8_breaks_20 : decode cX8_breaks 20 = .ok (.ifCond .ne 5, 3) := by decide +kernel
theorem dX8_breaks_23 : decode cX8_breaks 23 = .ok (.iconst (-1), 1) := by decide +kernel
theorem dX8_breaks_24 : decode cX8_breaks 24 = .ok (.ireturn, 1) := by decide +kernel
theorem dX8_breaks_25 : decode cX8_breaks 25 = .ok (.aload_n 0, 1) := by decide +kernel
theorem dX8_breaks_26 : decode cX8_breaks 26 = .ok (.getfield 28, 3) := by decide +kernel
theorem dX8_breaks_29 : decode cX8_breaks 29 = .ok (.getfield 117, 3) := by decide +kernel
theorem dX8_breaks_32 : decode cX8_breaks 32 = .ok (.getfield 129, 3) := by decide +kernel
theorem dX8_breaks_35 : decode cX8_breaks 35 = .ok (.iload_n 1, 1) := by decide +kernel
theorem dX8_breaks_36 : decode cX8_breaks 36 = .ok (.iaload, 1) := by decide +kernel
theorem dX8_breaks_37 : decode cX8_breaks 37 = .ok (.istore_n 3, 1) := by decide +kernel
theorem dX8_breaks_38 : decode cX8_breaks 38 = .ok (.iload_n 3, 1) := by decide +kernel
theorem dX8_breaks_39 : decode cX8_breaks 39 = .ok (.iload_n 2, 1) := by decide +kernel
theorem dX8_breaks_40 : decode cX8_breaks 40 = .ok (.if_icmp .ne 6, 3) := by decide +kernel
theorem dX8_breaks_43 : decode cX8_breaks 43 = .ok (.bipush (-2), 2) := by decide +kernel
theorem dX8_breaks_45 : decode cX8_breaks 45 = .ok (.ireturn, 1) := by decide +kernel
theorem dX8_breaks_46 : decode cX8_breaks 46 = .ok (.aload_n 0, 1) := by decide +kernel
theorem dX8_breaks_47 : decode cX8_breaks 47 = .ok (.getfield 35, 3) := by decide +kernel
theorem dX8_breaks_50 : decode cX8_breaks 50 = .ok (.aload_n 0, 1) := by decide +kernel
theorem dX8_breaks_51 : decode cX8_breaks 51 = .ok (.getfield 28, 3) := by decide +kernel
theorem dX8_breaks_54 : decode cX8_breaks 54 = .ok (.invokevirtual 88, 3) := by decide +kernel
theorem dX8_breaks_57 : decode cX8_breaks 57 = .ok (.aload_n 0, 1) := by decide +kernel
theorem dX8_breaks_58 : decode cX8_breaks 58 = .ok (.getfield 28, 3) := by decide +kernel
theorem dX8_breaks_61 : decode cX8_breaks 61 = .ok (.getfield 117, 3) := by decide +kernel
theorem dX8_breaks_64 : decode cX8_breaks 64 = .ok (.getfield 129, 3) := by decide +kernel
theorem dX8_breaks_67 : decode cX8_breaks 67 = .ok (.iload_n 1, 1) := by decide +kernel
theorem dX8_breaks_68 : decode cX8_breaks 68 = .ok (.iload_n 2, 1) := by decide +kernel
theorem dX8_breaks_69 : decode cX8_breaks 69 = .ok (.iastore, 1) := by decide +kernel
theorem dX8_breaks_70 : decode cX8_breaks 70 = .ok (.iload_n 3, 1) := by decide +kernel
theorem dX8_breaks_71 : decode cX8_breaks 71 = .ok (.ireturn, 1) := by decide +kernel
theorem dX8_undo_0 : decode cX8_undo 0 = .ok (.aload_n 0, 1) := by decide +kernel
theorem dX8_undo_1 : decode cX8_undo 1 = .ok (.getfield 35, 3) := by decide +kernel
theorem dX8_undo_4 : decode cX8_undo 4 = .ok (.getfield 133, 3) := by decide +kernel
theorem dX8_undo_7 : decode cX8_undo 7 = .ok (.ifCond .ne 6, 3) := by decide +kernel
theorem dX8_undo_10 : decode cX8_undo 10 = .ok (.bipush (-2), 2) := by decide +kernel
theorem dX8_undo_12 : decode cX8_undo 12 = .ok (.ireturn, 1) := by decide +kernel
theorem dX8_undo_13 : decode cX8_undo 13 = .ok (.aload_n 0, 1) := by decide +kernel
theorem dX8_undo_14 : decode cX8_undo 14 = .ok (.getfield 35, 3) := by decide +kernel
theorem dX8_undo_17 : decode cX8_undo 17 = .ok (.aload_n 0, 1) := by decide +kernel
theorem dX8_undo_18 : decode cX8_undo 18 = .ok (.getfield 28, 3) := by decide +kernel
theorem dX8_undo_21 : decode cX8_undo 21 = .ok (.invokevirtual 134, 3) := by decide +kernel
theorem dX8_undo_24 : decode cX8_undo 24 = .ok (.aload_n 0, 1) := by decide +kernel
theorem dX8_undo_25 : decode cX8_undo 25 = .ok (.getfield 35, 3) := by decide +kernel
theorem dX8_undo_28 : decode cX8_undo 28 = .ok (.getfield 133, 3) := by decide +kernel
theorem dX8_undo_31 : decode cX8_undo 31 = .ok (.ireturn, 1) := by decide +kernel
theorem dX8_field_0 : decode cX8_field 0 = .ok (.iload_n 1, 1) := by decide +kernel
theorem dX8_field_1 : decode cX8_field 1 = .ok (.aload_n 0, 1) := by decide +kernel
theorem dX8_field_2 : decode cX8_field 2 = .ok (.getfield 57, 3) := by decide +kernel
theorem dX8_field_5 : decode cX8_field 5 = .ok (.getfield 126, 3) := by decide +kernel
theorem dX8_field_8 : decode cX8_field 8 = .ok (.invokestatic 61, 3) := by decide +kernel
theorem dX8_field_11 : decode cX8_field 11 = .ok (.ifCond .ne 5, 3) := by decide +kernel
theorem dX8_field_14 : decode cX8_field 14 = .ok (.iconst (-1), 1) := by decide +kernel
theorem dX8_field_15 : decode cX8_field 15 = .ok (.ireturn, 1) := by decide +kernel
theorem dX8_field_16 : decode cX8_field 16 = .ok (.iload_n 2, 1) := by decide +kernel
theorem dX8_field_17 : decode cX8_field 17 = .ok (.tableswitch 142 0 7 #[47, 57, 67, 77, 87, 97, 113, 129], 47) := by decide +kernel
theorem dX8_field_64 : decode cX8_field 64 = .ok (.aload_n 0, 1) := by decide +kernel
theorem dX8_field_65 : decode cX8_field 65 = .ok (.getfield 57, 3) := by decide +kernel
theorem dX8_field_68 : decode cX8_field 68 = .ok (.getfield 137, 3) := by decide +kernel
theorem dX8_field_71 : decode cX8_field 71 = .ok (.iload_n 1, 1) := by decide +kernel
theorem dX8_field_72 : decode cX8_field 72 = .ok (.iaload, 1) := by decide +kernel
theorem dX8_field_73 : decode cX8_field 73 = .ok (.ireturn, 1) := by decide +kernel
theorem dX8_field_74 : decode cX8_field 74 = .ok (.aload_n 0, 1) := by decide +kernel
theorem dX8_field_75 : decode cX8_field 75 = .ok (.getfield 57, 3) := by decide +kernel
theorem dX8_field_78 : decode cX8_field 78 = .ok (.getfield 140, 3) := by decide +kernel
theorem dX8_field_81 : decode cX8_field 81 = .ok (.iload_n 1, 1) := by decide +kernel
theorem dX8_field_82 : decode cX8_field 82 = .ok (.iaload, 1) := by decide +kernel
theorem dX8_field_83 : decode cX8_field 83 = .ok (.ireturn, 1) := by decide +kernel
theorem dX8_field_84 : decode cX8_field 84 = .ok (.aload_n 0, 1) := by decide +kernel
theorem dX8_field_85 : decode cX8_field 85 = .ok (.getfield 57, 3) := by decide +kernel
theorem dX8_field_88 : decode cX8_field 88 = .ok (.getfield 143, 3) := by decide +kernel
theorem dX8_field_91 : decode cX8_field 91 = .ok (.iload_n 1, 1) := by decide +kernel
theorem dX8_field_92 : decode cX8_field 92 = .ok (.iaload, 1) := by decide +kernel
theorem dX8_field_93 : decode cX8_field 93 = .ok (.ireturn, 1) := by decide +kernel
theorem dX8_field_94 : decode cX8_field 94 = .ok (.aload_n 0, 1) := by decide +kernel
theorem dX8_field_95 : decode cX8_field 95 = .ok (.getfield 57, 3) := by decide +kernel
theorem dX8_field_98 : decode cX8_field 98 = .ok (.getfield 146, 3) := by decide +kernel
theorem dX8_field_101 : decode cX8_field 101 = .ok (.iload_n 1, 1) := by decide +kernel
theorem dX8_field_102 : decode cX8_field 102 = .ok (.iaload, 1) := by decide +kernel
theorem dX8_field_103 : decode cX8_field 103 = .ok (.ireturn, 1) := by decide +kernel
theorem dX8_field_104 : decode cX8_field 104 = .ok (.aload_n 0, 1) := by decide +kernel
theorem dX8_field_105 : decode cX8_field 105 = .ok (.getfield 57, 3) := by decide +kernel
theorem dX8_field_108 : decode cX8_field 108 = .ok (.getfield 149, 3) := by decide +kernel
theorem dX8_field_111 : decode cX8_field 111 = .ok (.iload_n 1, 1) := by decide +kernel
theorem dX8_field_112 : decode cX8_field 112 = .ok (.iaload, 1) := by decide +kernel
theorem dX8_field_113 : decode cX8_field 113 = .ok (.ireturn, 1) := by decide +kernel
theorem dX8_field_114 : decode cX8_field 114 = .ok (.aload_n 0, 1) := by decide +kernel
theorem dX8_field_115 : decode cX8_field 115 = .ok (.getfield 28, 3) := by decide +kernel
theorem dX8_field_118 : decode cX8_field 118 = .ok (.getfield 117, 3) := by decide +kernel
theorem dX8_field_121 : decode cX8_field 121 = .ok (.aload_n 0, 1) := by decide +kernel
theorem dX8_field_122 : decode cX8_field 122 = .ok (.getfield 57, 3) := by decide +kernel
theorem dX8_field_125 : decode cX8_field 125 = .ok (.iload_n 1, 1) := by decide +kernel
theorem dX8_field_126 : decode cX8_field 126 = .ok (.invokevirtual 120, 3) := by decide +kernel
theorem dX8_field_129 : decode cX8_field 129 = .ok (.ireturn, 1) := by decide +kernel
theorem dX8_field_130 : decode cX8_field 130 = .ok (.aload_n 0, 1) := by decide +kernel
theorem dX8_field_131 : decode cX8_field 131 = .ok (.getfield 28, 3) := by decide +kernel
theorem dX8_field_134 : decode cX8_field 134 = .ok (.getfield 152, 3) := by decide +kernel
theorem dX8_field_137 : decode cX8_field 137 = .ok (.aload_n 0, 1) := by decide +kernel
theorem dX8_field_138 : decode cX8_field 138 = .ok (.getfield 57, 3) := by decide +kernel
theorem dX8_field_141 : decode cX8_field 141 = .ok (.iload_n 1, 1) := by decide +kernel
theorem dX8_field_142 : decode cX8_field 142 = .ok (.invokevirtual 120, 3) := by decide +kernel
theorem dX8_field_145 : decode cX8_field 145 = .ok (.ireturn, 1) := by decide +kernel
theorem dX8_field_146 : decode cX8_field 146 = .ok (.aload_n 0, 1) := by decide +kernel
theorem dX8_field_147 : decode cX8_field 147 = .ok (.getfield 28, 3) := by decide +kernel
theorem dX8_field_150 : decode cX8_field 150 = .ok (.getfield 117, 3) := by decide +kernel
theorem dX8_field_153 : decode cX8_field 153 = .ok (.getfield 129, 3) := by decide +kernel
theorem dX8_field_156 : decode cX8_field 156 = .ok (.iload_n 1, 1) := by decide +kernel
theorem dX8_field_157 : decode cX8_field 157 = .ok (.iaload, 1) := by decide +kernel
theorem dX8_field_158 : decode cX8_field 158 = .ok (.ireturn, 1) := by decide +kernel
theorem dX8_field_159 : decode cX8_field 159 = .ok (.iconst (-1), 1) := by decide +kernel
theorem dX8_field_160 : decode cX8_field 160 = .ok (.ireturn, 1) := by decide +kernel
theorem dX8_register_0 : decode cX8_register 0 = .ok (.iload_n 1, 1) := by decide +kernel
theorem dX8_register_1 : decode cX8_register 1 = .ok (.aload_n 0, 1) := by decide +kernel
theorem dX8_register_2 : decode cX8_register 2 = .ok (.getfield 57, 3) := by decide +kernel
theorem dX8_register_5 : decode cX8_register 5 = .ok (.getfield 155, 3) := by decide +kernel
theorem dX8_register_8 : decode cX8_register 8 = .ok (.invokestatic 61, 3) := by decide +kernel
theorem dX8_register_11 : decode cX8_register 11 = .ok (.ifCond .ne 5, 3) := by decide +kernel
theorem dX8_register_14 : decode cX8_register 14 = .ok (.iconst (-1), 1) := by decide +kernel
theorem dX8_register_15 : decode cX8_register 15 = .ok (.ireturn, 1) := by decide +kernel
theorem dX8_register_16 : decode cX8_register 16 = .ok (.iload_n 2, 1) := by decide +kernel
theorem dX8_register_17 : decode cX8_register 17 = .ok (.tableswitch 102 0 4 #[35, 45, 55, 65, 89], 35) := by decide +kernel
theorem dX8_register_52 : decode cX8_register 52 = .ok (.aload_n 0, 1) := by decide +kernel
theorem dX8_register_53 : decode cX8_register 53 = .ok (.getfield 57, 3) := by decide +kernel
theorem dX8_register_56 : decode cX8_register 56 = .ok (.getfield 158, 3) := by decide +kernel
theorem dX8_register_59 : decode cX8_register 59 = .ok (.iload_n 1, 1) := by decide +kernel
theorem dX8_register_60 : decode cX8_register 60 = .ok (.iaload, 1) := by decide +kernel
theorem dX8_register_61 : decode cX8_register 61 = .ok (.ireturn, 1) := by decide +kernel
theorem dX8_register_62 : decode cX8_register 62 = .ok (.aload_n 0, 1) := by decide +kernel
theorem dX8_register_63 : decode cX8_register 63 = .ok (.getfield 57, 3) := by decide +kernel
theorem dX8_register_66 : decode cX8_register 66 = .ok (.getfield 161, 3) := by decide +kernel
theorem dX8_register_69 : decode cX8_register 69 = .ok (.iload_n 1, 1) := by decide +kernel
theorem dX8_register_70 : decode cX8_register 70 = .ok (.iaload, 1) := by decide +kernel
theorem dX8_register_71 : decode cX8_register 71 = .ok (.ireturn, 1) := by decide +kernel
theorem dX8_register_72 : decode cX8_register 72 = .ok (.aload_n 0, 1) := by decide +kernel
theorem dX8_register_73 : decode cX8_register 73 = .ok (.getfield 57, 3) := by decide +kernel
theorem dX8_register_76 : decode cX8_register 76 = .ok (.getfield 164, 3) := by decide +kernel
theorem dX8_register_79 : decode cX8_register 79 = .ok (.iload_n 1, 1) := by decide +kernel
theorem dX8_register_80 : decode cX8_register 80 = .ok (.iaload, 1) := by decide +kernel
theorem dX8_register_81 : decode cX8_register 81 = .ok (.ireturn, 1) := by decide +kernel
theorem dX8_register_82 : decode cX8_register 82 = .ok (.aload_n 0, 1) := by decide +kernel
theorem dX8_register_83 : decode cX8_register 83 = .ok (.getfield 28, 3) := by decide +kernel
theorem dX8_register_86 : decode cX8_register 86 = .ok (.getfield 117, 3) := by decide +kernel
theorem dX8_register_89 : decode cX8_register 89 = .ok (.aload_n 0, 1) := by decide +kernel
theorem dX8_register_90 : decode cX8_register 90 = .ok (.getfield 57, 3) := by decide +kernel
theorem dX8_register_93 : decode cX8_register 93 = .ok (.iload_n 1, 1) := by decide +kernel
theorem dX8_register_94 : decode cX8_register 94 = .ok (.invokevirtual 167, 3) := by decide +kernel
theorem dX8_register_97 : decode cX8_register 97 = .ok (.ifCond .eq 7, 3) := by decide +kernel
theorem dX8_register_100 : decode cX8_register 100 = .ok (.iconst 1, 1) := by decide +kernel
theorem dX8_register_101 : decode cX8_register 101 = .ok (.goto 4, 3) := by decide +kernel
theorem dX8_register_104 : decode cX8_register 104 = .ok (.iconst 0, 1) := by decide +kernel
theorem dX8_register_105 : decode cX8_register 105 = .ok (.ireturn, 1) := by decide +kernel
theorem dX8_register_106 : decode cX8_register 106 = .ok (.aload_n 0, 1) := by decide +kernel
theorem dX8_register_107 : decode cX8_register 107 = .ok (.getfield 28, 3) := by decide +kernel
theorem dX8_register_110 : decode cX8_register 110 = .ok (.getfield 117, 3) := by decide +kernel
theorem dX8_register_113 : decode cX8_register 113 = .ok (.getfield 171, 3) := by decide +kernel
theorem dX8_register_116 : decode cX8_register 116 = .ok (.iload_n 1, 1) := by decide +kernel
theorem dX8_register_117 : decode cX8_register 117 = .ok (.iaload, 1) := by decide +kernel
theorem dX8_register_118 : decode cX8_register 118 = .ok (.ireturn, 1) := by decide +kernel
theorem dX8_register_119 : decode cX8_register 119 = .ok (.iconst (-1), 1) := by decide +kernel
theorem dX8_register_120 : decode cX8_register 120 = .ok (.ireturn, 1) := by decide +kernel
theorem dX8_alias_0 : decode cX8_alias 0 = .ok (.iload_n 1, 1) := by decide +kernel
theorem dX8_alias_1 : decode cX8_alias 1 = .ok (.aload_n 0, 1) := by decide +kernel
theorem dX8_alias_2 : decode cX8_alias 2 = .ok (.getfield 57, 3) := by decide +kernel
theorem dX8_alias_5 : decode cX8_alias 5 = .ok (.getfield 174, 3) := by decide +kernel
theorem dX8_alias_8 : decode cX8_alias 8 = .ok (.invokestatic 61, 3) := by decide +kernel
theorem dX8_alias_11 : decode cX8_alias 11 = .ok (.ifCond .ne 5, 3) := by decide +kernel
theorem dX8_alias_14 : decode cX8_alias 14 = .ok (.iconst (-1), 1) := by decide +kernel
theorem dX8_alias_15 : decode cX8_alias 15 = .ok (.ireturn, 1) := by decide +kernel
theorem dX8_alias_16 : decode cX8_alias 16 = .ok (.iload_n 2, 1) := by decide +kernel
theorem dX8_alias_17 : decode cX8_alias 17 = .ok (.tableswitch 57 0 2 #[27, 37, 47], 27) := by decide +kernel
theorem dX8_alias_44 : decode cX8_alias 44 = .ok (.aload_n 0, 1) := by decide +kernel
theorem dX8_alias_45 : decode cX8_alias 45 = .ok (.getfield 57, 3) := by decide +kernel
theorem dX8_alias_48 : decode cX8_alias 48 = .ok (.getfield 177, 3) := by decide +kernel
theorem dX8_alias_51 : decode cX8_alias 51 = .ok (.iload_n 1, 1) := by decide +kernel
theorem dX8_alias_52 : decode cX8_alias 52 = .ok (.iaload, 1) := by decide +kernel
theorem dX8_alias_53 : decode cX8_alias 53 = .ok (.ireturn, 1) := by decide +kernel
theorem dX8_alias_54 : decode cX8_alias 54 = .ok (.aload_n 0, 1) := by decide +kernel
theorem dX8_alias_55 : decode cX8_alias 55 = .ok (.getfield 57, 3) := by decide +kernel
theorem dX8_alias_58 : decode cX8_alias 58 = .ok (.getfield 180, 3) := by decide +kernel
theorem dX8_alias_61 : decode cX8_alias 61 = .ok (.iload_n 1, 1) := by decide +kernel
theorem dX8_alias_62 : decode cX8_alias 62 = .ok (.iaload, 1) := by decide +kernel
theorem dX8_alias_63 : decode cX8_alias 63 = .ok (.ireturn, 1) := by decide +kernel
theorem dX8_alias_64 : decode cX8_alias 64 = .ok (.aload_n 0, 1) := by decide +kernel
theorem dX8_alias_65 : decode cX8_alias 65 = .ok (.getfield 57, 3) := by decide +kernel
theorem dX8_alias_68 : decode cX8_alias 68 = .ok (.getfield 183, 3) := by decide +kernel
theorem dX8_alias_71 : decode cX8_alias 71 = .ok (.iload_n 1, 1) := by decide +kernel
theorem dX8_alias_72 : decode cX8_alias 72 = .ok (.iaload, 1) := by decide +kernel
theorem dX8_alias_73 : decode cX8_alias 73 = .ok (.ireturn, 1) := by decide +kernel
theorem dX8_alias_74 : decode cX8_alias 74 = .ok (.iconst (-1), 1) := by decide +kernel
theorem dX8_alias_75 : decode cX8_alias 75 = .ok (.ireturn, 1) := by decide +kernel
theorem dX8_at_0 : decode cX8_at 0 = .ok (.iload_n 1, 1) := by decide +kernel
theorem dX8_at_1 : decode cX8_at 1 = .ok (.bipush 16, 2) := by decide +kernel
theorem dX8_at_3 : decode cX8_at 3 = .ok (.invokestatic 61, 3) := by decide +kernel
theorem dX8_at_6 : decode cX8_at 6 = .ok (.ifCond .ne 5, 3) := by decide +kernel
theorem dX8_at_9 : decode cX8_at 9 = .ok (.iconst (-1), 1) := by decide +kernel
theorem dX8_at_10 : decode cX8_at 10 = .ok (.ireturn, 1) := by decide +kernel
theorem dX8_at_11 : decode cX8_at 11 = .ok (.aload_n 0, 1) := by decide +kernel
theorem dX8_at_12 : decode cX8_at 12 = .ok (.getfield 57, 3) := by decide +kernel
theorem dX8_at_15 : decode cX8_at 15 = .ok (.iload_n 1, 1) := by decide +kernel
theorem dX8_at_16 : decode cX8_at 16 = .ok (.invokevirtual 186, 3) := by decide +kernel
theorem dX8_at_19 : decode cX8_at 19 = .ok (.istore_n 2, 1) := by decide +kernel
theorem dX8_at_20 : decode cX8_at 20 = .ok (.iload_n 2, 1) := by decide +kernel
theorem dX8_at_21 : decode cX8_at 21 = .ok (.bipush (-9), 2) := by decide +kernel
theorem dX8_at_23 : decode cX8_at 23 = .ok (.if_icmp .ne 14, 3) := by decide +kernel
theorem dX8_at_26 : decode cX8_at 26 = .ok (.aload_n 0, 1) := by decide +kernel
theorem dX8_at_27 : decode cX8_at 27 = .ok (.getfield 57, 3) := by decide +kernel
theorem dX8_at_30 : decode cX8_at 30 = .ok (.iload_n 1, 1) := by decide +kernel
theorem dX8_at_31 : decode cX8_at 31 = .ok (.invokevirtual 190, 3) := by decide +kernel
theorem dX8_at_34 : decode cX8_at 34 = .ok (.goto 7, 3) := by decide +kernel
theorem dX8_at_37 : decode cX8_at 37 = .ok (.bipush 100, 2) := by decide +kernel
theorem dX8_at_39 : decode cX8_at 39 = .ok (.iload_n 2, 1) := by decide +kernel
theorem dX8_at_40 : decode cX8_at 40 = .ok (.iadd, 1) := by decide +kernel
theorem dX8_at_41 : decode cX8_at 41 = .ok (.ireturn, 1) := by decide +kernel
theorem dX8_peek_0 : decode cX8_peek 0 = .ok (.iload_n 1, 1) := by decide +kernel
theorem dX8_peek_1 : decode cX8_peek 1 = .ok (.bipush 16, 2) := by decide +kernel
theorem dX8_peek_3 : decode cX8_peek 3 = .ok (.invokestatic 61, 3) := by decide +kernel
theorem dX8_peek_6 : decode cX8_peek 6 = .ok (.ifCond .eq 11, 3) := by decide +kernel
theorem dX8_peek_9 : decode cX8_peek 9 = .ok (.iload_n 2, 1) := by decide +kernel
theorem dX8_peek_10 : decode cX8_peek 10 = .ok (.iconst 2, 1) := by decide +kernel
theorem dX8_peek_11 : decode cX8_peek 11 = .ok (.invokestatic 61, 3) := by decide +kernel
theorem dX8_peek_14 : decode cX8_peek 14 = .ok (.ifCond .ne 5, 3) := by decide +kernel
theorem dX8_peek_17 : decode cX8_peek 17 = .ok (.iconst (-1), 1) := by decide +kernel
theorem dX8_peek_18 : decode cX8_peek 18 = .ok (.ireturn, 1) := by decide +kernel
theorem dX8_peek_19 : decode cX8_peek 19 = .ok (.iload_n 2, 1) := by decide +kernel
theorem dX8_peek_20 : decode cX8_peek 20 = .ok (.ifCond .ne 21, 3) := by decide +kernel
theorem dX8_peek_23 : decode cX8_peek 23 = .ok (.aload_n 0, 1) := by decide +kernel
theorem dX8_peek_24 : decode cX8_peek 24 = .ok (.getfield 28, 3) := by decide +kernel
theorem dX8_peek_27 : decode cX8_peek 27 = .ok (.getfield 117, 3) := by decide +kernel
theorem dX8_peek_30 : decode cX8_peek 30 = .ok (.aload_n 0, 1) := by decide +kernel
theorem dX8_peek_31 : decode cX8_peek 31 = .ok (.getfield 57, 3) := by decide +kernel
theorem dX8_peek_34 : decode cX8_peek 34 = .ok (.iload_n 1, 1) := by decide +kernel
theorem dX8_peek_35 : decode cX8_peek 35 = .ok (.invokevirtual 193, 3) := by decide +kernel
theorem dX8_peek_38 : decode cX8_peek 38 = .ok (.goto 18, 3) := by decide +kernel
theorem dX8_peek_41 : decode cX8_peek 41 = .ok (.aload_n 0, 1) := by decide +kernel
theorem dX8_peek_42 : decode cX8_peek 42 = .ok (.getfield 28, 3) := by decide +kernel
theorem dX8_peek_45 : decode cX8_peek 45 = .ok (.getfield 152, 3) := by decide +kernel
theorem dX8_peek_48 : decode cX8_peek 48 = .ok (.aload_n 0, 1) := by decide +kernel
theorem dX8_peek_49 : decode cX8_peek 49 = .ok (.getfield 57, 3) := by decide +kernel
theorem dX8_peek_52 : decode cX8_peek 52 = .ok (.iload_n 1, 1) := by decide +kernel
theorem dX8_peek_53 : decode cX8_peek 53 = .ok (.invokevirtual 193, 3) := by decide +kernel
theorem dX8_peek_56 : decode cX8_peek 56 = .ok (.ireturn, 1) := by decide +kernel
theorem dX8_changedBy_0 : decode cX8_changedBy 0 = .ok (.aload_n 0, 1) := by decide +kernel
theorem dX8_changedBy_1 : decode cX8_changedBy 1 = .ok (.getfield 50, 3) := by decide +kernel
theorem dX8_changedBy_4 : decode cX8_changedBy 4 = .ok (.aload_n 0, 1) := by decide +kernel
theorem dX8_changedBy_5 : decode cX8_changedBy 5 = .ok (.getfield 28, 3) := by decide +kernel
theorem dX8_changedBy_8 : decode cX8_changedBy 8 = .ok (.getfield 117, 3) := by decide +kernel
theorem dX8_changedBy_11 : decode cX8_changedBy 11 = .ok (.invokevirtual 235, 3) := by decide +kernel
theorem dX8_changedBy_14 : decode cX8_changedBy 14 = .ok (.aload_n 0, 1) := by decide +kernel
theorem dX8_changedBy_15 : decode cX8_changedBy 15 = .ok (.getfield 50, 3) := by decide +kernel
theorem dX8_changedBy_18 : decode cX8_changedBy 18 = .ok (.aload_n 0, 1) := by decide +kernel
theorem dX8_changedBy_19 : decode cX8_changedBy 19 = .ok (.getfield 57, 3) := by decide +kernel
theorem dX8_changedBy_22 : decode cX8_changedBy 22 = .ok (.iload_n 1, 1) := by decide +kernel
theorem dX8_changedBy_23 : decode cX8_changedBy 23 = .ok (.iload_n 2, 1) := by decide +kernel
theorem dX8_changedBy_24 : decode cX8_changedBy 24 = .ok (.invokevirtual 238, 3) := by decide +kernel
theorem dX8_changedBy_27 : decode cX8_changedBy 27 = .ok (.iconst 0, 1) := by decide +kernel
theorem dX8_changedBy_28 : decode cX8_changedBy 28 = .ok (.istore_n 3, 1) := by decide +kernel
theorem dX8_changedBy_29 : decode cX8_changedBy 29 = .ok (.iconst 0, 1) := by decide +kernel
theorem dX8_changedBy_30 : decode cX8_changedBy 30 = .ok (.istore 4, 2) := by decide +kernel
theorem dX8_changedBy_32 : decode cX8_changedBy 32 = .ok (.iload 4, 2) := by decide +kernel
theorem dX8_changedBy_34 : decode cX8_changedBy 34 = .ok (.aload_n 0, 1) := by decide +kernel
theorem dX8_changedBy_35 : decode cX8_changedBy 35 = .ok (.getfield 57, 3) := by decide +kernel
theorem dX8_changedBy_38 : decode cX8_changedBy 38 = .ok (.getfield 126, 3) := by decide +kernel
theorem dX8_changedBy_41 : decode cX8_changedBy 41 = .ok (.if_icmp .ge 48, 3) := by decide +kernel
theorem dX8_changedBy_44 : decode cX8_changedBy 44 = .ok (.aload_n 0, 1) := by decide +kernel
theorem dX8_changedBy_45 : decode cX8_changedBy 45 = .ok (.getfield 50, 3) := by decide +kernel
theorem dX8_changedBy_48 : decode cX8_changedBy 48 = .ok (.aload_n 0, 1) := by decide +kernel
theorem dX8_changedBy_49 : decode cX8_changedBy 49 = .ok (.getfield 57, 3) := by decide +kernel
theorem dX8_changedBy_52 : decode cX8_changedBy 52 = .ok (.iload 4, 2) := by decide +kernel
theorem dX8_changedBy_54 : decode cX8_changedBy 54 = .ok (.invokevirtual 120, 3) := by decide +kernel
theorem dX8_changedBy_57 : decode cX8_changedBy 57 = .ok (.aload_n 0, 1) := by decide +kernel
theorem dX8_changedBy_58 : decode cX8_changedBy 58 = .ok (.getfield 28, 3) := by decide +kernel
theorem dX8_changedBy_61 : decode cX8_changedBy 61 = .ok (.getfield 117, 3) := by decide +kernel
theorem dX8_changedBy_64 : decode cX8_changedBy 64 = .ok (.aload_n 0, 1) := by decide +kernel
theorem dX8_changedBy_65 : decode cX8_changedBy 65 = .ok (.getfield 57, 3) := by decide +kernel
theorem dX8_changedBy_68 : decode cX8_changedBy 68 = .ok (.iload 4, 2) := by decide +kernel
theorem dX8_changedBy_70 : decode cX8_changedBy 70 = .ok (.invokevirtual 120, 3) := by decide +kernel
theorem dX8_changedBy_73 : decode cX8_changedBy 73 = .ok (.if_icmp .eq 10, 3) := by decide +kernel
theorem dX8_changedBy_76 : decode cX8_changedBy 76 = .ok (.iload_n 3, 1) := by decide +kernel
theorem dX8_changedBy_77 : decode cX8_changedBy 77 = .ok (.iconst 1, 1) := by decide +kernel
theorem dX8_changedBy_78 : decode cX8_changedBy 78 = .ok (.iload 4, 2) := by decide +kernel
theorem dX8_changedBy_80 : decode cX8_changedBy 80 = .ok (.ishl, 1) := by decide +kernel
theorem dX8_changedBy_81 : decode cX8_changedBy 81 = .ok (.ior, 1) := by decide +kernel
theorem dX8_changedBy_82 : decode cX8_changedBy 82 = .ok (.istore_n 3, 1) := by decide +kernel
theorem dX8_changedBy_83 : decode cX8_changedBy 83 = .ok (.iinc 4 1, 3) := by decide +kernel
theorem dX8_changedBy_86 : decode cX8_changedBy 86 = .ok (.goto (-54), 3) := by decide +kernel
theorem dX8_changedBy_89 : decode cX8_changedBy 89 = .ok (.iload_n 3, 1) := by decide +kernel
theorem dX8_changedBy_90 : decode cX8_changedBy 90 = .ok (.ireturn, 1) := by decide +kernel
