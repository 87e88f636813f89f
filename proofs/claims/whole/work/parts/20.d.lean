theorem dX0_registerAt_0 : decode cX0_registerAt 0 = .ok (.iconst 0, 1) := by decide +kernel
theorem dX0_registerAt_1 : decode cX0_registerAt 1 = .ok (.istore_n 2, 1) := by decide +kernel
theorem dX0_registerAt_2 : decode cX0_registerAt 2 = .ok (.iload_n 2, 1) := by decide +kernel
theorem dX0_registerAt_3 : decode cX0_registerAt 3 = .ok (.aload_n 0, 1) := by decide +kernel
theorem dX0_registerAt_4 : decode cX0_registerAt 4 = .ok (.getfield 48, 3) := by decide +kernel
theorem dX0_registerAt_7 : decode cX0_registerAt 7 = .ok (.if_icmp .ge 21, 3) := by decide +kernel
theorem dX0_registerAt_10 : decode cX0_registerAt 10 = .ok (.aload_n 0, 1) := by decide +kernel
theorem dX0_registerAt_11 : decode cX0_registerAt 11 = .ok (.getfield 9, 3) := by decide +kernel
theorem dX0_registerAt_14 : decode cX0_registerAt 14 = .ok (.iload_n 2, 1) := by decide +kernel
theorem dX0_registerAt_15 : decode cX0_registerAt 15 = .ok (.iaload, 1) := by decide +kernel
theorem dX0_registerAt_16 : decode cX0_registerAt 16 = .ok (.iload_n 1, 1) := by decide +kernel
theorem dX0_registerAt_17 : decode cX0_registerAt 17 = .ok (.if_icmp .ne 5, 3) := by decide +kernel
theorem dX0_registerAt_20 : decode cX0_registerAt 20 = .ok (.iload_n 2, 1) := by decide +kernel
theorem dX0_registerAt_21 : decode cX0_registerAt 21 = .ok (.ireturn, 1) := by decide +kernel
theorem dX0_registerAt_22 : decode cX0_registerAt 22 = .ok (.iinc 2 1, 3) := by decide +kernel
theorem dX0_registerAt_25 : decode cX0_registerAt 25 = .ok (.goto (-23), 3) := by decide +kernel
theorem dX0_registerAt_28 : decode cX0_registerAt 28 = .ok (.bipush (-9), 2) := by decide +kernel
theorem dX0_registerAt_30 : decode cX0_registerAt 30 = .ok (.ireturn, 1) := by decide +kernel
theorem dX0_aliasAt_0 : decode cX0_aliasAt 0 = .ok (.aload_n 0, 1) := by decide +kernel
theorem dX0_aliasAt_1 : decode cX0_aliasAt 1 = .ok (.iload_n 1, 1) := by decide +kernel
theorem dX0_aliasAt_2 : decode cX0_aliasAt 2 = .ok (.invokevirtual 71, 3) := by decide +kernel
theorem dX0_aliasAt_5 : decode cX0_aliasAt 5 = .ok (.bipush (-9), 2) := by decide +kernel
theorem dX0_aliasAt_7 : decode cX0_aliasAt 7 = .ok (.if_icmp .eq 6, 3) := by decide +kernel
theorem dX0_aliasAt_10 : decode cX0_aliasAt 10 = .ok (.bipush (-9), 2) := by decide +kernel
theorem dX0_aliasAt_12 : decode cX0_aliasAt 12 = .ok (.ireturn, 1) := by decide +kernel
theorem dX0_aliasAt_13 : decode cX0_aliasAt 13 = .ok (.iconst 0, 1) := by decide +kernel
theorem dX0_aliasAt_14 : decode cX0_aliasAt 14 = .ok (.istore_n 2, 1) := by decide +kernel
theorem dX0_aliasAt_15 : decode cX0_aliasAt 15 = .ok (.iload_n 2, 1) := by decide +kernel
theorem dX0_aliasAt_16 : decode cX0_aliasAt 16 = .ok (.aload_n 0, 1) := by decide +kernel
theorem dX0_aliasAt_17 : decode cX0_aliasAt 17 = .ok (.getfield 55, 3) := by decide +kernel
theorem dX0_aliasAt_20 : decode cX0_aliasAt 20 = .ok (.if_icmp .ge 21, 3) := by decide +kernel
theorem dX0_aliasAt_23 : decode cX0_aliasAt 23 = .ok (.aload_n 0, 1) := by decide +kernel
theorem dX0_aliasAt_24 : decode cX0_aliasAt 24 = .ok (.getfield 39, 3) := by decide +kernel
theorem dX0_aliasAt_27 : decode cX0_aliasAt 27 = .ok (.iload_n 2, 1) := by decide +kernel
theorem dX0_aliasAt_28 : decode cX0_aliasAt 28 = .ok (.iaload, 1) := by decide +kernel
theorem dX0_aliasAt_29 : decode cX0_aliasAt 29 = .ok (.iload_n 1, 1) := by decide +kernel
theorem dX0_aliasAt_30 : decode cX0_aliasAt 30 = .ok (.if_icmp .ne 5, 3) := by decide +kernel
theorem dX0_aliasAt_33 : decode cX0_aliasAt 33 = .ok (.iload_n 2, 1) := by decide +kernel
theorem dX0_aliasAt_34 : decode cX0_aliasAt 34 = .ok (.ireturn, 1) := by decide +kernel
theorem dX0_aliasAt_35 : decode cX0_aliasAt 35 = .ok (.iinc 2 1, 3) := by decide +kernel
theorem dX0_aliasAt_38 : decode cX0_aliasAt 38 = .ok (.goto (-23), 3) := by decide +kernel
theorem dX0_aliasAt_41 : decode cX0_aliasAt 41 = .ok (.bipush (-9), 2) := by decide +kernel
theorem dX0_aliasAt_43 : decode cX0_aliasAt 43 = .ok (.ireturn, 1) := by decide +kernel
theorem dX0_registerBehind_0 : decode cX0_registerBehind 0 = .ok (.aload_n 0, 1) := by decide +kernel
theorem dX0_registerBehind_1 : decode cX0_registerBehind 1 = .ok (.iload_n 1, 1) := by decide +kernel
theorem dX0_registerBehind_2 : decode cX0_registerBehind 2 = .ok (.invokevirtual 74, 3) := by decide +kernel
theorem dX0_registerBehind_5 : decode cX0_registerBehind 5 = .ok (.istore_n 2, 1) := by decide +kernel
theorem dX0_registerBehind_6 : decode cX0_registerBehind 6 = .ok (.iload_n 2, 1) := by decide +kernel
theorem dX0_registerBehind_7 : decode cX0_registerBehind 7 = .ok (.bipush (-9), 2) := by decide +kernel
theorem dX0_registerBehind_9 : decode cX0_registerBehind 9 = .ok (.if_icmp .ne 11, 3) := by decide +kernel
theorem dX0_registerBehind_12 : decode cX0_registerBehind 12 = .ok (.aload_n 0, 1) := by decide +kernel
theorem dX0_registerBehind_13 : decode cX0_registerBehind 13 = .ok (.iload_n 1, 1) := by decide +kernel
theorem dX0_registerBehind_14 : decode cX0_registerBehind 14 = .ok (.invokevirtual 71, 3) := by decide +kernel
theorem dX0_registerBehind_17 : decode cX0_registerBehind 17 = .ok (.goto 9, 3) := by decide +kernel
theorem dX0_registerBehind_20 : decode cX0_registerBehind 20 = .ok (.aload_n 0, 1) := by decide +kernel
theorem dX0_registerBehind_21 : decode cX0_registerBehind 21 = .ok (.getfield 42, 3) := by decide +kernel
theorem dX0_registerBehind_24 : decode cX0_registerBehind 24 = .ok (.iload_n 2, 1) := by decide +kernel
theorem dX0_registerBehind_25 : decode cX0_registerBehind 25 = .ok (.iaload, 1) := by decide +kernel
theorem dX0_registerBehind_26 : decode cX0_registerBehind 26 = .ok (.ireturn, 1) := by decide +kernel
theorem dX0_isOpenedBy_0 : decode cX0_isOpenedBy 0 = .ok (.aload_n 0, 1) := by decide +kernel
theorem dX0_isOpenedBy_1 : decode cX0_isOpenedBy 1 = .ok (.getfield 18, 3) := by decide +kernel
theorem dX0_isOpenedBy_4 : decode cX0_isOpenedBy 4 = .ok (.iload_n 1, 1) := by decide +kernel
theorem dX0_isOpenedBy_5 : decode cX0_isOpenedBy 5 = .ok (.iaload, 1) := by decide +kernel
theorem dX0_isOpenedBy_6 : decode cX0_isOpenedBy 6 = .ok (.istore_n 3, 1) := by decide +kernel
theorem dX0_isOpenedBy_7 : decode cX0_isOpenedBy 7 = .ok (.iload_n 3, 1) := by decide +kernel
theorem dX0_isOpenedBy_8 : decode cX0_isOpenedBy 8 = .ok (.aload_n 0, 1) := by decide +kernel
theorem dX0_isOpenedBy_9 : decode cX0_isOpenedBy 9 = .ok (.getfield 52, 3) := by decide +kernel
theorem dX0_isOpenedBy_12 : decode cX0_isOpenedBy 12 = .ok (.invokestatic 58, 3) := by decide +kernel
theorem dX0_isOpenedBy_15 : decode cX0_isOpenedBy 15 = .ok (.ifCond .eq 17, 3) := by decide +kernel
theorem dX0_isOpenedBy_18 : decode cX0_isOpenedBy 18 = .ok (.aload_n 0, 1) := by decide +kernel
theorem dX0_isOpenedBy_19 : decode cX0_isOpenedBy 19 = .ok (.getfield 21, 3) := by decide +kernel
theorem dX0_isOpenedBy_22 : decode cX0_isOpenedBy 22 = .ok (.iload_n 3, 1) := by decide +kernel
theorem dX0_isOpenedBy_23 : decode cX0_isOpenedBy 23 = .ok (.iaload, 1) := by decide +kernel
theorem dX0_isOpenedBy_24 : decode cX0_isOpenedBy 24 = .ok (.iload_n 2, 1) := by decide +kernel
theorem dX0_isOpenedBy_25 : decode cX0_isOpenedBy 25 = .ok (.if_icmp .ne 7, 3) := by decide +kernel
theorem dX0_isOpenedBy_28 : decode cX0_isOpenedBy 28 = .ok (.iconst 1, 1) := by decide +kernel
theorem dX0_isOpenedBy_29 : decode cX0_isOpenedBy 29 = .ok (.goto 4, 3) := by decide +kernel
theorem dX0_isOpenedBy_32 : decode cX0_isOpenedBy 32 = .ok (.iconst 0, 1) := by decide +kernel
theorem dX0_isOpenedBy_33 : decode cX0_isOpenedBy 33 = .ok (.ireturn, 1) := by decide +kernel
theorem dX1_copyFrom_0 : decode cX1_copyFrom 0 = .ok (.iconst 0, 1) := by decide +kernel
theorem dX1_copyFrom_1 : decode cX1_copyFrom 1 = .ok (.istore_n 2, 1) := by decide +kernel
theorem dX1_copyFrom_2 : decode cX1_copyFrom 2 = .ok (.iload_n 2, 1) := by decide +kernel
theorem dX1_copyFrom_3 : decode cX1_copyFrom 3 = .ok (.bipush 6, 2) := by decide +kernel
theorem dX1_copyFrom_5 : decode cX1_copyFrom 5 = .ok (.if_icmp .ge 45, 3) := by decide +kernel
theorem dX1_copyFrom_8 : decode cX1_copyFrom 8 = .ok (.aload_n 0, 1) := by decide +kernel
theorem dX1_copyFrom_9 : decode cX1_copyFrom 9 = .ok (.getfield 9, 3) := by decide +kernel
theorem dX1_copyFrom_12 : decode cX1_copyFrom 12 = .ok (.iload_n 2, 1) := by decide +kernel
theorem dX1_copyFrom_13 : decode cX1_copyFrom 13 = .ok (.aload_n 1, 1) := by decide +kernel
theorem dX1_copyFrom_14 : decode cX1_copyFrom 14 = .ok (.getfield 9, 3) := by decide +kernel
theorem dX1_copyFrom_17 : decode cX1_copyFrom 17 = .ok (.iload_n 2, 1) := by decide +kernel
theorem dX1_copyFrom_18 : decode cX1_copyFrom 18 = .ok (.iaload, 1) := by decide +kernel
theorem dX1_copyFrom_19 : decode cX1_copyFrom 19 = .ok (.iastore, 1) := by decide +kernel
theorem dX1_copyFrom_20 : decode cX1_copyFrom 20 = .ok (.aload_n 0, 1) := by decide +kernel
theorem dX1_copyFrom_21 : decode cX1_copyFrom 21 = .ok (.getfield 15, 3) := by decide +kernel
theorem dX1_copyFrom_24 : decode cX1_copyFrom 24 = .ok (.iload_n 2, 1) := by decide +kernel
theorem dX1_copyFrom_25 : decode cX1_copyFrom 25 = .ok (.aload_n 1, 1) := by decide +kernel
theorem dX1_copyFrom_26 : decode cX1_copyFrom 26 = .ok (.getfield 15, 3) := by decide +kernel
theorem dX1_copyFrom_29 : decode cX1_copyFrom 29 = .ok (.iload_n 2, 1) := by decide +kernel
theorem dX1_copyFrom_30 : decode cX1_copyFrom 30 = .ok (.iaload, 1) := by decide +kernel
theorem dX1_copyFrom_31 : decode cX1_copyFrom 31 = .ok (.iastore, 1) := by decide +kernel
theorem dX1_copyFrom_32 : decode cX1_copyFrom 32 = .ok (.aload_n 0, 1) := by decide +kernel
theorem dX1_copyFrom_33 : decode cX1_copyFrom 33 = .ok (.getfield 18, 3) := by decide +kernel
theorem dX1_copyFrom_36 : decode cX1_copyFrom 36 = .ok (.iload_n 2, 1) := by decide +kernel
theorem dX1_copyFrom_37 : decode cX1_copyFrom 37 = .ok (.aload_n 1, 1) := by decide +kernel
theorem dX1_copyFrom_38 : decode cX1_copyFrom 38 = .ok (.getfield 18, 3) := by decide +kernel
theorem dX1_copyFrom_41 : decode cX1_copyFrom 41 = .ok (.iload_n 2, 1) := by decide +kernel
theorem dX1_copyFrom_42 : decode cX1_copyFrom 42 = .ok (.baload, 1) := by decide +kernel
theorem dX1_copyFrom_43 : decode cX1_copyFrom 43 = .ok (.bastore, 1) := by decide +kernel
theorem dX1_copyFrom_44 : decode cX1_copyFrom 44 = .ok (.iinc 2 1, 3) := by decide +kernel
theorem dX1_copyFrom_47 : decode cX1_copyFrom 47 = .ok (.goto (-45), 3) := by decide +kernel
theorem dX1_copyFrom_50 : decode cX1_copyFrom 50 = .ok (.aload_n 1, 1) := by decide +kernel
theorem dX1_copyFrom_51 : decode cX1_copyFrom 51 = .ok (.getfield 22, 3) := by decide +kernel
theorem dX1_copyFrom_54 : decode cX1_copyFrom 54 = .ok (.iconst 0, 1) := by decide +kernel
theorem dX1_copyFrom_55 : decode cX1_copyFrom 55 = .ok (.aload_n 0, 1) := by decide +kernel
theorem dX1_copyFrom_56 : decode cX1_copyFrom 56 = .ok (.getfield 22, 3) := by decide +kernel
theorem dX1_copyFrom_59 : decode cX1_copyFrom 59 = .ok (.iconst 0, 1) := by decide +kernel
theorem dX1_copyFrom_60 : decode cX1_copyFrom 60 = .ok (.bipush 12, 2) := by decide +kernel
theorem dX1_copyFrom_62 : decode cX1_copyFrom 62 = .ok (.invokestatic 25, 3) := by decide +kernel
theorem dX1_copyFrom_65 : decode cX1_copyFrom 65 = .ok (.return_, 1) := by decide +kernel
theorem dX1_restart_0 : decode cX1_restart 0 = .ok (.iconst 0, 1) := by decide +kernel
theorem dX1_restart_1 : decode cX1_restart 1 = .ok (.istore_n 2, 1) := by decide +kernel
theorem dX1_restart_2 : decode cX1_restart 2 = .ok (.iload_n 2, 1) := by decide +kernel
theorem dX1_restart_3 : decode cX1_restart 3 = .ok (.bipush 6, 2) := by decide +kernel
theorem dX1_restart_5 : decode cX1_restart 5 = .ok (.if_icmp .ge 31, 3) := by decide +kernel
theorem dX1_restart_8 : decode cX1_restart 8 = .ok (.aload_n 0, 1) := by decide +kernel
theorem dX1_restart_9 : decode cX1_restart 9 = .ok (.getfield 9, 3) := by decide +kernel
theorem dX1_restart_12 : decode cX1_restart 12 = .ok (.iload_n 2, 1) := by decide +kernel
theorem dX1_restart_13 : decode cX1_restart 13 = .ok (.iconst 0, 1) := by decide +kernel
theorem dX1_restart_14 : decode cX1_restart 14 = .ok (.iastore, 1) := by decide +kernel
theorem dX1_restart_15 : decode cX1_restart 15 = .ok (.aload_n 0, 1) := by decide +kernel
theorem dX1_restart_16 : decode cX1_restart 16 = .ok (.getfield 15, 3) := by decide +kernel
theorem dX1_restart_19 : decode cX1_restart 19 = .ok (.iload_n 2, 1) := by decide +kernel
theorem dX1_restart_20 : decode cX1_restart 20 = .ok (.bipush (-9), 2) := by decide +kernel
theorem dX1_restart_22 : decode cX1_restart 22 = .ok (.iastore, 1) := by decide +kernel
theorem dX1_restart_23 : decode cX1_restart 23 = .ok (.aload_n 0, 1) := by decide +kernel
theorem dX1_restart_24 : decode cX1_restart 24 = .ok (.getfield 18, 3) := by decide +kernel
theorem dX1_restart_27 : decode cX1_restart 27 = .ok (.iload_n 2, 1) := by decide +kernel
theorem dX1_restart_28 : decode cX1_restart 28 = .ok (.iconst 0, 1) := by decide +kernel
theorem dX1_restart_29 : decode cX1_restart 29 = .ok (.bastore, 1) := by decide +kernel
theorem dX1_restart_30 : decode cX1_restart 30 = .ok (.iinc 2 1, 3) := by decide +kernel
theorem dX1_restart_33 : decode cX1_restart 33 = .ok (.goto (-31), 3) := by decide +kernel
theorem dX1_restart_36 : decode cX1_restart 36 = .ok (.iconst 0, 1) := by decide +kernel
theorem dX1_restart_37 : decode cX1_restart 37 = .ok (.istore_n 2, 1) := by decide +kernel
theorem dX1_restart_38 : decode cX1_restart 38 = .ok (.iload_n 2, 1) := by decide +kernel
theorem dX1_restart_39 : decode cX1_restart 39 = .ok (.aload_n 1, 1) := by decide +kernel
theorem dX1_restart_40 : decode cX1_restart 40 = .ok (.getfield 36, 3) := by decide +kernel
theorem dX1_restart_43 : decode cX1_restart 43 = .ok (.if_icmp .ge 21, 3) := by decide +kernel
theorem dX1_restart_46 : decode cX1_restart 46 = .ok (.aload_n 0, 1) := by decide +kernel
theorem dX1_restart_47 : decode cX1_restart 47 = .ok (.aload_n 1, 1) := by decide +kernel
theorem dX1_restart_48 : decode cX1_restart 48 = .ok (.iload_n 2, 1) := by decide +kernel
theorem dX1_restart_49 : decode cX1_restart 49 = .ok (.aload_n 1, 1) := by decide +kernel
theorem dX1_restart_50 : decode cX1_restart 50 = .ok (.getfield 40, 3) := by decide +kernel
theorem dX1_restart_53 : decode cX1_restart 53 = .ok (.iload_n 2, 1) := by decide +kernel
theorem dX1_restart_54 : decode cX1_restart 54 = .ok (.iaload, 1) := by decide +kernel
theorem dX1_restart_55 : decode cX1_restart 55 = .ok (.invokevirtual 43, 3) := by decide +kernel
theorem dX1_restart_58 : decode cX1_restart 58 = .ok (.iinc 2 1, 3) := by decide +kernel
theorem dX1_restart_61 : decode cX1_restart 61 = .ok (.goto (-23), 3) := by decide +kernel
theorem dX1_restart_64 : decode cX1_restart 64 = .ok (.return_, 1) := by decide +kernel
theorem dX1_valueOf_0 : decode cX1_valueOf 0 = .ok (.aload_n 0, 1) := by decide +kernel
theorem dX1_valueOf_1 : decode cX1_valueOf 1 = .ok (.getfield 9, 3) := by decide +kernel
theorem dX1_valueOf_4 : decode cX1_valueOf 4 = .ok (.aload_n 1, 1) := by decide +kernel
theorem dX1_valueOf_5 : decode cX1_valueOf 5 = .ok (.getfield 47, 3) := by decide +kernel
theorem dX1_valueOf_8 : decode cX1_valueOf 8 = .ok (.iload_n 2, 1) := by decide +kernel
theorem dX1_valueOf_9 : decode cX1_valueOf 9 = .ok (.iaload, 1) := by decide +kernel
theorem dX1_valueOf_10 : decode cX1_valueOf 10 = .ok (.iaload, 1) := by decide +kernel
theorem dX1_valueOf_11 : decode cX1_valueOf 11 = .ok (.aload_n 1, 1) := by decide +kernel
theorem dX1_valueOf_12 : decode cX1_valueOf 12 = .ok (.getfield 50, 3) := by decide +kernel
theorem dX1_valueOf_15 : decode cX1_valueOf 15 = .ok (.iload_n 2, 1) := by decide +kernel
theorem dX1_valueOf_16 : decode cX1_valueOf 16 = .ok (.iaload, 1) := by decide +kernel
theorem dX1_valueOf_17 : decode cX1_valueOf 17 = .ok (.iand, 1) := by decide +kernel
theorem dX1_valueOf_18 : decode cX1_valueOf 18 = .ok (.aload_n 1, 1) := by decide +kernel
theorem dX1_valueOf_19 : decode cX1_valueOf 19 = .ok (.getfield 53, 3) := by decide +kernel
theorem dX1_valueOf_22 : decode cX1_valueOf 22 = .ok (.iload_n 2, 1) := by decide +kernel
theorem dX1_valueOf_23 : decode cX1_valueOf 23 = .ok (.iaload, 1) := by decide +kernel
theorem dX1_valueOf_24 : decode cX1_valueOf 24 = .ok (.ishr, 1) := by decide +kernel
theorem dX1_valueOf_25 : decode cX1_valueOf 25 = .ok (.ireturn, 1) := by decide +kernel
theorem dX1_putValue_0 : decode cX1_putValue 0 = .ok (.aload_n 0, 1) := by decide +kernel
theorem dX1_putValue_1 : decode cX1_putValue 1 = .ok (.aload_n 1, 1) := by decide +kernel
theorem dX1_putValue_2 : decode cX1_putValue 2 = .ok (.iload_n 2, 1) := by decide +kernel
theorem dX1_putValue_3 : decode cX1_putValue 3 = .ok (.iload_n 3, 1) := by decide +kernel
theorem dX1_putValue_4 : decode cX1_putValue 4 = .ok (.aload_n 1, 1) := by decide +kernel
theorem dX1_putValue_5 : decode cX1_putValue 5 = .ok (.getfield 53, 3) := by decide +kernel
theorem dX1_putValue_8 : decode cX1_putValue 8 = .ok (.iload_n 2, 1) := by decide +kernel
theorem dX1_putValue_9 : decode cX1_putValue 9 = .ok (.iaload, 1) := by decide +kernel
theorem dX1_putValue_10 : decode cX1_putValue 10 = .ok (.ishl, 1) := by decide +kernel
theorem dX1_putValue_11 : decode cX1_putValue 11 = .ok (.invokevirtual 56, 3) := by decide +kernel
theorem dX1_putValue_14 : decode cX1_putValue 14 = .ok (.return_, 1) := by decide +kernel
theorem dX1_putBits_0 : decode cX1_putBits 0 = .ok (.aload_n 1, 1) := by decide +kernel
theorem dX1_putBits_1 : decode cX1_putBits 1 = .ok (.getfield 47, 3) := by decide +kernel
theorem dX1_putBits_4 : decode cX1_putBits 4 = .ok (.iload_n 2, 1) := by decide +kernel
theorem dX1_putBits_5 : decode cX1_putBits 5 = .ok (.iaload, 1) := by decide +kernel
theorem dX1_putBits_6 : decode cX1_putBits 6 = .ok (.istore 4, 2) := by decide +kernel
theorem dX1_putBits_8 : decode cX1_putBits 8 = .ok (.aload_n 0, 1) := by decide +kernel
theorem dX1_putBits_9 : decode cX1_putBits 9 = .ok (.getfield 9, 3) := by decide +kernel
theorem dX1_putBits_12 : decode cX1_putBits 12 = .ok (.iload 4, 2) := by decide +kernel
theorem dX1_putBits_14 : decode cX1_putBits 14 = .ok (.aload_n 0, 1) := by decide +kernel
theorem dX1_putBits_15 : decode cX1_putBits 15 = .ok (.getfield 9, 3) := by decide +kernel
theorem dX1_putBits_18 : decode cX1_putBits 18 = .ok (.iload 4, 2) := by decide +kernel
theorem dX1_putBits_20 : decode cX1_putBits 20 = .ok (.iaload, 1) := by decide +kernel
theorem dX1_putBits_21 : decode cX1_putBits 21 = .ok (.aload_n 1, 1) := by decide +kernel
theorem dX1_putBits_22 : decode cX1_putBits 22 = .ok (.getfield 50, 3) := by decide +kernel
theorem dX1_putBits_25 : decode cX1_putBits 25 = .ok (.iload_n 2, 1) := by decide +kernel
theorem dX1_putBits_26 : decode cX1_putBits 26 = .ok (.iaload, 1) := by decide +kernel
theorem dX1_putBits_27 : decode cX1_putBits 27 = .ok (.iconst (-1), 1) := by decide +kernel
theorem dX1_putBits_28 : decode cX1_putBits 28 = .ok (.ixor, 1) := by decide +kernel
theorem dX1_putBits_29 : decode cX1_putBits 29 = .ok (.iand, 1) := by decide +kernel
theorem dX1_putBits_30 : decode cX1_putBits 30 = .ok (.iload_n 3, 1) := by decide +kernel
theorem dX1_putBits_31 : decode cX1_putBits 31 = .ok (.aload_n 1, 1) := by decide +kernel
theorem dX1_putBits_32 : decode cX1_putBits 32 = .ok (.getfield 50, 3) := by decide +kernel
theorem dX1_putBits_35 : decode cX1_putBits 35 = .ok (.iload_n 2, 1) := by decide +kernel
theorem dX1_putBits_36 : decode cX1_putBits 36 = .ok (.iaload, 1) := by decide +kernel
theorem dX1_putBits_37 : decode cX1_putBits 37 = .ok (.iand, 1) := by decide +kernel
theorem dX1_putBits_38 : decode cX1_putBits 38 = .ok (.ior, 1) := by decide +kernel
theorem dX1_putBits_39 : decode cX1_putBits 39 = .ok (.iastore, 1) := by decide +kernel
theorem dX1_putBits_40 : decode cX1_putBits 40 = .ok (.return_, 1) := by decide +kernel
theorem dX1_isLocked_0 : decode cX1_isLocked 0 = .ok (.aload_n 1, 1) := by decide +kernel
theorem dX1_isLocked_1 : decode cX1_isLocked 1 = .ok (.getfield 59, 3) := by decide +kernel
theorem dX1_isLocked_4 : decode cX1_isLocked 4 = .ok (.iload_n 2, 1) := by decide +kernel
theorem dX1_isLocked_5 : decode cX1_isLocked 5 = .ok (.iaload, 1) := by decide +kernel
theorem dX1_isLocked_6 : decode cX1_isLocked 6 = .ok (.istore_n 3, 1) := by decide +kernel
theorem dX1_isLocked_7 : decode cX1_isLocked 7 = .ok (.iload_n 3, 1) := by decide +kernel
theorem dX1_isLocked_8 : decode cX1_isLocked 8 = .ok (.aload_n 1, 1) := by decide +kernel
theorem dX1_isLocked_9 : decode cX1_isLocked 9 = .ok (.getfield 36, 3) := by decide +kernel
theorem dX1_isLocked_12 : decode cX1_isLocked 12 = .ok (.invokestatic 62, 3) := by decide +kernel
theorem dX1_isLocked_15 : decode cX1_isLocked 15 = .ok (.ifCond .eq 16, 3) := by decide +kernel
theorem dX1_isLocked_18 : decode cX1_isLocked 18 = .ok (.aload_n 0, 1) := by decide +kernel
theorem dX1_isLocked_19 : decode cX1_isLocked 19 = .ok (.aload_n 1, 1) := by decide +kernel
theorem dX1_isLocked_20 : decode cX1_isLocked 20 = .ok (.iload_n 3, 1) := by decide +kernel
theorem dX1_isLocked_21 : decode cX1_isLocked 21 = .ok (.invokevirtual 66, 3) := by decide +kernel
theorem dX1_isLocked_24 : decode cX1_isLocked 24 = .ok (.ifCond .eq 7, 3) := by decide +kernel
theorem dX1_isLocked_27 : decode cX1_isLocked 27 = .ok (.iconst 1, 1) := by decide +kernel
theorem dX1_isLocked_28 : decode cX1_isLocked 28 = .ok (.goto 4, 3) := by decide +kernel
theorem dX1_isLocked_31 : decode cX1_isLocked 31 = .ok (.iconst 0, 1) := by decide +kernel
theorem dX1_isLocked_32 : decode cX1_isLocked 32 = .ok (.ireturn, 1) := by decide +kernel
theorem dX1_shown_0 : decode cX1_shown 0 = .ok (.aload_n 0, 1) := by decide +kernel
theorem dX1_shown_1 : decode cX1_shown 1 = .ok (.getfield 9, 3) := by decide +kernel
theorem dX1_shown_4 : decode cX1_shown 4 = .ok (.iload_n 2, 1) := by decide +kernel
theorem dX1_shown_5 : decode cX1_shown 5 = .ok (.iaload, 1) := by decide +kernel
theorem dX1_shown_6 : decode cX1_shown 6 = .ok (.istore_n 3, 1) := by decide +kernel
theorem dX1_shown_7 : decode cX1_shown 7 = .ok (.iconst 0, 1) := by decide +kernel
theorem dX1_shown_8 : decode cX1_shown 8 = .ok (.istore 4, 2) := by decide +kernel
theorem dX1_shown_10 : decode cX1_shown 10 = .ok (.iload 4, 2) := by decide +kernel
theorem dX1_shown_12 : decode cX1_shown 12 = .ok (.aload_n 1, 1) := by decide +kernel
theorem dX1_shown_13 : decode cX1_shown 13 = .ok (.getfield 36, 3) := by decide +kernel
theorem dX1_shown_16 : decode cX1_shown 16 = .ok (.if_icmp .ge 43, 3) := by decide +kernel
theorem dX1_shown_19 : decode cX1_shown 19 = .ok (.aload_n 1, 1) := by decide +kernel
theorem dX1_shown_20 : decode cX1_shown 20 = .ok (.getfield 47, 3) := by decide +kernel
theorem dX1_shown_23 : decode cX1_shown 23 = .ok (.iload 4, 2) := by decide +kernel
theorem dX1_shown_25 : decode cX1_shown 25 = .ok (.iaload, 1) := by decide +kernel
theorem dX1_shown_26 : decode cX1_shown 26 = .ok (.iload_n 2, 1) := by decide +kernel
theorem dX1_shown_27 : decode cX1_shown 27 = .ok (.if_icmp .ne 26, 3) := by decide +kernel
theorem dX1_shown_30 : decode cX1_shown 30 = .ok (.aload_n 0, 1) := by decide +kernel
theorem dX1_shown_31 : decode cX1_shown 31 = .ok (.getfield 22, 3) := by decide +kernel
theorem dX1_shown_34 : decode cX1_shown 34 = .ok (.iload 4, 2) := by decide +kernel
theorem dX1_shown_36 : decode cX1_shown 36 = .ok (.iaload, 1) := by decide +kernel
theorem dX1_shown_37 : decode cX1_shown 37 = .ok (.iconst 2, 1) := by decide +kernel
theorem dX1_shown_38 : decode cX1_shown 38 = .ok (.if_icmp .ne 15, 3) := by decide +kernel
theorem dX1_shown_41 : decode cX1_shown 41 = .ok (.iload_n 3, 1) := by decide +kernel
theorem dX1_shown_42 : decode cX1_shown 42 = .ok (.aload_n 1, 1) := by decide +kernel
theorem dX1_shown_43 : decode cX1_shown 43 = .ok (.getfield 50, 3) := by decide +kernel
theorem dX1_shown_46 : decode cX1_shown 46 = .ok (.iload 4, 2) := by decide +kernel
theorem dX1_shown_48 : decode cX1_shown 48 = .ok (.iaload, 1) := by decide +kernel
theorem dX1_shown_49 : decode cX1_shown 49 = .ok (.iconst (-1), 1) := by decide +kernel
theorem dX1_shown_50 : decode cX1_shown 50 = .ok (.ixor, 1) := by decide +kernel
theorem dX1_shown_51 : decode cX1_shown 51 = .ok (.iand, 1) := by decide +kernel
theorem dX1_shown_52 : decode cX1_shown 52 = .ok (.istore_n 3, 1) := by decide +kernel
theorem dX1_shown_53 : decode cX1_shown 53 = .ok (.iinc 4 1, 3) := by decide +kernel
theorem dX1_shown_56 : decode cX1_shown 56 = .ok (.goto (-46), 3) := by decide +kernel
theorem dX1_shown_59 : decode cX1_shown 59 = .ok (.iload_n 3, 1) := by decide +kernel
theorem dX1_shown_60 : decode cX1_shown 60 = .ok (.ireturn, 1) := by decide +kernel
theorem dX1_look_0 : decode cX1_look 0 = .ok (.aload_n 1, 1) := by decide +kernel
theorem dX1_look_1 : decode cX1_look 1 = .ok (.iload_n 2, 1) := by decide +kernel
theorem dX1_look_2 : decode cX1_look 2 = .ok (.invokevirtual 70, 3) := by decide +kernel
theorem dX1_look_5 : decode cX1_look 5 = .ok (.istore_n 3, 1) := by decide +kernel
theorem dX1_look_6 : decode cX1_look 6 = .ok (.iload_n 3, 1) := by decide +kernel
theorem dX1_look_7 : decode cX1_look 7 = .ok (.bipush (-9), 2) := by decide +kernel
theorem dX1_look_9 : decode cX1_look 9 = .ok (.if_icmp .ne 7, 3) := by decide +kernel
theorem dX1_look_12 : decode cX1_look 12 = .ok (.iconst 0, 1) := by decide +kernel
theorem dX1_look_13 : decode cX1_look 13 = .ok (.goto 9, 3) := by decide +kernel
theorem dX1_look_16 : decode cX1_look 16 = .ok (.aload_n 0, 1) := by decide +kernel
theorem dX1_look_17 : decode cX1_look 17 = .ok (.aload_n 1, 1) := by decide +kernel
theorem dX1_look_18 : decode cX1_look 18 = .ok (.iload_n 3, 1) := by decide +kernel
theorem dX1_look_19 : decode cX1_look 19 = .ok (.invokevirtual 74, 3) := by decide +kernel
theorem dX1_look_22 : decode cX1_look 22 = .ok (.ireturn, 1) := by decide +kernel
theorem dX1_read_0 : decode cX1_read 0 = .ok (.aload_n 0, 1) := by decide +kernel
theorem dX1_read_1 : decode cX1_read 1 = .ok (.aload_n 1, 1) := by decide +kernel
theorem dX1_read_2 : decode cX1_read 2 = .ok (.iload_n 2, 1) := by decide +kernel
theorem dX1_read_3 : decode cX1_read 3 = .ok (.invokevirtual 77, 3) := by decide +kernel
theorem dX1_read_6 : decode cX1_read 6 = .ok (.istore_n 3, 1) := by decide +kernel
theorem dX1_read_7 : decode cX1_read 7 = .ok (.aload_n 1, 1) := by decide +kernel
theorem dX1_read_8 : decode cX1_read 8 = .ok (.iload_n 2, 1) := by decide +kernel
theorem dX1_read_9 : decode cX1_read 9 = .ok (.invokevirtual 80, 3) := by decide +kernel
theorem dX1_read_12 : decode cX1_read 12 = .ok (.istore 4, 2) := by decide +kernel
theorem dX1_read_14 : decode cX1_read 14 = .ok (.iconst 0, 1) := by decide +kernel
theorem dX1_read_15 : decode cX1_read 15 = .ok (.istore 5, 2) := by decide +kernel
theorem dX1_read_17 : decode cX1_read 17 = .ok (.iload 5, 2) := by decide +kernel
theorem dX1_read_19 : decode cX1_read 19 = .ok (.aload_n 1, 1) := by decide +kernel
theorem dX1_read_20 : decode cX1_read 20 = .ok (.getfield 36, 3) := by decide +kernel
theorem dX1_read_23 : decode cX1_read 23 = .ok (.if_icmp .ge 41, 3) := by decide +kernel
theorem dX1_read_26 : decode cX1_read 26 = .ok (.aload_n 1, 1) := by decide +kernel
theorem dX1_read_27 : decode cX1_read 27 = .ok (.getfield 47, 3) := by decide +kernel
theorem dX1_read_30 : decode cX1_read 30 = .ok (.iload 5, 2) := by decide +kernel
theorem dX1_read_32 : decode cX1_read 32 = .ok (.iaload, 1) := by decide +kernel
theorem dX1_read_33 : decode cX1_read 33 = .ok (.iload 4, 2) := by decide +kernel
theorem dX1_read_35 : decode cX1_read 35 = .ok (.if_icmp .ne 23, 3) := by decide +kernel
theorem dX1_read_38 : decode cX1_read 38 = .ok (.aload_n 0, 1) := by decide +kernel
theorem dX1_read_39 : decode cX1_read 39 = .ok (.getfield 22, 3) := by decide +kernel
theorem dX1_read_42 : decode cX1_read 42 = .ok (.iload 5, 2) := by decide +kernel
theorem dX1_read_44 : decode cX1_read 44 = .ok (.iaload, 1) := by decide +kernel
theorem dX1_read_45 : decode cX1_read 45 = .ok (.bipush 6, 2) := by decide +kernel
theorem dX1_read_47 : decode cX1_read 47 = .ok (.if_icmp .ne 11, 3) := by decide +kernel
theorem dX1_read_50 : decode cX1_read 50 = .ok (.aload_n 0, 1) := by decide +kernel
theorem dX1_read_51 : decode cX1_read 51 = .ok (.aload_n 1, 1) := by decide +kernel
theorem dX1_read_52 : decode cX1_read 52 = .ok (.iload 5, 2) := by decide +kernel
theorem dX1_read_54 : decode cX1_read 54 = .ok (.iconst 0, 1) := by decide +kernel
theorem dX1_read_55 : decode cX1_read 55 = .ok (.invokevirtual 56, 3) := by decide +kernel
theorem dX1_read_58 : decode cX1_read 58 = .ok (.iinc 5 1, 3) := by decide +kernel
theorem dX1_read_61 : decode cX1_read 61 = .ok (.goto (-44), 3) := by decide +kernel
theorem dX1_read_64 : decode cX1_read 64 = .ok (.iload_n 3, 1) := by decide +kernel
theorem dX1_read_65 : decode cX1_read 65 = .ok (.ireturn, 1) := by decide +kernel
theorem dX1_learn_0 : decode cX1_learn 0 = .ok (.aload_n 1, 1) := by decide +kernel
theorem dX1_learn_1 : decode cX1_learn 1 = .ok (.iload_n 2, 1) := by decide +kernel
theorem dX1_learn_2 : decode cX1_learn 2 = .ok (.invokevirtual 70, 3) := by decide +kernel
theorem dX1_learn_5 : decode cX1_learn 5 = .ok (.istore 4, 2) := by decide +kernel
theorem dX1_learn_7 : decode cX1_learn 7 = .ok (.iconst 0, 1) := by decide +kernel
theorem dX1_learn_8 : decode cX1_learn 8 = .ok (.istore 5, 2) := by decide +kernel
theorem dX1_learn_10 : decode cX1_learn 10 = .ok (.iload 5, 2) := by decide +kernel
theorem dX1_learn_12 : decode cX1_learn 12 = .ok (.aload_n 1, 1) := by decide +kernel
theorem dX1_learn_13 : decode cX1_learn 13 = .ok (.getfield 36, 3) := by decide +kernel
theorem dX1_learn_16 : decode cX1_learn 16 = .ok (.if_icmp .ge 40, 3) := by decide +kernel
theorem dX1_learn_19 : decode cX1_learn 19 = .ok (.aload_n 1, 1) := by decide +kernel
theorem dX1_learn_20 : decode cX1_learn 20 = .ok (.getfield 47, 3) := by decide +kernel
theorem dX1_learn_23 : decode cX1_learn 23 = .ok (.iload 5, 2) := by decide +kernel
theorem dX1_learn_25 : decode cX1_learn 25 = .ok (.iaload, 1) := by decide +kernel
theorem dX1_learn_26 : decode cX1_learn 26 = .ok (.iload 4, 2) := by decide +kernel
theorem dX1_learn_28 : decode cX1_learn 28 = .ok (.if_icmp .ne 22, 3) := by decide +kernel
theorem dX1_learn_31 : decode cX1_learn 31 = .ok (.aload_n 0, 1) := by decide +kernel
theorem dX1_learn_32 : decode cX1_learn 32 = .ok (.getfield 22, 3) := by decide +kernel
theorem dX1_learn_35 : decode cX1_learn 35 = .ok (.iload 5, 2) := by decide +kernel
theorem dX1_learn_37 : decode cX1_learn 37 = .ok (.iaload, 1) := by decide +kernel
theorem dX1_learn_38 : decode cX1_learn 38 = .ok (.iconst 2, 1) := by decide +kernel
theorem dX1_learn_39 : decode cX1_learn 39 = .ok (.if_icmp .eq 11, 3) := by decide +kernel
theorem dX1_learn_42 : decode cX1_learn 42 = .ok (.aload_n 0, 1) := by decide +kernel
theorem dX1_learn_43 : decode cX1_learn 43 = .ok (.aload_n 1, 1) := by decide +kernel
theorem dX1_learn_44 : decode cX1_learn 44 = .ok (.iload 5, 2) := by decide +kernel
theorem dX1_learn_46 : decode cX1_learn 46 = .ok (.iload_n 3, 1) := by decide +kernel
theorem dX1_learn_47 : decode cX1_learn 47 = .ok (.invokevirtual 56, 3) := by decide +kernel
theorem dX1_learn_50 : decode cX1_learn 50 = .ok (.iinc 5 1, 3) := by decide +kernel
theorem dX1_learn_53 : decode cX1_learn 53 = .ok (.goto (-43), 3) := by decide +kernel
theorem dX1_learn_56 : decode cX1_learn 56 = .ok (.return_, 1) := by decide +kernel
theorem dX1_letIn_0 : decode cX1_letIn 0 = .ok (.iconst 0, 1) := by decide +kernel
theorem dX1_letIn_1 : decode cX1_letIn 1 = .ok (.istore 4, 2) := by decide +kernel
theorem dX1_letIn_3 : decode cX1_letIn 3 = .ok (.iload 4, 2) := by decide +kernel
theorem dX1_letIn_5 : decode cX1_letIn 5 = .ok (.aload_n 1, 1) := by decide +kernel
theorem dX1_letIn_6 : decode cX1_letIn 6 = .ok (.getfield 36, 3) := by decide +kernel
theorem dX1_letIn_9 : decode cX1_letIn 9 = .ok (.if_icmp .ge 40, 3) := by decide +kernel
theorem dX1_letIn_12 : decode cX1_letIn 12 = .ok (.aload_n 1, 1) := by decide +kernel
theorem dX1_letIn_13 : decode cX1_letIn 13 = .ok (.getfield 47, 3) := by decide +kernel
theorem dX1_letIn_16 : decode cX1_letIn 16 = .ok (.iload 4, 2) := by decide +kernel
theorem dX1_letIn_18 : decode cX1_letIn 18 = .ok (.iaload, 1) := by decide +kernel
theorem dX1_letIn_19 : decode cX1_letIn 19 = .ok (.iload_n 2, 1) := by decide +kernel
theorem dX1_letIn_20 : decode cX1_letIn 20 = .ok (.if_icmp .ne 23, 3) := by decide +kernel
theorem dX1_letIn_23 : decode cX1_letIn 23 = .ok (.aload_n 0, 1) := by decide +kernel
theorem dX1_letIn_24 : decode cX1_letIn 24 = .ok (.aload_n 1, 1) := by decide +kernel
theorem dX1_letIn_25 : decode cX1_letIn 25 = .ok (.iload 4, 2) := by decide +kernel
theorem dX1_letIn_27 : decode cX1_letIn 27 = .ok (.aload_n 0, 1) := by decide +kernel
theorem dX1_letIn_28 : decode cX1_letIn 28 = .ok (.iload_n 2, 1) := by decide +kernel
theorem dX1_letIn_29 : decode cX1_letIn 29 = .ok (.iload_n 3, 1) := by decide +kernel
theorem dX1_letIn_30 : decode cX1_letIn 30 = .ok (.aload_n 0, 1) := by decide +kernel
theorem dX1_letIn_31 : decode cX1_letIn 31 = .ok (.getfield 22, 3) := by decide +kernel
theorem dX1_letIn_34 : decode cX1_letIn 34 = .ok (.iload 4, 2) := by decide +kernel
theorem dX1_letIn_36 : decode cX1_letIn 36 = .ok (.iaload, 1) := by decide +kernel
theorem dX1_letIn_37 : decode cX1_letIn 37 = .ok (.invokevirtual 106, 3) := by decide +kernel
theorem dX1_letIn_40 : decode cX1_letIn 40 = .ok (.invokevirtual 56, 3) := by decide +kernel
theorem dX1_letIn_43 : decode cX1_letIn 43 = .ok (.iinc 4 1, 3) := by decide +kernel
theorem dX1_letIn_46 : decode cX1_letIn 46 = .ok (.goto (-43), 3) := by decide +kernel
theorem dX1_letIn_49 : decode cX1_letIn 49 = .ok (.aload_n 0, 1) := by decide +kernel
theorem dX1_letIn_50 : decode cX1_letIn 50 = .ok (.getfield 18, 3) := by decide +kernel
theorem dX1_letIn_53 : decode cX1_letIn 53 = .ok (.iload_n 2, 1) := by decide +kernel
theorem dX1_letIn_54 : decode cX1_letIn 54 = .ok (.iconst 1, 1) := by decide +kernel
theorem dX1_letIn_55 : decode cX1_letIn 55 = .ok (.bastore, 1) := by decide +kernel
theorem dX1_letIn_56 : decode cX1_letIn 56 = .ok (.return_, 1) := by decide +kernel
theorem dX1_letInByAlias_0 : decode cX1_letInByAlias 0 = .ok (.iconst 0, 1) := by decide +kernel
theorem dX1_letInByAlias_1 : decode cX1_letInByAlias 1 = .ok (.istore 5, 2) := by decide +kernel
theorem dX1_letInByAlias_3 : decode cX1_letInByAlias 3 = .ok (.iload 5, 2) := by decide +kernel
theorem dX1_letInByAlias_5 : decode cX1_letInByAlias 5 = .ok (.aload_n 1, 1) := by decide +kernel
theorem dX1_letInByAlias_6 : decode cX1_letInByAlias 6 = .ok (.getfield 36, 3) := by decide +kernel
theorem dX1_letInByAlias_9 : decode cX1_letInByAlias 9 = .ok (.if_icmp .ge 58, 3) := by decide +kernel
theorem dX1_letInByAlias_12 : decode cX1_letInByAlias 12 = .ok (.aload_n 1, 1) := by decide +kernel
theorem dX1_letInByAlias_13 : decode cX1_letInByAlias 13 = .ok (.getfield 47, 3) := by decide +kernel
theorem dX1_letInByAlias_16 : decode cX1_letInByAlias 16 = .ok (.iload 5, 2) := by decide +kernel
theorem dX1_letInByAlias_18 : decode cX1_letInByAlias 18 = .ok (.iaload, 1) := by decide +kernel
theorem dX1_letInByAlias_19 : decode cX1_letInByAlias 19 = .ok (.iload_n 2, 1) := by decide +kernel
theorem dX1_letInByAlias_20 : decode cX1_letInByAlias 20 = .ok (.if_icmp .ne 41, 3) := by decide +kernel
theorem dX1_letInByAlias_23 : decode cX1_letInByAlias 23 = .ok (.aload_n 0, 1) := by decide +kernel
theorem dX1_letInByAlias_24 : decode cX1_letInByAlias 24 = .ok (.getfield 22, 3) := by decide +kernel
theorem dX1_letInByAlias_27 : decode cX1_letInByAlias 27 = .ok (.iload 5, 2) := by decide +kernel
theorem dX1_letInByAlias_29 : decode cX1_letInByAlias 29 = .ok (.iaload, 1) := by decide +kernel
theorem dX1_letInByAlias_30 : decode cX1_letInByAlias 30 = .ok (.iconst 1, 1) := by decide +kernel
theorem dX1_letInByAlias_31 : decode cX1_letInByAlias 31 = .ok (.if_icmp .eq 30, 3) := by decide +kernel
theorem dX1_letInByAlias_34 : decode cX1_letInByAlias 34 = .ok (.aload_n 0, 1) := by decide +kernel
theorem dX1_letInByAlias_35 : decode cX1_letInByAlias 35 = .ok (.getfield 22, 3) := by decide +kernel
theorem dX1_letInByAlias_38 : decode cX1_letInByAlias 38 = .ok (.iload 5, 2) := by decide +kernel
theorem dX1_letInByAlias_40 : decode cX1_letInByAlias 40 = .ok (.iaload, 1) := by decide +kernel
theorem dX1_letInByAlias_41 : decode cX1_letInByAlias 41 = .ok (.bipush 6, 2) := by decide +kernel
theorem dX1_letInByAlias_43 : decode cX1_letInByAlias 43 = .ok (.if_icmp .eq 18, 3) := by decide +kernel
theorem dX1_letInByAlias_46 : decode cX1_letInByAlias 46 = .ok (.aload_n 0, 1) := by decide +kernel
theorem dX1_letInByAlias_47 : decode cX1_letInByAlias 47 = .ok (.aload_n 1, 1) := by decide +kernel
theorem dX1_letInByAlias_48 : decode cX1_letInByAlias 48 = .ok (.iload 5, 2) := by decide +kernel
theorem dX1_letInByAlias_50 : decode cX1_letInByAlias 50 = .ok (.aload_n 0, 1) := by decide +kernel
theorem dX1_letInByAlias_51 : decode cX1_letInByAlias 51 = .ok (.iload_n 2, 1) := by decide +kernel
theorem dX1_letInByAlias_52 : decode cX1_letInByAlias 52 = .ok (.iload_n 3, 1) := by decide +kernel
theorem dX1_letInByAlias_53 : decode cX1_letInByAlias 53 = .ok (.iload 4, 2) := by decide +kernel
theorem dX1_letInByAlias_55 : decode cX1_letInByAlias 55 = .ok (.invokevirtual 106, 3) := by decide +kernel
theorem dX1_letInByAlias_58 : decode cX1_letInByAlias 58 = .ok (.invokevirtual 56, 3) := by decide +kernel
theorem dX1_letInByAlias_61 : decode cX1_letInByAlias 61 = .ok (.iinc 5 1, 3) := by decide +kernel
theorem dX1_letInByAlias_64 : decode cX1_letInByAlias 64 = .ok (.goto (-61), 3) := by decide +kernel
theorem dX1_letInByAlias_67 : decode cX1_letInByAlias 67 = .ok (.return_, 1) := by decide +kernel
theorem dX1_bitsAfter_0 : decode cX1_bitsAfter 0 = .ok (.iload_n 3, 1) := by decide +kernel
theorem dX1_bitsAfter_1 : decode cX1_bitsAfter 1 = .ok (.tableswitch 98 0 7 #[47, 98, 47, 49, 60, 69, 98, 78], 47) := by decide +kernel
theorem dX1_bitsAfter_48 : decode cX1_bitsAfter 48 = .ok (.iload_n 2, 1) := by decide +kernel
theorem dX1_bitsAfter_49 : decode cX1_bitsAfter 49 = .ok (.ireturn, 1) := by decide +kernel
theorem dX1_bitsAfter_50 : decode cX1_bitsAfter 50 = .ok (.aload_n 0, 1) := by decide +kernel
theorem dX1_bitsAfter_51 : decode cX1_bitsAfter 51 = .ok (.getfield 9, 3) := by decide +kernel
theorem dX1_bitsAfter_54 : decode cX1_bitsAfter 54 = .ok (.iload_n 1, 1) := by decide +kernel
theorem dX1_bitsAfter_55 : decode cX1_bitsAfter 55 = .ok (.iaload, 1) := by decide +kernel
theorem dX1_bitsAfter_56 : decode cX1_bitsAfter 56 = .ok (.iload_n 2, 1) := by decide +kernel
theorem dX1_bitsAfter_57 : decode cX1_bitsAfter 57 = .ok (.iconst (-1), 1) := by decide +kernel
theorem dX1_bitsAfter_58 : decode cX1_bitsAfter 58 = .ok (.ixor, 1) := by decide +kernel
theorem dX1_bitsAfter_59 : decode cX1_bitsAfter 59 = .ok (.iand, 1) := by decide +kernel
theorem dX1_bitsAfter_60 : decode cX1_bitsAfter 60 = .ok (.ireturn, 1) := by decide +kernel
theorem dX1_bitsAfter_61 : decode cX1_bitsAfter 61 = .ok (.aload_n 0, 1) := by decide +kernel
theorem dX1_bitsAfter_62 : decode cX1_bitsAfter 62 = .ok (.getfield 9, 3) := by decide +kernel
theorem dX1_bitsAfter_65 : decode cX1_bitsAfter 65 = .ok (.iload_n 1, 1) := by decide +kernel
theorem dX1_bitsAfter_66 : decode cX1_bitsAfter 66 = .ok (.iaload, 1) := by decide +kernel
theorem dX1_bitsAfter_67 : decode cX1_bitsAfter 67 = .ok (.iload_n 2, 1) := by decide +kernel
theorem dX1_bitsAfter_68 : decode cX1_bitsAfter 68 = .ok (.ior, 1) := by decide +kernel
theorem dX1_bitsAfter_69 : decode cX1_bitsAfter 69 = .ok (.ireturn, 1) := by decide +kernel
theorem dX1_bitsAfter_70 : decode cX1_bitsAfter 70 = .ok (.aload_n 0, 1) := by decide +kernel
theorem dX1_bitsAfter_71 : decode cX1_bitsAfter 71 = .ok (.getfield 9, 3) := by decide +kernel
theorem dX1_bitsAfter_74 : decode cX1_bitsAfter 74 = .ok (.iload_n 1, 1) := by decide +kernel
theorem dX1_bitsAfter_75 : decode cX1_bitsAfter 75 = .ok (.iaload, 1) := by decide +kernel
theorem dX1_bitsAfter_76 : decode cX1_bitsAfter 76 = .ok (.iload_n 2, 1) := by decide +kernel
theorem dX1_bitsAfter_77 : decode cX1_bitsAfter 77 = .ok (.ixor, 1) := by decide +kernel
theorem dX1_bitsAfter_78 : decode cX1_bitsAfter 78 = .ok (.ireturn, 1) := by decide +kernel
theorem dX1_bitsAfter_79 : decode cX1_bitsAfter 79 = .ok (.aload_n 0, 1) := by decide +kernel
theorem dX1_bitsAfter_80 : decode cX1_bitsAfter 80 = .ok (.getfield 18, 3) := by decide +kernel
theorem dX1_bitsAfter_83 : decode cX1_bitsAfter 83 = .ok (.iload_n 1, 1) := by decide +kernel
theorem dX1_bitsAfter_84 : decode cX1_bitsAfter 84 = .ok (.baload, 1) := by decide +kernel
theorem dX1_bitsAfter_85 : decode cX1_bitsAfter 85 = .ok (.ifCond .eq 12, 3) := by decide +kernel
theorem dX1_bitsAfter_88 : decode cX1_bitsAfter 88 = .ok (.aload_n 0, 1) := by decide +kernel
theorem dX1_bitsAfter_89 : decode cX1_bitsAfter 89 = .ok (.getfield 9, 3) := by decide +kernel
theorem dX1_bitsAfter_92 : decode cX1_bitsAfter 92 = .ok (.iload_n 1, 1) := by decide +kernel
theorem dX1_bitsAfter_93 : decode cX1_bitsAfter 93 = .ok (.iaload, 1) := by decide +kernel
theorem dX1_bitsAfter_94 : decode cX1_bitsAfter 94 = .ok (.goto 4, 3) := by decide +kernel
theorem dX1_bitsAfter_97 : decode cX1_bitsAfter 97 = .ok (.iload_n 2, 1) := by decide +kernel
theorem dX1_bitsAfter_98 : decode cX1_bitsAfter 98 = .ok (.ireturn, 1) := by decide +kernel
theorem dX1_bitsAfter_99 : decode cX1_bitsAfter 99 = .ok (.aload_n 0, 1) := by decide +kernel
theorem dX1_bitsAfter_100 : decode cX1_bitsAfter 100 = .ok (.getfield 9, 3) := by decide +kernel
theorem dX1_bitsAfter_103 : decode cX1_bitsAfter 103 = .ok (.iload_n 1, 1) := by decide +kernel
theorem dX1_bitsAfter_104 : decode cX1_bitsAfter 104 = .ok (.iaload, 1) := by decide +kernel
theorem dX1_bitsAfter_105 : decode cX1_bitsAfter 105 = .ok (.ireturn, 1) := by decide +kernel
theorem dX3_append_0 : decode cX3_append 0 = .ok (.aload_n 0, 1) := by decide +kernel
theorem dX3_append_1 : decode cX3_append 1 = .ok (.getfield 22, 3) := by decide +kernel
theorem dX3_append_4 : decode cX3_append 4 = .ok (.bipush 20, 2) := by decide +kernel
theorem dX3_append_6 : decode cX3_append 6 = .ok (.if_icmp .lt 4, 3) := by decide +kernel
theorem dX3_append_9 : decode cX3_append 9 = .ok (.return_, 1) := by decide +kernel
theorem dX3_append_10 : decode cX3_append 10 = .ok (.aload_n 0, 1) := by decide +kernel
theorem dX3_append_11 : decode cX3_append 11 = .ok (.getfield 9, 3) := by decide +kernel
theorem dX3_append_14 : decode cX3_append 14 = .ok (.aload_n 0, 1) := by decide +kernel
theorem dX3_append_15 : decode cX3_append 15 = .ok (.getfield 22, 3) := by decide +kernel
theorem dX3_append_18 : decode cX3_append 18 = .ok (.iload_n 1, 1) := by decide +kernel
theorem dX3_append_19 : decode cX3_append 19 = .ok (.iastore, 1) := by decide +kernel
theorem dX3_append_20 : decode cX3_append 20 = .ok (.aload_n 0, 1) := by decide +kernel
theorem dX3_append_21 : decode cX3_append 21 = .ok (.getfield 15, 3) := by decide +kernel
theorem dX3_append_24 : decode cX3_append 24 = .ok (.aload_n 0, 1) := by decide +kernel
theorem dX3_append_25 : decode cX3_append 25 = .ok (.getfield 22, 3) := by decide +kernel
theorem dX3_append_28 : decode cX3_append 28 = .ok (.iload_n 2, 1) := by decide +kernel
theorem dX3_append_29 : decode cX3_append 29 = .ok (.bastore, 1) := by decide +kernel
theorem dX3_append_30 : decode cX3_append 30 = .ok (.aload_n 0, 1) := by decide +kernel
theorem dX3_append_31 : decode cX3_append 31 = .ok (.getfield 19, 3) := by decide +kernel
theorem dX3_append_34 : decode cX3_append 34 = .ok (.aload_n 0, 1) := by decide +kernel
theorem dX3_append_35 : decode cX3_append 35 = .ok (.getfield 22, 3) := by decide +kernel
theorem dX3_append_38 : decode cX3_append 38 = .ok (.iload_n 3, 1) := by decide +kernel
theorem dX3_append_39 : decode cX3_append 39 = .ok (.iastore, 1) := by decide +kernel
theorem dX3_append_40 : decode cX3_append 40 = .ok (.aload_n 0, 1) := by decide +kernel
theorem dX3_append_41 : decode cX3_append 41 = .ok (.dup, 1) := by decide +kernel
theorem dX3_append_42 : decode cX3_append 42 = .ok (.getfield 22, 3) := by decide +kernel
theorem dX3_append_45 : decode cX3_append 45 = .ok (.iconst 1, 1) := by decide +kernel
theorem dX3_append_46 : decode cX3_append 46 = .ok (.iadd, 1) := by decide +kernel
theorem dX3_append_47 : decode cX3_append 47 = .ok (.putfield 22, 3) := by decide +kernel
theorem dX3_append_50 : decode cX3_append 50 = .ok (.return_, 1) := by decide +kernel
theorem dX5_restart_0 : decode cX5_restart 0 = .ok (.aload_n 0, 1) := by decide +kernel
theorem dX5_restart_1 : decode cX5_restart 1 = .ok (.getfield 12, 3) := by decide +kernel
theorem dX5_restart_4 : decode cX5_restart 4 = .ok (.aload_n 1, 1) := by decide +kernel
theorem dX5_restart_5 : decode cX5_restart 5 = .ok (.invokevirtual 49, 3) := by decide +kernel
theorem dX5_restart_8 : decode cX5_restart 8 = .ok (.aload_n 0, 1) := by decide +kernel
theorem dX5_restart_9 : decode cX5_restart 9 = .ok (.getfield 18, 3) := by decide +kernel
theorem dX5_restart_12 : decode cX5_restart 12 = .ok (.aload_n 1, 1) := by decide +kernel
theorem dX5_restart_13 : decode cX5_restart 13 = .ok (.invokevirtual 49, 3) := by decide +kernel
theorem dX5_restart_16 : decode cX5_restart 16 = .ok (.aload_n 0, 1) := by decide +kernel
theorem dX5_restart_17 : decode cX5_restart 17 = .ok (.getfield 24, 3) := by decide +kernel
theorem dX5_restart_20 : decode cX5_restart 20 = .ok (.iconst 0, 1) := by decide +kernel
theorem dX5_restart_21 : decode cX5_restart 21 = .ok (.putfield 50, 3) := by decide +kernel
theorem dX5_restart_24 : decode cX5_restart 24 = .ok (.aload_n 0, 1) := by decide +kernel
theorem dX5_restart_25 : decode cX5_restart 25 = .ok (.iconst 0, 1) := by decide +kernel
theorem dX5_restart_26 : decode cX5_restart 26 = .ok (.putfield 39, 3) := by decide +kernel
theorem dX5_restart_29 : decode cX5_restart 29 = .ok (.aload_n 0, 1) := by decide +kernel
theorem dX5_restart_30 : decode cX5_restart 30 = .ok (.bipush (-9), 2) := by decide +kernel
theorem dX5_restart_32 : decode cX5_restart 32 = .ok (.putfield 28, 3) := by decide +kernel
theorem dX5_restart_35 : decode cX5_restart 35 = .ok (.return_, 1) := by decide +kernel
theorem dX5_performRead_0 : decode cX5_performRead 0 = .ok (.aload_n 0, 1) := by decide +kernel
theorem dX5_performRead_1 : decode cX5_performRead 1 = .ok (.getfield 12, 3) := by decide +kernel
theorem dX5_performRead_4 : decode cX5_performRead 4 = .ok (.aload_n 1, 1) := by decide +kernel
theorem dX5_performRead_5 : decode cX5_performRead 5 = .ok (.iload_n 2, 1) := by decide +kernel
theorem dX5_performRead_6 : decode cX5_performRead 6 = .ok (.invokevirtual 53, 3) := by decide +kernel
theorem dX5_performRead_9 : decode cX5_performRead 9 = .ok (.istore_n 3, 1) := by decide +kernel
theorem dX5_performRead_10 : decode cX5_performRead 10 = .ok (.aload_n 0, 1) := by decide +kernel
theorem dX5_performRead_11 : decode cX5_performRead 11 = .ok (.iload_n 3, 1) := by decide +kernel
theorem dX5_performRead_12 : decode cX5_performRead 12 = .ok (.aload_n 0, 1) := by decide +kernel
theorem dX5_performRead_13 : decode cX5_performRead 13 = .ok (.getfield 18, 3) := by decide +kernel
theorem dX5_performRead_16 : decode cX5_performRead 16 = .ok (.aload_n 1, 1) := by decide +kernel
theorem dX5_performRead_17 : decode cX5_performRead 17 = .ok (.iload_n 2, 1) := by decide +kernel
theorem dX5_performRead_18 : decode cX5_performRead 18 = .ok (.invokevirtual 57, 3) := by decide +kernel
theorem dX5_performRead_21 : decode cX5_performRead 21 = .ok (.ixor, 1) := by decide +kernel
theorem dX5_performRead_22 : decode cX5_performRead 22 = .ok (.putfield 28, 3) := by decide +kernel
theorem dX5_performRead_25 : decode cX5_performRead 25 = .ok (.aload_n 0, 1) := by decide +kernel
theorem dX5_performRead_26 : decode cX5_performRead 26 = .ok (.getfield 28, 3) := by decide +kernel
theorem dX5_performRead_29 : decode cX5_performRead 29 = .ok (.ifCond .eq 13, 3) := by decide +kernel
theorem dX5_performRead_32 : decode cX5_performRead 32 = .ok (.aload_n 0, 1) := by decide +kernel
theorem dX5_performRead_33 : decode cX5_performRead 33 = .ok (.dup, 1) := by decide +kernel
theorem dX5_performRead_34 : decode cX5_performRead 34 = .ok (.getfield 39, 3) := by decide +kernel
theorem dX5_performRead_37 : decode cX5_performRead 37 = .ok (.iconst 1, 1) := by decide +kernel
theorem dX5_performRead_38 : decode cX5_performRead 38 = .ok (.iadd, 1) := by decide +kernel
theorem dX5_performRead_39 : decode cX5_performRead 39 = .ok (.putfield 39, 3) := by decide +kernel
theorem dX5_performRead_42 : decode cX5_performRead 42 = .ok (.aload_n 0, 1) := by decide +kernel
theorem dX5_performRead_43 : decode cX5_performRead 43 = .ok (.getfield 18, 3) := by decide +kernel
theorem dX5_performRead_46 : decode cX5_performRead 46 = .ok (.aload_n 1, 1) := by decide +kernel
theorem dX5_performRead_47 : decode cX5_performRead 47 = .ok (.iload_n 2, 1) := by decide +kernel
theorem dX5_performRead_48 : decode cX5_performRead 48 = .ok (.iload_n 3, 1) := by decide +kernel
theorem dX5_performRead_49 : decode cX5_performRead 49 = .ok (.invokevirtual 60, 3) := by decide +kernel
theorem dX5_performRead_52 : decode cX5_performRead 52 = .ok (.aload_n 0, 1) := by decide +kernel
theorem dX5_performRead_53 : decode cX5_performRead 53 = .ok (.getfield 18, 3) := by decide +kernel
theorem dX5_performRead_56 : decode cX5_performRead 56 = .ok (.aload_n 1, 1) := by decide +kernel
theorem dX5_performRead_57 : decode cX5_performRead 57 = .ok (.iload_n 2, 1) := by decide +kernel
theorem dX5_performRead_58 : decode cX5_performRead 58 = .ok (.invokevirtual 53, 3) := by decide +kernel
theorem dX5_performRead_61 : decode cX5_performRead 61 = .ok (.pop, 1) := by decide +kernel
theorem dX5_performRead_62 : decode cX5_performRead 62 = .ok (.aload_n 0, 1) := by decide +kernel
theorem dX5_performRead_63 : decode cX5_performRead 63 = .ok (.getfield 24, 3) := by decide +kernel
theorem dX5_performRead_66 : decode cX5_performRead 66 = .ok (.iload_n 2, 1) := by decide +kernel
theorem dX5_performRead_67 : decode cX5_performRead 67 = .ok (.iconst 0, 1) := by decide +kernel
theorem dX5_performRead_68 : decode cX5_performRead 68 = .ok (.iload_n 3, 1) := by decide +kernel
theorem dX5_performRead_69 : decode cX5_performRead 69 = .ok (.invokevirtual 64, 3) := by decide +kernel
theorem dX5_performRead_72 : decode cX5_performRead 72 = .ok (.iload_n 3, 1) := by decide +kernel
theorem dX5_performRead_73 : decode cX5_performRead 73 = .ok (.ireturn, 1) := by decide +kernel
theorem dX6_append_0 : decode cX6_append 0 = .ok (.aload_n 0, 1) := by decide +kernel
theorem dX6_append_1 : decode cX6_append 1 = .ok (.getfield 15, 3) := by decide +kernel
theorem dX6_append_4 : decode cX6_append 4 = .ok (.sipush 160, 3) := by decide +kernel
theorem dX6_append_7 : decode cX6_append 7 = .ok (.if_icmp .ge 23, 3) := by decide +kernel
theorem dX6_append_10 : decode cX6_append 10 = .ok (.aload_n 0, 1) := by decide +kernel
theorem dX6_append_11 : decode cX6_append 11 = .ok (.getfield 9, 3) := by decide +kernel
theorem dX6_append_14 : decode cX6_append 14 = .ok (.aload_n 0, 1) := by decide +kernel
theorem dX6_append_15 : decode cX6_append 15 = .ok (.getfield 15, 3) := by decide +kernel
theorem dX6_append_18 : decode cX6_append 18 = .ok (.iload_n 1, 1) := by decide +kernel
theorem dX6_append_19 : decode cX6_append 19 = .ok (.iastore, 1) := by decide +kernel
theorem dX6_append_20 : decode cX6_append 20 = .ok (.aload_n 0, 1) := by decide +kernel
theorem dX6_append_21 : decode cX6_append 21 = .ok (.dup, 1) := by decide +kernel
theorem dX6_append_22 : decode cX6_append 22 = .ok (.getfield 15, 3) := by decide +kernel
theorem dX6_append_25 : decode cX6_append 25 = .ok (.iconst 1, 1) := by decide +kernel
theorem dX6_append_26 : decode cX6_append 26 = .ok (.iadd, 1) := by decide +kernel
theorem dX6_append_27 : decode cX6_append 27 = .ok (.putfield 15, 3) := by decide +kernel
theorem dX6_append_30 : decode cX6_append 30 = .ok (.return_, 1) := by decide +kernel
theorem dX8_isWithin_0 : decode cX8_isWithin 0 = .ok (.iload_n 0, 1) := by decide +kernel
theorem dX8_isWithin_1 : decode cX8_isWithin 1 = .ok (.ifCond .lt 12, 3) := by decide +kernel
theorem dX8_isWithin_4 : decode cX8_isWithin 4 = .ok (.iload_n 0, 1) := by decide +kernel
theorem dX8_isWithin_5 : decode cX8_isWithin 5 = .ok (.iload_n 1, 1) := by decide +kernel
theorem dX8_isWithin_6 : decode cX8_isWithin 6 = .ok (.if_icmp .ge 7, 3) := by decide +kernel
theorem dX8_isWithin_9 : decode cX8_isWithin 9 = .ok (.iconst 1, 1) := by decide +kernel
theorem dX8_isWithin_10 : decode cX8_isWithin 10 = .ok (.goto 4, 3) := by decide +kernel
theorem dX8_isWithin_13 : decode cX8_isWithin 13 = .ok (.iconst 0, 1) := by decide +kernel
theorem dX8_isWithin_14 : decode cX8_isWithin 14 = .ok (.ireturn, 1) := by decide +kernel
