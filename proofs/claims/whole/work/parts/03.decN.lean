theorem d_A_init_0 : decode b_A_init 0 = .ok (.aload_n 0, 1) := by decide +kernel
theorem d_A_init_1 : decode b_A_init 1 = .ok (.invokespecial 3, 3) := by decide +kernel
theorem d_A_init_4 : decode b_A_init 4 = .ok (.aload_n 0, 1) := by decide +kernel
theorem d_A_init_5 : decode b_A_init 5 = .ok (.bipush 8, 2) := by decide +kernel
theorem d_A_init_7 : decode b_A_init 7 = .ok (.newarray .long, 2) := by decide +kernel
theorem d_A_init_9 : decode b_A_init 9 = .ok (.putfield 9, 3) := by decide +kernel
theorem d_A_init_12 : decode b_A_init 12 = .ok (.aload_n 0, 1) := by decide +kernel
theorem d_A_init_13 : decode b_A_init 13 = .ok (.bipush 8, 2) := by decide +kernel
theorem d_A_init_15 : decode b_A_init 15 = .ok (.newarray .long, 2) := by decide +kernel
theorem d_A_init_17 : decode b_A_init 17 = .ok (.putfield 15, 3) := by decide +kernel
theorem d_A_init_20 : decode b_A_init 20 = .ok (.aload_n 0, 1) := by decide +kernel
theorem d_A_init_21 : decode b_A_init 21 = .ok (.iload_n 1, 1) := by decide +kernel
theorem d_A_init_22 : decode b_A_init 22 = .ok (.putfield 18, 3) := by decide +kernel
theorem d_A_init_25 : decode b_A_init 25 = .ok (.return_, 1) := by decide +kernel
theorem d_A_addRegion_0 : decode b_A_addRegion 0 = .ok (.aload_n 0, 1) := by decide +kernel
theorem d_A_addRegion_1 : decode b_A_addRegion 1 = .ok (.getfield 22, 3) := by decide +kernel
theorem d_A_addRegion_4 : decode b_A_addRegion 4 = .ok (.bipush 8, 2) := by decide +kernel
theorem d_A_addRegion_6 : decode b_A_addRegion 6 = .ok (.if_icmp .ge 33, 3) := by decide +kernel
theorem d_A_addRegion_9 : decode b_A_addRegion 9 = .ok (.aload_n 0, 1) := by decide +kernel
theorem d_A_addRegion_10 : decode b_A_addRegion 10 = .ok (.getfield 9, 3) := by decide +kernel
theorem d_A_addRegion_13 : decode b_A_addRegion 13 = .ok (.aload_n 0, 1) := by decide +kernel
theorem d_A_addRegion_14 : decode b_A_addRegion 14 = .ok (.getfield 22, 3) := by decide +kernel
theorem d_A_addRegion_17 : decode b_A_addRegion 17 = .ok (.lload_n 1, 1) := by decide +kernel
theorem d_A_addRegion_18 : decode b_A_addRegion 18 = .ok (.lastore, 1) := by decide +kernel
theorem d_A_addRegion_19 : decode b_A_addRegion 19 = .ok (.aload_n 0, 1) := by decide +kernel
theorem d_A_addRegion_20 : decode b_A_addRegion 20 = .ok (.getfield 15, 3) := by decide +kernel
theorem d_A_addRegion_23 : decode b_A_addRegion 23 = .ok (.aload_n 0, 1) := by decide +kernel
theorem d_A_addRegion_24 : decode b_A_addRegion 24 = .ok (.getfield 22, 3) := by decide +kernel
theorem d_A_addRegion_27 : decode b_A_addRegion 27 = .ok (.lload_n 3, 1) := by decide +kernel
theorem d_A_addRegion_28 : decode b_A_addRegion 28 = .ok (.lastore, 1) := by decide +kernel
theorem d_A_addRegion_29 : decode b_A_addRegion 29 = .ok (.aload_n 0, 1) := by decide +kernel
theorem d_A_addRegion_30 : decode b_A_addRegion 30 = .ok (.dup, 1) := by decide +kernel
theorem d_A_addRegion_31 : decode b_A_addRegion 31 = .ok (.getfield 22, 3) := by decide +kernel
theorem d_A_addRegion_34 : decode b_A_addRegion 34 = .ok (.iconst 1, 1) := by decide +kernel
theorem d_A_addRegion_35 : decode b_A_addRegion 35 = .ok (.iadd, 1) := by decide +kernel
theorem d_A_addRegion_36 : decode b_A_addRegion 36 = .ok (.putfield 22, 3) := by decide +kernel
theorem d_A_addRegion_39 : decode b_A_addRegion 39 = .ok (.return_, 1) := by decide +kernel
theorem d_A_hasAddress_0 : decode b_A_hasAddress 0 = .ok (.iconst 0, 1) := by decide +kernel
theorem d_A_hasAddress_1 : decode b_A_hasAddress 1 = .ok (.istore_n 3, 1) := by decide +kernel
theorem d_A_hasAddress_2 : decode b_A_hasAddress 2 = .ok (.iload_n 3, 1) := by decide +kernel
theorem d_A_hasAddress_3 : decode b_A_hasAddress 3 = .ok (.aload_n 0, 1) := by decide +kernel
theorem d_A_hasAddress_4 : decode b_A_hasAddress 4 = .ok (.getfield 22, 3) := by decide +kernel
theorem d_A_hasAddress_7 : decode b_A_hasAddress 7 = .ok (.if_icmp .ge 46, 3) := by decide +kernel
theorem d_A_hasAddress_10 : decode b_A_hasAddress 10 = .ok (.iload_n 3, 1) := by decide +kernel
theorem d_A_hasAddress_11 : decode b_A_hasAddress 11 = .ok (.bipush 8, 2) := by decide +kernel
theorem d_A_hasAddress_13 : decode b_A_hasAddress 13 = .ok (.if_icmp .ge 40, 3) := by decide +kernel
theorem d_A_hasAddress_16 : decode b_A_hasAddress 16 = .ok (.lload_n 1, 1) := by decide +kernel
theorem d_A_hasAddress_17 : decode b_A_hasAddress 17 = .ok (.aload_n 0, 1) := by decide +kernel
theorem d_A_hasAddress_18 : decode b_A_hasAddress 18 = .ok (.getfield 9, 3) := by decide +kernel
theorem d_A_hasAddress_21 : decode b_A_hasAddress 21 = .ok (.iload_n 3, 1) := by decide +kernel
theorem d_A_hasAddress_22 : decode b_A_hasAddress 22 = .ok (.laload, 1) := by decide +kernel
theorem d_A_hasAddress_23 : decode b_A_hasAddress 23 = .ok (.lcmp, 1) := by decide +kernel
theorem d_A_hasAddress_24 : decode b_A_hasAddress 24 = .ok (.ifCond .lt 23, 3) := by decide +kernel
theorem d_A_hasAddress_27 : decode b_A_hasAddress 27 = .ok (.lload_n 1, 1) := by decide +kernel
theorem d_A_hasAddress_28 : decode b_A_hasAddress 28 = .ok (.aload_n 0, 1) := by decide +kernel
theorem d_A_hasAddress_29 : decode b_A_hasAddress 29 = .ok (.getfield 9, 3) := by decide +kernel
theorem d_A_hasAddress_32 : decode b_A_hasAddress 32 = .ok (.iload_n 3, 1) := by decide +kernel
theorem d_A_hasAddress_33 : decode b_A_hasAddress 33 = .ok (.laload, 1) := by decide +kernel
theorem d_A_hasAddress_34 : decode b_A_hasAddress 34 = .ok (.lsub, 1) := by decide +kernel
theorem d_A_hasAddress_35 : decode b_A_hasAddress 35 = .ok (.aload_n 0, 1) := by decide +kernel
theorem d_A_hasAddress_36 : decode b_A_hasAddress 36 = .ok (.getfield 15, 3) := by decide +kernel
theorem d_A_hasAddress_39 : decode b_A_hasAddress 39 = .ok (.iload_n 3, 1) := by decide +kernel
theorem d_A_hasAddress_40 : decode b_A_hasAddress 40 = .ok (.laload, 1) := by decide +kernel
theorem d_A_hasAddress_41 : decode b_A_hasAddress 41 = .ok (.lcmp, 1) := by decide +kernel
theorem d_A_hasAddress_42 : decode b_A_hasAddress 42 = .ok (.ifCond .ge 5, 3) := by decide +kernel
theorem d_A_hasAddress_45 : decode b_A_hasAddress 45 = .ok (.iconst 1, 1) := by decide +kernel
theorem d_A_hasAddress_46 : decode b_A_hasAddress 46 = .ok (.ireturn, 1) := by decide +kernel
theorem d_A_hasAddress_47 : decode b_A_hasAddress 47 = .ok (.iinc 3 1, 3) := by decide +kernel
theorem d_A_hasAddress_50 : decode b_A_hasAddress 50 = .ok (.goto (-48), 3) := by decide +kernel
theorem d_A_hasAddress_53 : decode b_A_hasAddress 53 = .ok (.iconst 0, 1) := by decide +kernel
theorem d_A_hasAddress_54 : decode b_A_hasAddress 54 = .ok (.ireturn, 1) := by decide +kernel
theorem d_B_init_0 : decode b_B_init 0 = .ok (.aload_n 0, 1) := by decide +kernel
theorem d_B_init_1 : decode b_B_init 1 = .ok (.invokespecial 3, 3) := by decide +kernel
theorem d_B_init_4 : decode b_B_init 4 = .ok (.aload_n 0, 1) := by decide +kernel
theorem d_B_init_5 : decode b_B_init 5 = .ok (.sipush 2000, 3) := by decide +kernel
theorem d_B_init_8 : decode b_B_init 8 = .ok (.newarray .int, 2) := by decide +kernel
theorem d_B_init_10 : decode b_B_init 10 = .ok (.putfield 11, 3) := by decide +kernel
theorem d_B_init_13 : decode b_B_init 13 = .ok (.aload_n 0, 1) := by decide +kernel
theorem d_B_init_14 : decode b_B_init 14 = .ok (.iload_n 1, 1) := by decide +kernel
theorem d_B_init_15 : decode b_B_init 15 = .ok (.putfield 15, 3) := by decide +kernel
theorem d_B_init_18 : decode b_B_init 18 = .ok (.return_, 1) := by decide +kernel
theorem d_B_write_0 : decode b_B_write 0 = .ok (.aload_n 0, 1) := by decide +kernel
theorem d_B_write_1 : decode b_B_write 1 = .ok (.getfield 19, 3) := by decide +kernel
theorem d_B_write_4 : decode b_B_write 4 = .ok (.sipush 500, 3) := by decide +kernel
theorem d_B_write_7 : decode b_B_write 7 = .ok (.if_icmp .ge 50, 3) := by decide +kernel
theorem d_B_write_10 : decode b_B_write 10 = .ok (.aload_n 0, 1) := by decide +kernel
theorem d_B_write_11 : decode b_B_write 11 = .ok (.getfield 19, 3) := by decide +kernel
theorem d_B_write_14 : decode b_B_write 14 = .ok (.iconst 4, 1) := by decide +kernel
theorem d_B_write_15 : decode b_B_write 15 = .ok (.imul, 1) := by decide +kernel
theorem d_B_write_16 : decode b_B_write 16 = .ok (.istore 5, 2) := by decide +kernel
theorem d_B_write_18 : decode b_B_write 18 = .ok (.aload_n 0, 1) := by decide +kernel
theorem d_B_write_19 : decode b_B_write 19 = .ok (.getfield 11, 3) := by decide +kernel
theorem d_B_write_22 : decode b_B_write 22 = .ok (.iload 5, 2) := by decide +kernel
theorem d_B_write_24 : decode b_B_write 24 = .ok (.iload_n 1, 1) := by decide +kernel
theorem d_B_write_25 : decode b_B_write 25 = .ok (.iastore, 1) := by decide +kernel
theorem d_B_write_26 : decode b_B_write 26 = .ok (.aload_n 0, 1) := by decide +kernel
theorem d_B_write_27 : decode b_B_write 27 = .ok (.getfield 11, 3) := by decide +kernel
theorem d_B_write_30 : decode b_B_write 30 = .ok (.iload 5, 2) := by decide +kernel
theorem d_B_write_32 : decode b_B_write 32 = .ok (.iconst 1, 1) := by decide +kernel
theorem d_B_write_33 : decode b_B_write 33 = .ok (.iadd, 1) := by decide +kernel
theorem d_B_write_34 : decode b_B_write 34 = .ok (.iload_n 2, 1) := by decide +kernel
theorem d_B_write_35 : decode b_B_write 35 = .ok (.iastore, 1) := by decide +kernel
theorem d_B_write_36 : decode b_B_write 36 = .ok (.aload_n 0, 1) := by decide +kernel
theorem d_B_write_37 : decode b_B_write 37 = .ok (.getfield 11, 3) := by decide +kernel
theorem d_B_write_40 : decode b_B_write 40 = .ok (.iload 5, 2) := by decide +kernel
theorem d_B_write_42 : decode b_B_write 42 = .ok (.iconst 2, 1) := by decide +kernel
theorem d_B_write_43 : decode b_B_write 43 = .ok (.iadd, 1) := by decide +kernel
theorem d_B_write_44 : decode b_B_write 44 = .ok (.iload_n 3, 1) := by decide +kernel
theorem d_B_write_45 : decode b_B_write 45 = .ok (.iastore, 1) := by decide +kernel
theorem d_B_write_46 : decode b_B_write 46 = .ok (.aload_n 0, 1) := by decide +kernel
theorem d_B_write_47 : decode b_B_write 47 = .ok (.getfield 11, 3) := by decide +kernel
theorem d_B_write_50 : decode b_B_write 50 = .ok (.iload 5, 2) := by decide +kernel
theorem d_B_write_52 : decode b_B_write 52 = .ok (.iconst 3, 1) := by decide +kernel
theorem d_B_write_53 : decode b_B_write 53 = .ok (.iadd, 1) := by decide +kernel
theorem d_B_write_54 : decode b_B_write 54 = .ok (.iload 4, 2) := by decide +kernel
theorem d_B_write_56 : decode b_B_write 56 = .ok (.iastore, 1) := by decide +kernel
theorem d_B_write_57 : decode b_B_write 57 = .ok (.aload_n 0, 1) := by decide +kernel
theorem d_B_write_58 : decode b_B_write 58 = .ok (.getfield 19, 3) := by decide +kernel
theorem d_B_write_61 : decode b_B_write 61 = .ok (.ldc 24, 2) := by decide +kernel
theorem d_B_write_63 : decode b_B_write 63 = .ok (.if_icmp .ge 13, 3) := by decide +kernel
theorem d_B_write_66 : decode b_B_write 66 = .ok (.aload_n 0, 1) := by decide +kernel
theorem d_B_write_67 : decode b_B_write 67 = .ok (.dup, 1) := by decide +kernel
theorem d_B_write_68 : decode b_B_write 68 = .ok (.getfield 19, 3) := by decide +kernel
theorem d_B_write_71 : decode b_B_write 71 = .ok (.iconst 1, 1) := by decide +kernel
theorem d_B_write_72 : decode b_B_write 72 = .ok (.iadd, 1) := by decide +kernel
theorem d_B_write_73 : decode b_B_write 73 = .ok (.putfield 19, 3) := by decide +kernel
theorem d_B_write_76 : decode b_B_write 76 = .ok (.return_, 1) := by decide +kernel
theorem d_B_tell_0 : decode b_B_tell 0 = .ok (.iload_n 1, 1) := by decide +kernel
theorem d_B_tell_1 : decode b_B_tell 1 = .ok (.iconst (-1), 1) := by decide +kernel
theorem d_B_tell_2 : decode b_B_tell 2 = .ok (.if_icmp .ne 12, 3) := by decide +kernel
theorem d_B_tell_5 : decode b_B_tell 5 = .ok (.iload_n 2, 1) := by decide +kernel
theorem d_B_tell_6 : decode b_B_tell 6 = .ok (.ifCond .ne 8, 3) := by decide +kernel
theorem d_B_tell_9 : decode b_B_tell 9 = .ok (.aload_n 0, 1) := by decide +kernel
theorem d_B_tell_10 : decode b_B_tell 10 = .ok (.getfield 19, 3) := by decide +kernel
theorem d_B_tell_13 : decode b_B_tell 13 = .ok (.ireturn, 1) := by decide +kernel
theorem d_B_tell_14 : decode b_B_tell 14 = .ok (.iload_n 1, 1) := by decide +kernel
theorem d_B_tell_15 : decode b_B_tell 15 = .ok (.ifCond .lt 18, 3) := by decide +kernel
theorem d_B_tell_18 : decode b_B_tell 18 = .ok (.iload_n 1, 1) := by decide +kernel
theorem d_B_tell_19 : decode b_B_tell 19 = .ok (.aload_n 0, 1) := by decide +kernel
theorem d_B_tell_20 : decode b_B_tell 20 = .ok (.getfield 19, 3) := by decide +kernel
theorem d_B_tell_23 : decode b_B_tell 23 = .ok (.if_icmp .ge 10, 3) := by decide +kernel
theorem d_B_tell_26 : decode b_B_tell 26 = .ok (.iload_n 1, 1) := by decide +kernel
theorem d_B_tell_27 : decode b_B_tell 27 = .ok (.sipush 500, 3) := by decide +kernel
theorem d_B_tell_30 : decode b_B_tell 30 = .ok (.if_icmp .lt 5, 3) := by decide +kernel
theorem d_B_tell_33 : decode b_B_tell 33 = .ok (.iconst (-1), 1) := by decide +kernel
theorem d_B_tell_34 : decode b_B_tell 34 = .ok (.ireturn, 1) := by decide +kernel
theorem d_B_tell_35 : decode b_B_tell 35 = .ok (.iload_n 2, 1) := by decide +kernel
theorem d_B_tell_36 : decode b_B_tell 36 = .ok (.ifCond .lt 11, 3) := by decide +kernel
theorem d_B_tell_39 : decode b_B_tell 39 = .ok (.iload_n 2, 1) := by decide +kernel
theorem d_B_tell_40 : decode b_B_tell 40 = .ok (.aload_n 0, 1) := by decide +kernel
theorem d_B_tell_41 : decode b_B_tell 41 = .ok (.getfield 15, 3) := by decide +kernel
theorem d_B_tell_44 : decode b_B_tell 44 = .ok (.if_icmp .lt 6, 3) := by decide +kernel
theorem d_B_tell_47 : decode b_B_tell 47 = .ok (.bipush (-2), 2) := by decide +kernel
theorem d_B_tell_49 : decode b_B_tell 49 = .ok (.ireturn, 1) := by decide +kernel
theorem d_B_tell_50 : decode b_B_tell 50 = .ok (.aload_n 0, 1) := by decide +kernel
theorem d_B_tell_51 : decode b_B_tell 51 = .ok (.getfield 11, 3) := by decide +kernel
theorem d_B_tell_54 : decode b_B_tell 54 = .ok (.iload_n 1, 1) := by decide +kernel
theorem d_B_tell_55 : decode b_B_tell 55 = .ok (.iconst 4, 1) := by decide +kernel
theorem d_B_tell_56 : decode b_B_tell 56 = .ok (.imul, 1) := by decide +kernel
theorem d_B_tell_57 : decode b_B_tell 57 = .ok (.iload_n 2, 1) := by decide +kernel
theorem d_B_tell_58 : decode b_B_tell 58 = .ok (.iadd, 1) := by decide +kernel
theorem d_B_tell_59 : decode b_B_tell 59 = .ok (.iaload, 1) := by decide +kernel
theorem d_B_tell_60 : decode b_B_tell 60 = .ok (.ireturn, 1) := by decide +kernel
theorem d_T_init_0 : decode b_T_init 0 = .ok (.aload_n 0, 1) := by decide +kernel
theorem d_T_init_1 : decode b_T_init 1 = .ok (.invokespecial 1, 3) := by decide +kernel
theorem d_T_init_4 : decode b_T_init 4 = .ok (.aload_n 0, 1) := by decide +kernel
theorem d_T_init_5 : decode b_T_init 5 = .ok (.iconst 1, 1) := by decide +kernel
theorem d_T_init_6 : decode b_T_init 6 = .ok (.putfield 7, 3) := by decide +kernel
theorem d_T_init_9 : decode b_T_init 9 = .ok (.aload_n 0, 1) := by decide +kernel
theorem d_T_init_10 : decode b_T_init 10 = .ok (.iload_n 1, 1) := by decide +kernel
theorem d_T_init_11 : decode b_T_init 11 = .ok (.putfield 13, 3) := by decide +kernel
theorem d_T_init_14 : decode b_T_init 14 = .ok (.aload_n 0, 1) := by decide +kernel
theorem d_T_init_15 : decode b_T_init 15 = .ok (.aload_n 2, 1) := by decide +kernel
theorem d_T_init_16 : decode b_T_init 16 = .ok (.putfield 17, 3) := by decide +kernel
theorem d_T_init_19 : decode b_T_init 19 = .ok (.aload_n 0, 1) := by decide +kernel
theorem d_T_init_20 : decode b_T_init 20 = .ok (.lload_n 3, 1) := by decide +kernel
theorem d_T_init_21 : decode b_T_init 21 = .ok (.putfield 21, 3) := by decide +kernel
theorem d_T_init_24 : decode b_T_init 24 = .ok (.return_, 1) := by decide +kernel
theorem d_T_isEarlyAt_0 : decode b_T_isEarlyAt 0 = .ok (.aload_n 0, 1) := by decide +kernel
theorem d_T_isEarlyAt_1 : decode b_T_isEarlyAt 1 = .ok (.getfield 25, 3) := by decide +kernel
theorem d_T_isEarlyAt_4 : decode b_T_isEarlyAt 4 = .ok (.ifCond .eq 21, 3) := by decide +kernel
theorem d_T_isEarlyAt_7 : decode b_T_isEarlyAt 7 = .ok (.lload_n 1, 1) := by decide +kernel
theorem d_T_isEarlyAt_8 : decode b_T_isEarlyAt 8 = .ok (.aload_n 0, 1) := by decide +kernel
theorem d_T_isEarlyAt_9 : decode b_T_isEarlyAt 9 = .ok (.getfield 28, 3) := by decide +kernel
theorem d_T_isEarlyAt_12 : decode b_T_isEarlyAt 12 = .ok (.lsub, 1) := by decide +kernel
theorem d_T_isEarlyAt_13 : decode b_T_isEarlyAt 13 = .ok (.aload_n 0, 1) := by decide +kernel
theorem d_T_isEarlyAt_14 : decode b_T_isEarlyAt 14 = .ok (.getfield 21, 3) := by decide +kernel
theorem d_T_isEarlyAt_17 : decode b_T_isEarlyAt 17 = .ok (.lcmp, 1) := by decide +kernel
theorem d_T_isEarlyAt_18 : decode b_T_isEarlyAt 18 = .ok (.ifCond .ge 7, 3) := by decide +kernel
theorem d_T_isEarlyAt_21 : decode b_T_isEarlyAt 21 = .ok (.iconst 1, 1) := by decide +kernel
theorem d_T_isEarlyAt_22 : decode b_T_isEarlyAt 22 = .ok (.goto 4, 3) := by decide +kernel
theorem d_T_isEarlyAt_25 : decode b_T_isEarlyAt 25 = .ok (.iconst 0, 1) := by decide +kernel
theorem d_T_isEarlyAt_26 : decode b_T_isEarlyAt 26 = .ok (.ireturn, 1) := by decide +kernel
