theorem d_P_applicationNumbered_0 : decode b_P_applicationNumbered 0 = .ok (.iload_n 1, 1) := by decide +kernel
theorem d_P_applicationNumbered_1 : decode b_P_applicationNumbered 1 = .ok (.iconst 1, 1) := by decide +kernel
theorem d_P_applicationNumbered_2 : decode b_P_applicationNumbered 2 = .ok (.if_icmp .lt 20, 3) := by decide +kernel
theorem d_P_applicationNumbered_5 : decode b_P_applicationNumbered 5 = .ok (.iload_n 1, 1) := by decide +kernel
theorem d_P_applicationNumbered_6 : decode b_P_applicationNumbered 6 = .ok (.bipush 16, 2) := by decide +kernel
theorem d_P_applicationNumbered_8 : decode b_P_applicationNumbered 8 = .ok (.if_icmp .gt 14, 3) := by decide +kernel
theorem d_P_applicationNumbered_11 : decode b_P_applicationNumbered 11 = .ok (.aload_n 0, 1) := by decide +kernel
theorem d_P_applicationNumbered_12 : decode b_P_applicationNumbered 12 = .ok (.getfield 11, 3) := by decide +kernel
theorem d_P_applicationNumbered_15 : decode b_P_applicationNumbered 15 = .ok (.iload_n 1, 1) := by decide +kernel
theorem d_P_applicationNumbered_16 : decode b_P_applicationNumbered 16 = .ok (.iconst 1, 1) := by decide +kernel
theorem d_P_applicationNumbered_17 : decode b_P_applicationNumbered 17 = .ok (.isub, 1) := by decide +kernel
theorem d_P_applicationNumbered_18 : decode b_P_applicationNumbered 18 = .ok (.aaload, 1) := by decide +kernel
theorem d_P_applicationNumbered_19 : decode b_P_applicationNumbered 19 = .ok (.goto 4, 3) := by decide +kernel
theorem d_P_applicationNumbered_22 : decode b_P_applicationNumbered 22 = .ok (.aconst_null, 1) := by decide +kernel
theorem d_P_applicationNumbered_23 : decode b_P_applicationNumbered 23 = .ok (.areturn, 1) := by decide +kernel
theorem d_P_taskNumbered_0 : decode b_P_taskNumbered 0 = .ok (.iload_n 1, 1) := by decide +kernel
theorem d_P_taskNumbered_1 : decode b_P_taskNumbered 1 = .ok (.iconst 1, 1) := by decide +kernel
theorem d_P_taskNumbered_2 : decode b_P_taskNumbered 2 = .ok (.if_icmp .lt 20, 3) := by decide +kernel
theorem d_P_taskNumbered_5 : decode b_P_taskNumbered 5 = .ok (.iload_n 1, 1) := by decide +kernel
theorem d_P_taskNumbered_6 : decode b_P_taskNumbered 6 = .ok (.bipush 60, 2) := by decide +kernel
theorem d_P_taskNumbered_8 : decode b_P_taskNumbered 8 = .ok (.if_icmp .gt 14, 3) := by decide +kernel
theorem d_P_taskNumbered_11 : decode b_P_taskNumbered 11 = .ok (.aload_n 0, 1) := by decide +kernel
theorem d_P_taskNumbered_12 : decode b_P_taskNumbered 12 = .ok (.getfield 17, 3) := by decide +kernel
theorem d_P_taskNumbered_15 : decode b_P_taskNumbered 15 = .ok (.iload_n 1, 1) := by decide +kernel
theorem d_P_taskNumbered_16 : decode b_P_taskNumbered 16 = .ok (.iconst 1, 1) := by decide +kernel
theorem d_P_taskNumbered_17 : decode b_P_taskNumbered 17 = .ok (.isub, 1) := by decide +kernel
theorem d_P_taskNumbered_18 : decode b_P_taskNumbered 18 = .ok (.aaload, 1) := by decide +kernel
theorem d_P_taskNumbered_19 : decode b_P_taskNumbered 19 = .ok (.goto 4, 3) := by decide +kernel
theorem d_P_taskNumbered_22 : decode b_P_taskNumbered 22 = .ok (.aconst_null, 1) := by decide +kernel
theorem d_P_taskNumbered_23 : decode b_P_taskNumbered 23 = .ok (.areturn, 1) := by decide +kernel
theorem d_P_canAct_0 : decode b_P_canAct 0 = .ok (.aload_n 0, 1) := by decide +kernel
theorem d_P_canAct_1 : decode b_P_canAct 1 = .ok (.getfield 44, 3) := by decide +kernel
theorem d_P_canAct_4 : decode b_P_canAct 4 = .ok (.ifCond .eq 14, 3) := by decide +kernel
theorem d_P_canAct_7 : decode b_P_canAct 7 = .ok (.aload_n 1, 1) := by decide +kernel
theorem d_P_canAct_8 : decode b_P_canAct 8 = .ok (.getfield 124, 3) := by decide +kernel
theorem d_P_canAct_11 : decode b_P_canAct 11 = .ok (.ifCond .eq 7, 3) := by decide +kernel
theorem d_P_canAct_14 : decode b_P_canAct 14 = .ok (.iconst 1, 1) := by decide +kernel
theorem d_P_canAct_15 : decode b_P_canAct 15 = .ok (.goto 4, 3) := by decide +kernel
theorem d_P_canAct_18 : decode b_P_canAct 18 = .ok (.iconst 0, 1) := by decide +kernel
theorem d_P_canAct_19 : decode b_P_canAct 19 = .ok (.ireturn, 1) := by decide +kernel
theorem d_P_countHeldBy_0 : decode b_P_countHeldBy 0 = .ok (.iconst 0, 1) := by decide +kernel
theorem d_P_countHeldBy_1 : decode b_P_countHeldBy 1 = .ok (.istore_n 2, 1) := by decide +kernel
theorem d_P_countHeldBy_2 : decode b_P_countHeldBy 2 = .ok (.aload_n 0, 1) := by decide +kernel
theorem d_P_countHeldBy_3 : decode b_P_countHeldBy 3 = .ok (.getfield 21, 3) := by decide +kernel
theorem d_P_countHeldBy_6 : decode b_P_countHeldBy 6 = .ok (.astore_n 3, 1) := by decide +kernel
theorem d_P_countHeldBy_7 : decode b_P_countHeldBy 7 = .ok (.aload_n 3, 1) := by decide +kernel
theorem d_P_countHeldBy_8 : decode b_P_countHeldBy 8 = .ok (.arraylength, 1) := by decide +kernel
theorem d_P_countHeldBy_9 : decode b_P_countHeldBy 9 = .ok (.istore 4, 2) := by decide +kernel
theorem d_P_countHeldBy_11 : decode b_P_countHeldBy 11 = .ok (.iconst 0, 1) := by decide +kernel
theorem d_P_countHeldBy_12 : decode b_P_countHeldBy 12 = .ok (.istore 5, 2) := by decide +kernel
theorem d_P_countHeldBy_14 : decode b_P_countHeldBy 14 = .ok (.iload 5, 2) := by decide +kernel
theorem d_P_countHeldBy_16 : decode b_P_countHeldBy 16 = .ok (.iload 4, 2) := by decide +kernel
theorem d_P_countHeldBy_18 : decode b_P_countHeldBy 18 = .ok (.if_icmp .ge 27, 3) := by decide +kernel
theorem d_P_countHeldBy_21 : decode b_P_countHeldBy 21 = .ok (.aload_n 3, 1) := by decide +kernel
theorem d_P_countHeldBy_22 : decode b_P_countHeldBy 22 = .ok (.iload 5, 2) := by decide +kernel
theorem d_P_countHeldBy_24 : decode b_P_countHeldBy 24 = .ok (.iaload, 1) := by decide +kernel
theorem d_P_countHeldBy_25 : decode b_P_countHeldBy 25 = .ok (.istore 6, 2) := by decide +kernel
theorem d_P_countHeldBy_27 : decode b_P_countHeldBy 27 = .ok (.iload 6, 2) := by decide +kernel
theorem d_P_countHeldBy_29 : decode b_P_countHeldBy 29 = .ok (.aload_n 1, 1) := by decide +kernel
theorem d_P_countHeldBy_30 : decode b_P_countHeldBy 30 = .ok (.getfield 85, 3) := by decide +kernel
theorem d_P_countHeldBy_33 : decode b_P_countHeldBy 33 = .ok (.if_icmp .ne 6, 3) := by decide +kernel
theorem d_P_countHeldBy_36 : decode b_P_countHeldBy 36 = .ok (.iinc 2 1, 3) := by decide +kernel
theorem d_P_countHeldBy_39 : decode b_P_countHeldBy 39 = .ok (.iinc 5 1, 3) := by decide +kernel
theorem d_P_countHeldBy_42 : decode b_P_countHeldBy 42 = .ok (.goto (-28), 3) := by decide +kernel
theorem d_P_countHeldBy_45 : decode b_P_countHeldBy 45 = .ok (.iload_n 2, 1) := by decide +kernel
theorem d_P_countHeldBy_46 : decode b_P_countHeldBy 46 = .ok (.ireturn, 1) := by decide +kernel
theorem d_P_raise_0 : decode b_P_raise 0 = .ok (.aload_n 0, 1) := by decide +kernel
theorem d_P_raise_1 : decode b_P_raise 1 = .ok (.iconst 0, 1) := by decide +kernel
theorem d_P_raise_2 : decode b_P_raise 2 = .ok (.putfield 127, 3) := by decide +kernel
theorem d_P_raise_5 : decode b_P_raise 5 = .ok (.aload_n 0, 1) := by decide +kernel
theorem d_P_raise_6 : decode b_P_raise 6 = .ok (.invokevirtual 130, 3) := by decide +kernel
theorem d_P_raise_9 : decode b_P_raise 9 = .ok (.istore_n 3, 1) := by decide +kernel
theorem d_P_raise_10 : decode b_P_raise 10 = .ok (.aload_n 0, 1) := by decide +kernel
theorem d_P_raise_11 : decode b_P_raise 11 = .ok (.aload_n 0, 1) := by decide +kernel
theorem d_P_raise_12 : decode b_P_raise 12 = .ok (.iload_n 3, 1) := by decide +kernel
theorem d_P_raise_13 : decode b_P_raise 13 = .ok (.invokevirtual 134, 3) := by decide +kernel
theorem d_P_raise_16 : decode b_P_raise 16 = .ok (.aload_n 1, 1) := by decide +kernel
theorem d_P_raise_17 : decode b_P_raise 17 = .ok (.invokevirtual 138, 3) := by decide +kernel
theorem d_P_raise_20 : decode b_P_raise 20 = .ok (.istore 4, 2) := by decide +kernel
theorem d_P_raise_22 : decode b_P_raise 22 = .ok (.aload_n 0, 1) := by decide +kernel
theorem d_P_raise_23 : decode b_P_raise 23 = .ok (.getfield 41, 3) := by decide +kernel
theorem d_P_raise_26 : decode b_P_raise 26 = .ok (.aload_n 1, 1) := by decide +kernel
theorem d_P_raise_27 : decode b_P_raise 27 = .ok (.getfield 85, 3) := by decide +kernel
theorem d_P_raise_30 : decode b_P_raise 30 = .ok (.iload_n 2, 1) := by decide +kernel
theorem d_P_raise_31 : decode b_P_raise 31 = .ok (.iload_n 3, 1) := by decide +kernel
theorem d_P_raise_32 : decode b_P_raise 32 = .ok (.iload 4, 2) := by decide +kernel
theorem d_P_raise_34 : decode b_P_raise 34 = .ok (.invokevirtual 142, 3) := by decide +kernel
theorem d_P_raise_37 : decode b_P_raise 37 = .ok (.iload 4, 2) := by decide +kernel
theorem d_P_raise_39 : decode b_P_raise 39 = .ok (.ireturn, 1) := by decide +kernel
theorem d_P_decidingLevel_0 : decode b_P_decidingLevel 0 = .ok (.iconst 0, 1) := by decide +kernel
theorem d_P_decidingLevel_1 : decode b_P_decidingLevel 1 = .ok (.istore_n 1, 1) := by decide +kernel
theorem d_P_decidingLevel_2 : decode b_P_decidingLevel 2 = .ok (.iload_n 1, 1) := by decide +kernel
theorem d_P_decidingLevel_3 : decode b_P_decidingLevel 3 = .ok (.iconst 3, 1) := by decide +kernel
theorem d_P_decidingLevel_4 : decode b_P_decidingLevel 4 = .ok (.if_icmp .ge 29, 3) := by decide +kernel
theorem d_P_decidingLevel_7 : decode b_P_decidingLevel 7 = .ok (.aload_n 0, 1) := by decide +kernel
theorem d_P_decidingLevel_8 : decode b_P_decidingLevel 8 = .ok (.getfield 28, 3) := by decide +kernel
theorem d_P_decidingLevel_11 : decode b_P_decidingLevel 11 = .ok (.iload_n 1, 1) := by decide +kernel
theorem d_P_decidingLevel_12 : decode b_P_decidingLevel 12 = .ok (.baload, 1) := by decide +kernel
theorem d_P_decidingLevel_13 : decode b_P_decidingLevel 13 = .ok (.ifCond .ne 12, 3) := by decide +kernel
theorem d_P_decidingLevel_16 : decode b_P_decidingLevel 16 = .ok (.aload_n 0, 1) := by decide +kernel
theorem d_P_decidingLevel_17 : decode b_P_decidingLevel 17 = .ok (.getfield 25, 3) := by decide +kernel
theorem d_P_decidingLevel_20 : decode b_P_decidingLevel 20 = .ok (.iload_n 1, 1) := by decide +kernel
theorem d_P_decidingLevel_21 : decode b_P_decidingLevel 21 = .ok (.iaload, 1) := by decide +kernel
theorem d_P_decidingLevel_22 : decode b_P_decidingLevel 22 = .ok (.ifCond .eq 5, 3) := by decide +kernel
theorem d_P_decidingLevel_25 : decode b_P_decidingLevel 25 = .ok (.iload_n 1, 1) := by decide +kernel
theorem d_P_decidingLevel_26 : decode b_P_decidingLevel 26 = .ok (.ireturn, 1) := by decide +kernel
theorem d_P_decidingLevel_27 : decode b_P_decidingLevel 27 = .ok (.iinc 1 1, 3) := by decide +kernel
theorem d_P_decidingLevel_30 : decode b_P_decidingLevel 30 = .ok (.goto (-28), 3) := by decide +kernel
theorem d_P_decidingLevel_33 : decode b_P_decidingLevel 33 = .ok (.iconst 3, 1) := by decide +kernel
theorem d_P_decidingLevel_34 : decode b_P_decidingLevel 34 = .ok (.ireturn, 1) := by decide +kernel
theorem d_P_reactionAskedAt_0 : decode b_P_reactionAskedAt 0 = .ok (.iload_n 1, 1) := by decide +kernel
theorem d_P_reactionAskedAt_1 : decode b_P_reactionAskedAt 1 = .ok (.ifCond .lt 8, 3) := by decide +kernel
theorem d_P_reactionAskedAt_4 : decode b_P_reactionAskedAt 4 = .ok (.iload_n 1, 1) := by decide +kernel
theorem d_P_reactionAskedAt_5 : decode b_P_reactionAskedAt 5 = .ok (.iconst 3, 1) := by decide +kernel
theorem d_P_reactionAskedAt_6 : decode b_P_reactionAskedAt 6 = .ok (.if_icmp .lt 5, 3) := by decide +kernel
theorem d_P_reactionAskedAt_9 : decode b_P_reactionAskedAt 9 = .ok (.iconst 2, 1) := by decide +kernel
theorem d_P_reactionAskedAt_10 : decode b_P_reactionAskedAt 10 = .ok (.ireturn, 1) := by decide +kernel
theorem d_P_reactionAskedAt_11 : decode b_P_reactionAskedAt 11 = .ok (.aload_n 0, 1) := by decide +kernel
theorem d_P_reactionAskedAt_12 : decode b_P_reactionAskedAt 12 = .ok (.getfield 28, 3) := by decide +kernel
theorem d_P_reactionAskedAt_15 : decode b_P_reactionAskedAt 15 = .ok (.iload_n 1, 1) := by decide +kernel
theorem d_P_reactionAskedAt_16 : decode b_P_reactionAskedAt 16 = .ok (.baload, 1) := by decide +kernel
theorem d_P_reactionAskedAt_17 : decode b_P_reactionAskedAt 17 = .ok (.ifCond .eq 7, 3) := by decide +kernel
theorem d_P_reactionAskedAt_20 : decode b_P_reactionAskedAt 20 = .ok (.iconst 5, 1) := by decide +kernel
theorem d_P_reactionAskedAt_21 : decode b_P_reactionAskedAt 21 = .ok (.goto 9, 3) := by decide +kernel
theorem d_P_reactionAskedAt_24 : decode b_P_reactionAskedAt 24 = .ok (.aload_n 0, 1) := by decide +kernel
theorem d_P_reactionAskedAt_25 : decode b_P_reactionAskedAt 25 = .ok (.getfield 25, 3) := by decide +kernel
theorem d_P_reactionAskedAt_28 : decode b_P_reactionAskedAt 28 = .ok (.iload_n 1, 1) := by decide +kernel
theorem d_P_reactionAskedAt_29 : decode b_P_reactionAskedAt 29 = .ok (.iaload, 1) := by decide +kernel
theorem d_P_reactionAskedAt_30 : decode b_P_reactionAskedAt 30 = .ok (.ireturn, 1) := by decide +kernel
theorem d_P_carryOut_0 : decode b_P_carryOut 0 = .ok (.iload_n 1, 1) := by decide +kernel
theorem d_P_carryOut_1 : decode b_P_carryOut 1 = .ok (.iconst 5, 1) := by decide +kernel
theorem d_P_carryOut_2 : decode b_P_carryOut 2 = .ok (.if_icmp .ne 10, 3) := by decide +kernel
theorem d_P_carryOut_5 : decode b_P_carryOut 5 = .ok (.aload_n 0, 1) := by decide +kernel
theorem d_P_carryOut_6 : decode b_P_carryOut 6 = .ok (.invokevirtual 146, 3) := by decide +kernel
theorem d_P_carryOut_9 : decode b_P_carryOut 9 = .ok (.goto 34, 3) := by decide +kernel
theorem d_P_carryOut_12 : decode b_P_carryOut 12 = .ok (.iload_n 1, 1) := by decide +kernel
theorem d_P_carryOut_13 : decode b_P_carryOut 13 = .ok (.iconst 2, 1) := by decide +kernel
theorem d_P_carryOut_14 : decode b_P_carryOut 14 = .ok (.if_icmp .ne 11, 3) := by decide +kernel
theorem d_P_carryOut_17 : decode b_P_carryOut 17 = .ok (.aload_n 0, 1) := by decide +kernel
theorem d_P_carryOut_18 : decode b_P_carryOut 18 = .ok (.aload_n 2, 1) := by decide +kernel
theorem d_P_carryOut_19 : decode b_P_carryOut 19 = .ok (.invokevirtual 149, 3) := by decide +kernel
theorem d_P_carryOut_22 : decode b_P_carryOut 22 = .ok (.goto 21, 3) := by decide +kernel
theorem d_P_carryOut_25 : decode b_P_carryOut 25 = .ok (.iload_n 1, 1) := by decide +kernel
theorem d_P_carryOut_26 : decode b_P_carryOut 26 = .ok (.iconst 3, 1) := by decide +kernel
theorem d_P_carryOut_27 : decode b_P_carryOut 27 = .ok (.if_icmp .eq 8, 3) := by decide +kernel
theorem d_P_carryOut_30 : decode b_P_carryOut 30 = .ok (.iload_n 1, 1) := by decide +kernel
theorem d_P_carryOut_31 : decode b_P_carryOut 31 = .ok (.iconst 4, 1) := by decide +kernel
theorem d_P_carryOut_32 : decode b_P_carryOut 32 = .ok (.if_icmp .ne 11, 3) := by decide +kernel
theorem d_P_carryOut_35 : decode b_P_carryOut 35 = .ok (.aload_n 0, 1) := by decide +kernel
theorem d_P_carryOut_36 : decode b_P_carryOut 36 = .ok (.aload_n 2, 1) := by decide +kernel
theorem d_P_carryOut_37 : decode b_P_carryOut 37 = .ok (.getfield 117, 3) := by decide +kernel
theorem d_P_carryOut_40 : decode b_P_carryOut 40 = .ok (.invokevirtual 153, 3) := by decide +kernel
theorem d_P_carryOut_43 : decode b_P_carryOut 43 = .ok (.aload_n 0, 1) := by decide +kernel
theorem d_P_carryOut_44 : decode b_P_carryOut 44 = .ok (.getfield 44, 3) := by decide +kernel
theorem d_P_carryOut_47 : decode b_P_carryOut 47 = .ok (.ifCond .ne 5, 3) := by decide +kernel
theorem d_P_carryOut_50 : decode b_P_carryOut 50 = .ok (.iconst 5, 1) := by decide +kernel
theorem d_P_carryOut_51 : decode b_P_carryOut 51 = .ok (.ireturn, 1) := by decide +kernel
theorem d_P_carryOut_52 : decode b_P_carryOut 52 = .ok (.iload_n 1, 1) := by decide +kernel
theorem d_P_carryOut_53 : decode b_P_carryOut 53 = .ok (.iconst 4, 1) := by decide +kernel
theorem d_P_carryOut_54 : decode b_P_carryOut 54 = .ok (.if_icmp .ne 23, 3) := by decide +kernel
theorem d_P_carryOut_57 : decode b_P_carryOut 57 = .ok (.aload_n 2, 1) := by decide +kernel
theorem d_P_carryOut_58 : decode b_P_carryOut 58 = .ok (.getfield 117, 3) := by decide +kernel
theorem d_P_carryOut_61 : decode b_P_carryOut 61 = .ok (.getfield 157, 3) := by decide +kernel
theorem d_P_carryOut_64 : decode b_P_carryOut 64 = .ok (.ifCond .le 13, 3) := by decide +kernel
theorem d_P_carryOut_67 : decode b_P_carryOut 67 = .ok (.aload_n 0, 1) := by decide +kernel
theorem d_P_carryOut_68 : decode b_P_carryOut 68 = .ok (.aload_n 2, 1) := by decide +kernel
theorem d_P_carryOut_69 : decode b_P_carryOut 69 = .ok (.getfield 117, 3) := by decide +kernel
theorem d_P_carryOut_72 : decode b_P_carryOut 72 = .ok (.invokevirtual 160, 3) := by decide +kernel
theorem d_P_carryOut_75 : decode b_P_carryOut 75 = .ok (.iconst 4, 1) := by decide +kernel
theorem d_P_carryOut_76 : decode b_P_carryOut 76 = .ok (.ireturn, 1) := by decide +kernel
theorem d_P_carryOut_77 : decode b_P_carryOut 77 = .ok (.iload_n 1, 1) := by decide +kernel
theorem d_P_carryOut_78 : decode b_P_carryOut 78 = .ok (.iconst 3, 1) := by decide +kernel
theorem d_P_carryOut_79 : decode b_P_carryOut 79 = .ok (.if_icmp .eq 8, 3) := by decide +kernel
theorem d_P_carryOut_82 : decode b_P_carryOut 82 = .ok (.iload_n 1, 1) := by decide +kernel
theorem d_P_carryOut_83 : decode b_P_carryOut 83 = .ok (.iconst 4, 1) := by decide +kernel
theorem d_P_carryOut_84 : decode b_P_carryOut 84 = .ok (.if_icmp .ne 13, 3) := by decide +kernel
theorem d_P_carryOut_87 : decode b_P_carryOut 87 = .ok (.aload_n 2, 1) := by decide +kernel
theorem d_P_carryOut_88 : decode b_P_carryOut 88 = .ok (.getfield 117, 3) := by decide +kernel
theorem d_P_carryOut_91 : decode b_P_carryOut 91 = .ok (.iconst 1, 1) := by decide +kernel
theorem d_P_carryOut_92 : decode b_P_carryOut 92 = .ok (.putfield 59, 3) := by decide +kernel
theorem d_P_carryOut_95 : decode b_P_carryOut 95 = .ok (.iconst 3, 1) := by decide +kernel
theorem d_P_carryOut_96 : decode b_P_carryOut 96 = .ok (.ireturn, 1) := by decide +kernel
theorem d_P_carryOut_97 : decode b_P_carryOut 97 = .ok (.iload_n 1, 1) := by decide +kernel
theorem d_P_carryOut_98 : decode b_P_carryOut 98 = .ok (.ireturn, 1) := by decide +kernel
theorem d_P_endTasksOf_0 : decode b_P_endTasksOf 0 = .ok (.aload_n 0, 1) := by decide +kernel
theorem d_P_endTasksOf_1 : decode b_P_endTasksOf 1 = .ok (.getfield 17, 3) := by decide +kernel
theorem d_P_endTasksOf_4 : decode b_P_endTasksOf 4 = .ok (.astore_n 2, 1) := by decide +kernel
theorem d_P_endTasksOf_5 : decode b_P_endTasksOf 5 = .ok (.aload_n 2, 1) := by decide +kernel
theorem d_P_endTasksOf_6 : decode b_P_endTasksOf 6 = .ok (.arraylength, 1) := by decide +kernel
theorem d_P_endTasksOf_7 : decode b_P_endTasksOf 7 = .ok (.istore_n 3, 1) := by decide +kernel
theorem d_P_endTasksOf_8 : decode b_P_endTasksOf 8 = .ok (.iconst 0, 1) := by decide +kernel
theorem d_P_endTasksOf_9 : decode b_P_endTasksOf 9 = .ok (.istore 4, 2) := by decide +kernel
theorem d_P_endTasksOf_11 : decode b_P_endTasksOf 11 = .ok (.iload 4, 2) := by decide +kernel
theorem d_P_endTasksOf_13 : decode b_P_endTasksOf 13 = .ok (.iload_n 3, 1) := by decide +kernel
theorem d_P_endTasksOf_14 : decode b_P_endTasksOf 14 = .ok (.if_icmp .ge 50, 3) := by decide +kernel
theorem d_P_endTasksOf_17 : decode b_P_endTasksOf 17 = .ok (.aload_n 2, 1) := by decide +kernel
theorem d_P_endTasksOf_18 : decode b_P_endTasksOf 18 = .ok (.iload 4, 2) := by decide +kernel
theorem d_P_endTasksOf_20 : decode b_P_endTasksOf 20 = .ok (.aaload, 1) := by decide +kernel
theorem d_P_endTasksOf_21 : decode b_P_endTasksOf 21 = .ok (.astore 5, 2) := by decide +kernel
theorem d_P_endTasksOf_23 : decode b_P_endTasksOf 23 = .ok (.aload_n 0, 1) := by decide +kernel
theorem d_P_endTasksOf_24 : decode b_P_endTasksOf 24 = .ok (.getfield 44, 3) := by decide +kernel
theorem d_P_endTasksOf_27 : decode b_P_endTasksOf 27 = .ok (.ifCond .eq 31, 3) := by decide +kernel
theorem d_P_endTasksOf_30 : decode b_P_endTasksOf 30 = .ok (.aload 5, 2) := by decide +kernel
theorem d_P_endTasksOf_32 : decode b_P_endTasksOf 32 = .ok (.ifnull 26, 3) := by decide +kernel
theorem d_P_endTasksOf_35 : decode b_P_endTasksOf 35 = .ok (.aload 5, 2) := by decide +kernel
theorem d_P_endTasksOf_37 : decode b_P_endTasksOf 37 = .ok (.getfield 117, 3) := by decide +kernel
theorem d_P_endTasksOf_40 : decode b_P_endTasksOf 40 = .ok (.aload_n 1, 1) := by decide +kernel
theorem d_P_endTasksOf_41 : decode b_P_endTasksOf 41 = .ok (.if_acmp .ne 17, 3) := by decide +kernel
theorem d_P_endTasksOf_44 : decode b_P_endTasksOf 44 = .ok (.aload 5, 2) := by decide +kernel
theorem d_P_endTasksOf_46 : decode b_P_endTasksOf 46 = .ok (.getfield 124, 3) := by decide +kernel
theorem d_P_endTasksOf_49 : decode b_P_endTasksOf 49 = .ok (.ifCond .eq 9, 3) := by decide +kernel
theorem d_P_endTasksOf_52 : decode b_P_endTasksOf 52 = .ok (.aload_n 0, 1) := by decide +kernel
theorem d_P_endTasksOf_53 : decode b_P_endTasksOf 53 = .ok (.aload 5, 2) := by decide +kernel
theorem d_P_endTasksOf_55 : decode b_P_endTasksOf 55 = .ok (.invokevirtual 149, 3) := by decide +kernel
theorem d_P_endTasksOf_58 : decode b_P_endTasksOf 58 = .ok (.iinc 4 1, 3) := by decide +kernel
theorem d_P_endTasksOf_61 : decode b_P_endTasksOf 61 = .ok (.goto (-50), 3) := by decide +kernel
theorem d_P_endTasksOf_64 : decode b_P_endTasksOf 64 = .ok (.return_, 1) := by decide +kernel
theorem d_P_endTask_0 : decode b_P_endTask 0 = .ok (.aload_n 1, 1) := by decide +kernel
theorem d_P_endTask_1 : decode b_P_endTask 1 = .ok (.iconst 0, 1) := by decide +kernel
theorem d_P_endTask_2 : decode b_P_endTask 2 = .ok (.putfield 124, 3) := by decide +kernel
theorem d_P_endTask_5 : decode b_P_endTask 5 = .ok (.iconst 0, 1) := by decide +kernel
theorem d_P_endTask_6 : decode b_P_endTask 6 = .ok (.istore_n 2, 1) := by decide +kernel
theorem d_P_endTask_7 : decode b_P_endTask 7 = .ok (.iload_n 2, 1) := by decide +kernel
theorem d_P_endTask_8 : decode b_P_endTask 8 = .ok (.sipush 128, 3) := by decide +kernel
theorem d_P_endTask_11 : decode b_P_endTask 11 = .ok (.if_icmp .ge 35, 3) := by decide +kernel
theorem d_P_endTask_14 : decode b_P_endTask 14 = .ok (.aload_n 0, 1) := by decide +kernel
theorem d_P_endTask_15 : decode b_P_endTask 15 = .ok (.getfield 44, 3) := by decide +kernel
theorem d_P_endTask_18 : decode b_P_endTask 18 = .ok (.ifCond .eq 28, 3) := by decide +kernel
theorem d_P_endTask_21 : decode b_P_endTask 21 = .ok (.aload_n 0, 1) := by decide +kernel
theorem d_P_endTask_22 : decode b_P_endTask 22 = .ok (.getfield 21, 3) := by decide +kernel
theorem d_P_endTask_25 : decode b_P_endTask 25 = .ok (.iload_n 2, 1) := by decide +kernel
theorem d_P_endTask_26 : decode b_P_endTask 26 = .ok (.iaload, 1) := by decide +kernel
theorem d_P_endTask_27 : decode b_P_endTask 27 = .ok (.aload_n 1, 1) := by decide +kernel
theorem d_P_endTask_28 : decode b_P_endTask 28 = .ok (.getfield 85, 3) := by decide +kernel
theorem d_P_endTask_31 : decode b_P_endTask 31 = .ok (.if_icmp .ne 9, 3) := by decide +kernel
theorem d_P_endTask_34 : decode b_P_endTask 34 = .ok (.aload_n 0, 1) := by decide +kernel
theorem d_P_endTask_35 : decode b_P_endTask 35 = .ok (.iload_n 2, 1) := by decide +kernel
theorem d_P_endTask_36 : decode b_P_endTask 36 = .ok (.aload_n 1, 1) := by decide +kernel
theorem d_P_endTask_37 : decode b_P_endTask 37 = .ok (.invokevirtual 163, 3) := by decide +kernel
theorem d_P_endTask_40 : decode b_P_endTask 40 = .ok (.iinc 2 1, 3) := by decide +kernel
theorem d_P_endTask_43 : decode b_P_endTask 43 = .ok (.goto (-36), 3) := by decide +kernel
theorem d_P_endTask_46 : decode b_P_endTask 46 = .ok (.return_, 1) := by decide +kernel
theorem d_P_clean_0 : decode b_P_clean 0 = .ok (.iload_n 1, 1) := by decide +kernel
theorem d_P_clean_1 : decode b_P_clean 1 = .ok (.bipush 32, 2) := by decide +kernel
theorem d_P_clean_3 : decode b_P_clean 3 = .ok (.idiv, 1) := by decide +kernel
theorem d_P_clean_4 : decode b_P_clean 4 = .ok (.istore_n 3, 1) := by decide +kernel
theorem d_P_clean_5 : decode b_P_clean 5 = .ok (.aload_n 0, 1) := by decide +kernel
theorem d_P_clean_6 : decode b_P_clean 6 = .ok (.getfield 21, 3) := by decide +kernel
theorem d_P_clean_9 : decode b_P_clean 9 = .ok (.iload_n 1, 1) := by decide +kernel
theorem d_P_clean_10 : decode b_P_clean 10 = .ok (.iconst 0, 1) := by decide +kernel
theorem d_P_clean_11 : decode b_P_clean 11 = .ok (.iastore, 1) := by decide +kernel
theorem d_P_clean_12 : decode b_P_clean 12 = .ok (.aload_n 0, 1) := by decide +kernel
theorem d_P_clean_13 : decode b_P_clean 13 = .ok (.getfield 37, 3) := by decide +kernel
theorem d_P_clean_16 : decode b_P_clean 16 = .ok (.aload_n 2, 1) := by decide +kernel
theorem d_P_clean_17 : decode b_P_clean 17 = .ok (.getfield 85, 3) := by decide +kernel
theorem d_P_clean_20 : decode b_P_clean 20 = .ok (.iload_n 3, 1) := by decide +kernel
theorem d_P_clean_21 : decode b_P_clean 21 = .ok (.iload_n 1, 1) := by decide +kernel
theorem d_P_clean_22 : decode b_P_clean 22 = .ok (.bipush 32, 2) := by decide +kernel
theorem d_P_clean_24 : decode b_P_clean 24 = .ok (.irem, 1) := by decide +kernel
theorem d_P_clean_25 : decode b_P_clean 25 = .ok (.iconst 1, 1) := by decide +kernel
theorem d_P_clean_26 : decode b_P_clean 26 = .ok (.iadd, 1) := by decide +kernel
theorem d_P_clean_27 : decode b_P_clean 27 = .ok (.iconst 0, 1) := by decide +kernel
theorem d_P_clean_28 : decode b_P_clean 28 = .ok (.invokevirtual 142, 3) := by decide +kernel
theorem d_P_clean_31 : decode b_P_clean 31 = .ok (.iload_n 3, 1) := by decide +kernel
theorem d_P_clean_32 : decode b_P_clean 32 = .ok (.iconst 3, 1) := by decide +kernel
theorem d_P_clean_33 : decode b_P_clean 33 = .ok (.if_icmp .ne 19, 3) := by decide +kernel
theorem d_P_clean_36 : decode b_P_clean 36 = .ok (.aload_n 0, 1) := by decide +kernel
theorem d_P_clean_37 : decode b_P_clean 37 = .ok (.getfield 127, 3) := by decide +kernel
theorem d_P_clean_40 : decode b_P_clean 40 = .ok (.ifCond .eq 7, 3) := by decide +kernel
theorem d_P_clean_43 : decode b_P_clean 43 = .ok (.aload_n 0, 1) := by decide +kernel
theorem d_P_clean_44 : decode b_P_clean 44 = .ok (.invokevirtual 146, 3) := by decide +kernel
theorem d_P_clean_47 : decode b_P_clean 47 = .ok (.aload_n 0, 1) := by decide +kernel
theorem d_P_clean_48 : decode b_P_clean 48 = .ok (.iconst 1, 1) := by decide +kernel
theorem d_P_clean_49 : decode b_P_clean 49 = .ok (.putfield 127, 3) := by decide +kernel
theorem d_P_clean_52 : decode b_P_clean 52 = .ok (.return_, 1) := by decide +kernel
theorem d_P_startAgain_0 : decode b_P_startAgain 0 = .ok (.aload_n 1, 1) := by decide +kernel
theorem d_P_startAgain_1 : decode b_P_startAgain 1 = .ok (.dup, 1) := by decide +kernel
theorem d_P_startAgain_2 : decode b_P_startAgain 2 = .ok (.getfield 157, 3) := by decide +kernel
theorem d_P_startAgain_5 : decode b_P_startAgain 5 = .ok (.iconst 1, 1) := by decide +kernel
theorem d_P_startAgain_6 : decode b_P_startAgain 6 = .ok (.isub, 1) := by decide +kernel
theorem d_P_startAgain_7 : decode b_P_startAgain 7 = .ok (.putfield 157, 3) := by decide +kernel
theorem d_P_startAgain_10 : decode b_P_startAgain 10 = .ok (.aload_n 0, 1) := by decide +kernel
theorem d_P_startAgain_11 : decode b_P_startAgain 11 = .ok (.getfield 17, 3) := by decide +kernel
theorem d_P_startAgain_14 : decode b_P_startAgain 14 = .ok (.astore_n 2, 1) := by decide +kernel
theorem d_P_startAgain_15 : decode b_P_startAgain 15 = .ok (.aload_n 2, 1) := by decide +kernel
theorem d_P_startAgain_16 : decode b_P_startAgain 16 = .ok (.arraylength, 1) := by decide +kernel
theorem d_P_startAgain_17 : decode b_P_startAgain 17 = .ok (.istore_n 3, 1) := by decide +kernel
theorem d_P_startAgain_18 : decode b_P_startAgain 18 = .ok (.iconst 0, 1) := by decide +kernel
theorem d_P_startAgain_19 : decode b_P_startAgain 19 = .ok (.istore 4, 2) := by decide +kernel
theorem d_P_startAgain_21 : decode b_P_startAgain 21 = .ok (.iload 4, 2) := by decide +kernel
theorem d_P_startAgain_23 : decode b_P_startAgain 23 = .ok (.iload_n 3, 1) := by decide +kernel
theorem d_P_startAgain_24 : decode b_P_startAgain 24 = .ok (.if_icmp .ge 35, 3) := by decide +kernel
theorem d_P_startAgain_27 : decode b_P_startAgain 27 = .ok (.aload_n 2, 1) := by decide +kernel
theorem d_P_startAgain_28 : decode b_P_startAgain 28 = .ok (.iload 4, 2) := by decide +kernel
theorem d_P_startAgain_30 : decode b_P_startAgain 30 = .ok (.aaload, 1) := by decide +kernel
theorem d_P_startAgain_31 : decode b_P_startAgain 31 = .ok (.astore 5, 2) := by decide +kernel
theorem d_P_startAgain_33 : decode b_P_startAgain 33 = .ok (.aload 5, 2) := by decide +kernel
theorem d_P_startAgain_35 : decode b_P_startAgain 35 = .ok (.ifnull 18, 3) := by decide +kernel
theorem d_P_startAgain_38 : decode b_P_startAgain 38 = .ok (.aload 5, 2) := by decide +kernel
theorem d_P_startAgain_40 : decode b_P_startAgain 40 = .ok (.getfield 117, 3) := by decide +kernel
theorem d_P_startAgain_43 : decode b_P_startAgain 43 = .ok (.aload_n 1, 1) := by decide +kernel
theorem d_P_startAgain_44 : decode b_P_startAgain 44 = .ok (.if_acmp .ne 9, 3) := by decide +kernel
theorem d_P_startAgain_47 : decode b_P_startAgain 47 = .ok (.aload 5, 2) := by decide +kernel
theorem d_P_startAgain_49 : decode b_P_startAgain 49 = .ok (.iconst 1, 1) := by decide +kernel
theorem d_P_startAgain_50 : decode b_P_startAgain 50 = .ok (.putfield 124, 3) := by decide +kernel
theorem d_P_startAgain_53 : decode b_P_startAgain 53 = .ok (.iinc 4 1, 3) := by decide +kernel
theorem d_P_startAgain_56 : decode b_P_startAgain 56 = .ok (.goto (-35), 3) := by decide +kernel
theorem d_P_startAgain_59 : decode b_P_startAgain 59 = .ok (.return_, 1) := by decide +kernel
theorem d_P_shutDown_0 : decode b_P_shutDown 0 = .ok (.aload_n 0, 1) := by decide +kernel
theorem d_P_shutDown_1 : decode b_P_shutDown 1 = .ok (.iconst 0, 1) := by decide +kernel
theorem d_P_shutDown_2 : decode b_P_shutDown 2 = .ok (.putfield 44, 3) := by decide +kernel
theorem d_P_shutDown_5 : decode b_P_shutDown 5 = .ok (.aload_n 0, 1) := by decide +kernel
theorem d_P_shutDown_6 : decode b_P_shutDown 6 = .ok (.getfield 17, 3) := by decide +kernel
theorem d_P_shutDown_9 : decode b_P_shutDown 9 = .ok (.astore_n 1, 1) := by decide +kernel
theorem d_P_shutDown_10 : decode b_P_shutDown 10 = .ok (.aload_n 1, 1) := by decide +kernel
theorem d_P_shutDown_11 : decode b_P_shutDown 11 = .ok (.arraylength, 1) := by decide +kernel
theorem d_P_shutDown_12 : decode b_P_shutDown 12 = .ok (.istore_n 2, 1) := by decide +kernel
theorem d_P_shutDown_13 : decode b_P_shutDown 13 = .ok (.iconst 0, 1) := by decide +kernel
theorem d_P_shutDown_14 : decode b_P_shutDown 14 = .ok (.istore_n 3, 1) := by decide +kernel
theorem d_P_shutDown_15 : decode b_P_shutDown 15 = .ok (.iload_n 3, 1) := by decide +kernel
theorem d_P_shutDown_16 : decode b_P_shutDown 16 = .ok (.iload_n 2, 1) := by decide +kernel
theorem d_P_shutDown_17 : decode b_P_shutDown 17 = .ok (.if_icmp .ge 25, 3) := by decide +kernel
theorem d_P_shutDown_20 : decode b_P_shutDown 20 = .ok (.aload_n 1, 1) := by decide +kernel
theorem d_P_shutDown_21 : decode b_P_shutDown 21 = .ok (.iload_n 3, 1) := by decide +kernel
theorem d_P_shutDown_22 : decode b_P_shutDown 22 = .ok (.aaload, 1) := by decide +kernel
theorem d_P_shutDown_23 : decode b_P_shutDown 23 = .ok (.astore 4, 2) := by decide +kernel
theorem d_P_shutDown_25 : decode b_P_shutDown 25 = .ok (.aload 4, 2) := by decide +kernel
theorem d_P_shutDown_27 : decode b_P_shutDown 27 = .ok (.ifnull 9, 3) := by decide +kernel
theorem d_P_shutDown_30 : decode b_P_shutDown 30 = .ok (.aload 4, 2) := by decide +kernel
theorem d_P_shutDown_32 : decode b_P_shutDown 32 = .ok (.iconst 0, 1) := by decide +kernel
theorem d_P_shutDown_33 : decode b_P_shutDown 33 = .ok (.putfield 124, 3) := by decide +kernel
theorem d_P_shutDown_36 : decode b_P_shutDown 36 = .ok (.iinc 3 1, 3) := by decide +kernel
theorem d_P_shutDown_39 : decode b_P_shutDown 39 = .ok (.goto (-24), 3) := by decide +kernel
theorem d_P_shutDown_42 : decode b_P_shutDown 42 = .ok (.aload_n 0, 1) := by decide +kernel
theorem d_P_shutDown_43 : decode b_P_shutDown 43 = .ok (.getfield 11, 3) := by decide +kernel
theorem d_P_shutDown_46 : decode b_P_shutDown 46 = .ok (.astore_n 1, 1) := by decide +kernel
theorem d_P_shutDown_47 : decode b_P_shutDown 47 = .ok (.aload_n 1, 1) := by decide +kernel
theorem d_P_shutDown_48 : decode b_P_shutDown 48 = .ok (.arraylength, 1) := by decide +kernel
theorem d_P_shutDown_49 : decode b_P_shutDown 49 = .ok (.istore_n 2, 1) := by decide +kernel
theorem d_P_shutDown_50 : decode b_P_shutDown 50 = .ok (.iconst 0, 1) := by decide +kernel
theorem d_P_shutDown_51 : decode b_P_shutDown 51 = .ok (.istore_n 3, 1) := by decide +kernel
theorem d_P_shutDown_52 : decode b_P_shutDown 52 = .ok (.iload_n 3, 1) := by decide +kernel
theorem d_P_shutDown_53 : decode b_P_shutDown 53 = .ok (.iload_n 2, 1) := by decide +kernel
theorem d_P_shutDown_54 : decode b_P_shutDown 54 = .ok (.if_icmp .ge 25, 3) := by decide +kernel
theorem d_P_shutDown_57 : decode b_P_shutDown 57 = .ok (.aload_n 1, 1) := by decide +kernel
theorem d_P_shutDown_58 : decode b_P_shutDown 58 = .ok (.iload_n 3, 1) := by decide +kernel
theorem d_P_shutDown_59 : decode b_P_shutDown 59 = .ok (.aaload, 1) := by decide +kernel
theorem d_P_shutDown_60 : decode b_P_shutDown 60 = .ok (.astore 4, 2) := by decide +kernel
theorem d_P_shutDown_62 : decode b_P_shutDown 62 = .ok (.aload 4, 2) := by decide +kernel
theorem d_P_shutDown_64 : decode b_P_shutDown 64 = .ok (.ifnull 9, 3) := by decide +kernel
theorem d_P_shutDown_67 : decode b_P_shutDown 67 = .ok (.aload 4, 2) := by decide +kernel
theorem d_P_shutDown_69 : decode b_P_shutDown 69 = .ok (.iconst 1, 1) := by decide +kernel
theorem d_P_shutDown_70 : decode b_P_shutDown 70 = .ok (.putfield 59, 3) := by decide +kernel
theorem d_P_shutDown_73 : decode b_P_shutDown 73 = .ok (.iinc 3 1, 3) := by decide +kernel
theorem d_P_shutDown_76 : decode b_P_shutDown 76 = .ok (.goto (-24), 3) := by decide +kernel
theorem d_P_shutDown_79 : decode b_P_shutDown 79 = .ok (.return_, 1) := by decide +kernel
