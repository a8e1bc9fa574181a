theorem d_P_init_0 : decode b_P_init 0 = .ok (.aload_n 0, 1) := by decide +kernel
theorem d_P_init_1 : decode b_P_init 1 = .ok (.invokespecial 3, 3) := by decide +kernel
theorem d_P_init_4 : decode b_P_init 4 = .ok (.aload_n 0, 1) := by decide +kernel
theorem d_P_init_5 : decode b_P_init 5 = .ok (.bipush 16, 2) := by decide +kernel
theorem d_P_init_7 : decode b_P_init 7 = .ok (.anewarray 9, 3) := by decide +kernel
theorem d_P_init_10 : decode b_P_init 10 = .ok (.putfield 11, 3) := by decide +kernel
theorem d_P_init_13 : decode b_P_init 13 = .ok (.aload_n 0, 1) := by decide +kernel
theorem d_P_init_14 : decode b_P_init 14 = .ok (.bipush 60, 2) := by decide +kernel
theorem d_P_init_16 : decode b_P_init 16 = .ok (.anewarray 15, 3) := by decide +kernel
theorem d_P_init_19 : decode b_P_init 19 = .ok (.putfield 17, 3) := by decide +kernel
theorem d_P_init_22 : decode b_P_init 22 = .ok (.aload_n 0, 1) := by decide +kernel
theorem d_P_init_23 : decode b_P_init 23 = .ok (.sipush 128, 3) := by decide +kernel
theorem d_P_init_26 : decode b_P_init 26 = .ok (.newarray .int, 2) := by decide +kernel
theorem d_P_init_28 : decode b_P_init 28 = .ok (.putfield 21, 3) := by decide +kernel
theorem d_P_init_31 : decode b_P_init 31 = .ok (.aload_n 0, 1) := by decide +kernel
theorem d_P_init_32 : decode b_P_init 32 = .ok (.iconst 3, 1) := by decide +kernel
theorem d_P_init_33 : decode b_P_init 33 = .ok (.newarray .int, 2) := by decide +kernel
theorem d_P_init_35 : decode b_P_init 35 = .ok (.putfield 25, 3) := by decide +kernel
theorem d_P_init_38 : decode b_P_init 38 = .ok (.aload_n 0, 1) := by decide +kernel
theorem d_P_init_39 : decode b_P_init 39 = .ok (.iconst 3, 1) := by decide +kernel
theorem d_P_init_40 : decode b_P_init 40 = .ok (.newarray .boolean, 2) := by decide +kernel
theorem d_P_init_42 : decode b_P_init 42 = .ok (.putfield 28, 3) := by decide +kernel
theorem d_P_init_45 : decode b_P_init 45 = .ok (.aload_n 0, 1) := by decide +kernel
theorem d_P_init_46 : decode b_P_init 46 = .ok (.new 32, 3) := by decide +kernel
theorem d_P_init_49 : decode b_P_init 49 = .ok (.dup, 1) := by decide +kernel
theorem d_P_init_50 : decode b_P_init 50 = .ok (.iconst 3, 1) := by decide +kernel
theorem d_P_init_51 : decode b_P_init 51 = .ok (.invokespecial 34, 3) := by decide +kernel
theorem d_P_init_54 : decode b_P_init 54 = .ok (.putfield 37, 3) := by decide +kernel
theorem d_P_init_57 : decode b_P_init 57 = .ok (.aload_n 0, 1) := by decide +kernel
theorem d_P_init_58 : decode b_P_init 58 = .ok (.new 32, 3) := by decide +kernel
theorem d_P_init_61 : decode b_P_init 61 = .ok (.dup, 1) := by decide +kernel
theorem d_P_init_62 : decode b_P_init 62 = .ok (.iconst 4, 1) := by decide +kernel
theorem d_P_init_63 : decode b_P_init 63 = .ok (.invokespecial 34, 3) := by decide +kernel
theorem d_P_init_66 : decode b_P_init 66 = .ok (.putfield 41, 3) := by decide +kernel
theorem d_P_init_69 : decode b_P_init 69 = .ok (.aload_n 0, 1) := by decide +kernel
theorem d_P_init_70 : decode b_P_init 70 = .ok (.iconst 1, 1) := by decide +kernel
theorem d_P_init_71 : decode b_P_init 71 = .ok (.putfield 44, 3) := by decide +kernel
theorem d_P_init_74 : decode b_P_init 74 = .ok (.return_, 1) := by decide +kernel
theorem d_P_application_0 : decode b_P_application 0 = .ok (.iload_n 1, 1) := by decide +kernel
theorem d_P_application_1 : decode b_P_application 1 = .ok (.ifCond .lt 9, 3) := by decide +kernel
theorem d_P_application_4 : decode b_P_application 4 = .ok (.iload_n 1, 1) := by decide +kernel
theorem d_P_application_5 : decode b_P_application 5 = .ok (.bipush 10, 2) := by decide +kernel
theorem d_P_application_7 : decode b_P_application 7 = .ok (.if_icmp .le 6, 3) := by decide +kernel
theorem d_P_application_10 : decode b_P_application 10 = .ok (.bipush (-2), 2) := by decide +kernel
theorem d_P_application_12 : decode b_P_application 12 = .ok (.ireturn, 1) := by decide +kernel
theorem d_P_application_13 : decode b_P_application 13 = .ok (.aload_n 0, 1) := by decide +kernel
theorem d_P_application_14 : decode b_P_application 14 = .ok (.getfield 44, 3) := by decide +kernel
theorem d_P_application_17 : decode b_P_application 17 = .ok (.ifCond .ne 6, 3) := by decide +kernel
theorem d_P_application_20 : decode b_P_application 20 = .ok (.bipush (-3), 2) := by decide +kernel
theorem d_P_application_22 : decode b_P_application 22 = .ok (.ireturn, 1) := by decide +kernel
theorem d_P_application_23 : decode b_P_application 23 = .ok (.aload_n 0, 1) := by decide +kernel
theorem d_P_application_24 : decode b_P_application 24 = .ok (.getfield 48, 3) := by decide +kernel
theorem d_P_application_27 : decode b_P_application 27 = .ok (.bipush 16, 2) := by decide +kernel
theorem d_P_application_29 : decode b_P_application 29 = .ok (.if_icmp .lt 6, 3) := by decide +kernel
theorem d_P_application_32 : decode b_P_application 32 = .ok (.bipush (-4), 2) := by decide +kernel
theorem d_P_application_34 : decode b_P_application 34 = .ok (.ireturn, 1) := by decide +kernel
theorem d_P_application_35 : decode b_P_application 35 = .ok (.aload_n 0, 1) := by decide +kernel
theorem d_P_application_36 : decode b_P_application 36 = .ok (.getfield 11, 3) := by decide +kernel
theorem d_P_application_39 : decode b_P_application 39 = .ok (.aload_n 0, 1) := by decide +kernel
theorem d_P_application_40 : decode b_P_application 40 = .ok (.getfield 48, 3) := by decide +kernel
theorem d_P_application_43 : decode b_P_application 43 = .ok (.new 9, 3) := by decide +kernel
theorem d_P_application_46 : decode b_P_application 46 = .ok (.dup, 1) := by decide +kernel
theorem d_P_application_47 : decode b_P_application 47 = .ok (.iload_n 1, 1) := by decide +kernel
theorem d_P_application_48 : decode b_P_application 48 = .ok (.invokespecial 52, 3) := by decide +kernel
theorem d_P_application_51 : decode b_P_application 51 = .ok (.aastore, 1) := by decide +kernel
theorem d_P_application_52 : decode b_P_application 52 = .ok (.aload_n 0, 1) := by decide +kernel
theorem d_P_application_53 : decode b_P_application 53 = .ok (.dup, 1) := by decide +kernel
theorem d_P_application_54 : decode b_P_application 54 = .ok (.getfield 48, 3) := by decide +kernel
theorem d_P_application_57 : decode b_P_application 57 = .ok (.iconst 1, 1) := by decide +kernel
theorem d_P_application_58 : decode b_P_application 58 = .ok (.iadd, 1) := by decide +kernel
theorem d_P_application_59 : decode b_P_application 59 = .ok (.putfield 48, 3) := by decide +kernel
theorem d_P_application_62 : decode b_P_application 62 = .ok (.aload_n 0, 1) := by decide +kernel
theorem d_P_application_63 : decode b_P_application 63 = .ok (.getfield 48, 3) := by decide +kernel
theorem d_P_application_66 : decode b_P_application 66 = .ok (.ireturn, 1) := by decide +kernel
theorem d_P_task_0 : decode b_P_task 0 = .ok (.aload_n 0, 1) := by decide +kernel
theorem d_P_task_1 : decode b_P_task 1 = .ok (.iload_n 1, 1) := by decide +kernel
theorem d_P_task_2 : decode b_P_task 2 = .ok (.invokevirtual 53, 3) := by decide +kernel
theorem d_P_task_5 : decode b_P_task 5 = .ok (.astore 4, 2) := by decide +kernel
theorem d_P_task_7 : decode b_P_task 7 = .ok (.aload 4, 2) := by decide +kernel
theorem d_P_task_9 : decode b_P_task 9 = .ok (.ifnonnull 5, 3) := by decide +kernel
theorem d_P_task_12 : decode b_P_task 12 = .ok (.iconst (-1), 1) := by decide +kernel
theorem d_P_task_13 : decode b_P_task 13 = .ok (.ireturn, 1) := by decide +kernel
theorem d_P_task_14 : decode b_P_task 14 = .ok (.lload_n 2, 1) := by decide +kernel
theorem d_P_task_15 : decode b_P_task 15 = .ok (.lconst 0, 1) := by decide +kernel
theorem d_P_task_16 : decode b_P_task 16 = .ok (.lcmp, 1) := by decide +kernel
theorem d_P_task_17 : decode b_P_task 17 = .ok (.ifCond .lt 11, 3) := by decide +kernel
theorem d_P_task_20 : decode b_P_task 20 = .ok (.lload_n 2, 1) := by decide +kernel
theorem d_P_task_21 : decode b_P_task 21 = .ok (.ldc2_w 57, 3) := by decide +kernel
theorem d_P_task_24 : decode b_P_task 24 = .ok (.lcmp, 1) := by decide +kernel
theorem d_P_task_25 : decode b_P_task 25 = .ok (.ifCond .le 6, 3) := by decide +kernel
theorem d_P_task_28 : decode b_P_task 28 = .ok (.bipush (-2), 2) := by decide +kernel
theorem d_P_task_30 : decode b_P_task 30 = .ok (.ireturn, 1) := by decide +kernel
theorem d_P_task_31 : decode b_P_task 31 = .ok (.aload_n 0, 1) := by decide +kernel
theorem d_P_task_32 : decode b_P_task 32 = .ok (.getfield 44, 3) := by decide +kernel
theorem d_P_task_35 : decode b_P_task 35 = .ok (.ifCond .eq 11, 3) := by decide +kernel
theorem d_P_task_38 : decode b_P_task 38 = .ok (.aload 4, 2) := by decide +kernel
theorem d_P_task_40 : decode b_P_task 40 = .ok (.getfield 59, 3) := by decide +kernel
theorem d_P_task_43 : decode b_P_task 43 = .ok (.ifCond .eq 6, 3) := by decide +kernel
theorem d_P_task_46 : decode b_P_task 46 = .ok (.bipush (-3), 2) := by decide +kernel
theorem d_P_task_48 : decode b_P_task 48 = .ok (.ireturn, 1) := by decide +kernel
theorem d_P_task_49 : decode b_P_task 49 = .ok (.aload_n 0, 1) := by decide +kernel
theorem d_P_task_50 : decode b_P_task 50 = .ok (.getfield 62, 3) := by decide +kernel
theorem d_P_task_53 : decode b_P_task 53 = .ok (.bipush 60, 2) := by decide +kernel
theorem d_P_task_55 : decode b_P_task 55 = .ok (.if_icmp .lt 6, 3) := by decide +kernel
theorem d_P_task_58 : decode b_P_task 58 = .ok (.bipush (-4), 2) := by decide +kernel
theorem d_P_task_60 : decode b_P_task 60 = .ok (.ireturn, 1) := by decide +kernel
theorem d_P_task_61 : decode b_P_task 61 = .ok (.aload_n 0, 1) := by decide +kernel
theorem d_P_task_62 : decode b_P_task 62 = .ok (.getfield 17, 3) := by decide +kernel
theorem d_P_task_65 : decode b_P_task 65 = .ok (.aload_n 0, 1) := by decide +kernel
theorem d_P_task_66 : decode b_P_task 66 = .ok (.getfield 62, 3) := by decide +kernel
theorem d_P_task_69 : decode b_P_task 69 = .ok (.new 15, 3) := by decide +kernel
theorem d_P_task_72 : decode b_P_task 72 = .ok (.dup, 1) := by decide +kernel
theorem d_P_task_73 : decode b_P_task 73 = .ok (.aload_n 0, 1) := by decide +kernel
theorem d_P_task_74 : decode b_P_task 74 = .ok (.getfield 62, 3) := by decide +kernel
theorem d_P_task_77 : decode b_P_task 77 = .ok (.iconst 1, 1) := by decide +kernel
theorem d_P_task_78 : decode b_P_task 78 = .ok (.iadd, 1) := by decide +kernel
theorem d_P_task_79 : decode b_P_task 79 = .ok (.aload 4, 2) := by decide +kernel
theorem d_P_task_81 : decode b_P_task 81 = .ok (.lload_n 2, 1) := by decide +kernel
theorem d_P_task_82 : decode b_P_task 82 = .ok (.invokespecial 65, 3) := by decide +kernel
theorem d_P_task_85 : decode b_P_task 85 = .ok (.aastore, 1) := by decide +kernel
theorem d_P_task_86 : decode b_P_task 86 = .ok (.aload_n 0, 1) := by decide +kernel
theorem d_P_task_87 : decode b_P_task 87 = .ok (.dup, 1) := by decide +kernel
theorem d_P_task_88 : decode b_P_task 88 = .ok (.getfield 62, 3) := by decide +kernel
theorem d_P_task_91 : decode b_P_task 91 = .ok (.iconst 1, 1) := by decide +kernel
theorem d_P_task_92 : decode b_P_task 92 = .ok (.iadd, 1) := by decide +kernel
theorem d_P_task_93 : decode b_P_task 93 = .ok (.putfield 62, 3) := by decide +kernel
theorem d_P_task_96 : decode b_P_task 96 = .ok (.aload_n 0, 1) := by decide +kernel
theorem d_P_task_97 : decode b_P_task 97 = .ok (.getfield 62, 3) := by decide +kernel
theorem d_P_task_100 : decode b_P_task 100 = .ok (.ireturn, 1) := by decide +kernel
theorem d_P_region_0 : decode b_P_region 0 = .ok (.aload_n 0, 1) := by decide +kernel
theorem d_P_region_1 : decode b_P_region 1 = .ok (.iload_n 1, 1) := by decide +kernel
theorem d_P_region_2 : decode b_P_region 2 = .ok (.invokevirtual 53, 3) := by decide +kernel
theorem d_P_region_5 : decode b_P_region 5 = .ok (.astore 6, 2) := by decide +kernel
theorem d_P_region_7 : decode b_P_region 7 = .ok (.aload 6, 2) := by decide +kernel
theorem d_P_region_9 : decode b_P_region 9 = .ok (.ifnonnull 5, 3) := by decide +kernel
theorem d_P_region_12 : decode b_P_region 12 = .ok (.iconst (-1), 1) := by decide +kernel
theorem d_P_region_13 : decode b_P_region 13 = .ok (.ireturn, 1) := by decide +kernel
theorem d_P_region_14 : decode b_P_region 14 = .ok (.lload_n 2, 1) := by decide +kernel
theorem d_P_region_15 : decode b_P_region 15 = .ok (.lconst 0, 1) := by decide +kernel
theorem d_P_region_16 : decode b_P_region 16 = .ok (.lcmp, 1) := by decide +kernel
theorem d_P_region_17 : decode b_P_region 17 = .ok (.ifCond .lt 27, 3) := by decide +kernel
theorem d_P_region_20 : decode b_P_region 20 = .ok (.lload_n 2, 1) := by decide +kernel
theorem d_P_region_21 : decode b_P_region 21 = .ok (.ldc2_w 68, 3) := by decide +kernel
theorem d_P_region_24 : decode b_P_region 24 = .ok (.lcmp, 1) := by decide +kernel
theorem d_P_region_25 : decode b_P_region 25 = .ok (.ifCond .gt 19, 3) := by decide +kernel
theorem d_P_region_28 : decode b_P_region 28 = .ok (.lload 4, 2) := by decide +kernel
theorem d_P_region_30 : decode b_P_region 30 = .ok (.lconst 1, 1) := by decide +kernel
theorem d_P_region_31 : decode b_P_region 31 = .ok (.lcmp, 1) := by decide +kernel
theorem d_P_region_32 : decode b_P_region 32 = .ok (.ifCond .lt 12, 3) := by decide +kernel
theorem d_P_region_35 : decode b_P_region 35 = .ok (.lload 4, 2) := by decide +kernel
theorem d_P_region_37 : decode b_P_region 37 = .ok (.ldc2_w 68, 3) := by decide +kernel
theorem d_P_region_40 : decode b_P_region 40 = .ok (.lcmp, 1) := by decide +kernel
theorem d_P_region_41 : decode b_P_region 41 = .ok (.ifCond .le 6, 3) := by decide +kernel
theorem d_P_region_44 : decode b_P_region 44 = .ok (.bipush (-2), 2) := by decide +kernel
theorem d_P_region_46 : decode b_P_region 46 = .ok (.ireturn, 1) := by decide +kernel
theorem d_P_region_47 : decode b_P_region 47 = .ok (.aload_n 0, 1) := by decide +kernel
theorem d_P_region_48 : decode b_P_region 48 = .ok (.getfield 44, 3) := by decide +kernel
theorem d_P_region_51 : decode b_P_region 51 = .ok (.ifCond .ne 6, 3) := by decide +kernel
theorem d_P_region_54 : decode b_P_region 54 = .ok (.bipush (-3), 2) := by decide +kernel
theorem d_P_region_56 : decode b_P_region 56 = .ok (.ireturn, 1) := by decide +kernel
theorem d_P_region_57 : decode b_P_region 57 = .ok (.aload 6, 2) := by decide +kernel
theorem d_P_region_59 : decode b_P_region 59 = .ok (.getfield 70, 3) := by decide +kernel
theorem d_P_region_62 : decode b_P_region 62 = .ok (.bipush 8, 2) := by decide +kernel
theorem d_P_region_64 : decode b_P_region 64 = .ok (.if_icmp .lt 6, 3) := by decide +kernel
theorem d_P_region_67 : decode b_P_region 67 = .ok (.bipush (-4), 2) := by decide +kernel
theorem d_P_region_69 : decode b_P_region 69 = .ok (.ireturn, 1) := by decide +kernel
theorem d_P_region_70 : decode b_P_region 70 = .ok (.aload 6, 2) := by decide +kernel
theorem d_P_region_72 : decode b_P_region 72 = .ok (.lload_n 2, 1) := by decide +kernel
theorem d_P_region_73 : decode b_P_region 73 = .ok (.lload 4, 2) := by decide +kernel
theorem d_P_region_75 : decode b_P_region 75 = .ok (.invokevirtual 73, 3) := by decide +kernel
theorem d_P_region_78 : decode b_P_region 78 = .ok (.aload 6, 2) := by decide +kernel
theorem d_P_region_80 : decode b_P_region 80 = .ok (.getfield 70, 3) := by decide +kernel
theorem d_P_region_83 : decode b_P_region 83 = .ok (.ireturn, 1) := by decide +kernel
theorem d_P_holds_0 : decode b_P_holds 0 = .ok (.aload_n 0, 1) := by decide +kernel
theorem d_P_holds_1 : decode b_P_holds 1 = .ok (.iload_n 1, 1) := by decide +kernel
theorem d_P_holds_2 : decode b_P_holds 2 = .ok (.invokevirtual 77, 3) := by decide +kernel
theorem d_P_holds_5 : decode b_P_holds 5 = .ok (.astore 4, 2) := by decide +kernel
theorem d_P_holds_7 : decode b_P_holds 7 = .ok (.aload 4, 2) := by decide +kernel
theorem d_P_holds_9 : decode b_P_holds 9 = .ok (.ifnonnull 5, 3) := by decide +kernel
theorem d_P_holds_12 : decode b_P_holds 12 = .ok (.iconst (-1), 1) := by decide +kernel
theorem d_P_holds_13 : decode b_P_holds 13 = .ok (.ireturn, 1) := by decide +kernel
theorem d_P_holds_14 : decode b_P_holds 14 = .ok (.iload_n 2, 1) := by decide +kernel
theorem d_P_holds_15 : decode b_P_holds 15 = .ok (.ifCond .lt 19, 3) := by decide +kernel
theorem d_P_holds_18 : decode b_P_holds 18 = .ok (.iload_n 2, 1) := by decide +kernel
theorem d_P_holds_19 : decode b_P_holds 19 = .ok (.iconst 4, 1) := by decide +kernel
theorem d_P_holds_20 : decode b_P_holds 20 = .ok (.if_icmp .ge 14, 3) := by decide +kernel
theorem d_P_holds_23 : decode b_P_holds 23 = .ok (.iload_n 3, 1) := by decide +kernel
theorem d_P_holds_24 : decode b_P_holds 24 = .ok (.iconst 1, 1) := by decide +kernel
theorem d_P_holds_25 : decode b_P_holds 25 = .ok (.if_icmp .lt 9, 3) := by decide +kernel
theorem d_P_holds_28 : decode b_P_holds 28 = .ok (.iload_n 3, 1) := by decide +kernel
theorem d_P_holds_29 : decode b_P_holds 29 = .ok (.bipush 32, 2) := by decide +kernel
theorem d_P_holds_31 : decode b_P_holds 31 = .ok (.if_icmp .le 6, 3) := by decide +kernel
theorem d_P_holds_34 : decode b_P_holds 34 = .ok (.bipush (-2), 2) := by decide +kernel
theorem d_P_holds_36 : decode b_P_holds 36 = .ok (.ireturn, 1) := by decide +kernel
theorem d_P_holds_37 : decode b_P_holds 37 = .ok (.iload_n 2, 1) := by decide +kernel
theorem d_P_holds_38 : decode b_P_holds 38 = .ok (.bipush 32, 2) := by decide +kernel
theorem d_P_holds_40 : decode b_P_holds 40 = .ok (.imul, 1) := by decide +kernel
theorem d_P_holds_41 : decode b_P_holds 41 = .ok (.iload_n 3, 1) := by decide +kernel
theorem d_P_holds_42 : decode b_P_holds 42 = .ok (.iadd, 1) := by decide +kernel
theorem d_P_holds_43 : decode b_P_holds 43 = .ok (.iconst 1, 1) := by decide +kernel
theorem d_P_holds_44 : decode b_P_holds 44 = .ok (.isub, 1) := by decide +kernel
theorem d_P_holds_45 : decode b_P_holds 45 = .ok (.istore 5, 2) := by decide +kernel
theorem d_P_holds_47 : decode b_P_holds 47 = .ok (.aload_n 0, 1) := by decide +kernel
theorem d_P_holds_48 : decode b_P_holds 48 = .ok (.aload 4, 2) := by decide +kernel
theorem d_P_holds_50 : decode b_P_holds 50 = .ok (.invokevirtual 81, 3) := by decide +kernel
theorem d_P_holds_53 : decode b_P_holds 53 = .ok (.ifCond .eq 13, 3) := by decide +kernel
theorem d_P_holds_56 : decode b_P_holds 56 = .ok (.aload_n 0, 1) := by decide +kernel
theorem d_P_holds_57 : decode b_P_holds 57 = .ok (.getfield 21, 3) := by decide +kernel
theorem d_P_holds_60 : decode b_P_holds 60 = .ok (.iload 5, 2) := by decide +kernel
theorem d_P_holds_62 : decode b_P_holds 62 = .ok (.iaload, 1) := by decide +kernel
theorem d_P_holds_63 : decode b_P_holds 63 = .ok (.ifCond .eq 6, 3) := by decide +kernel
theorem d_P_holds_66 : decode b_P_holds 66 = .ok (.bipush (-3), 2) := by decide +kernel
theorem d_P_holds_68 : decode b_P_holds 68 = .ok (.ireturn, 1) := by decide +kernel
theorem d_P_holds_69 : decode b_P_holds 69 = .ok (.aload_n 0, 1) := by decide +kernel
theorem d_P_holds_70 : decode b_P_holds 70 = .ok (.getfield 21, 3) := by decide +kernel
theorem d_P_holds_73 : decode b_P_holds 73 = .ok (.iload 5, 2) := by decide +kernel
theorem d_P_holds_75 : decode b_P_holds 75 = .ok (.aload 4, 2) := by decide +kernel
theorem d_P_holds_77 : decode b_P_holds 77 = .ok (.getfield 85, 3) := by decide +kernel
theorem d_P_holds_80 : decode b_P_holds 80 = .ok (.iastore, 1) := by decide +kernel
theorem d_P_holds_81 : decode b_P_holds 81 = .ok (.aload_n 0, 1) := by decide +kernel
theorem d_P_holds_82 : decode b_P_holds 82 = .ok (.aload 4, 2) := by decide +kernel
theorem d_P_holds_84 : decode b_P_holds 84 = .ok (.invokevirtual 88, 3) := by decide +kernel
theorem d_P_holds_87 : decode b_P_holds 87 = .ok (.ireturn, 1) := by decide +kernel
theorem d_P_fault_0 : decode b_P_fault 0 = .ok (.aload_n 0, 1) := by decide +kernel
theorem d_P_fault_1 : decode b_P_fault 1 = .ok (.iload_n 1, 1) := by decide +kernel
theorem d_P_fault_2 : decode b_P_fault 2 = .ok (.invokevirtual 77, 3) := by decide +kernel
theorem d_P_fault_5 : decode b_P_fault 5 = .ok (.astore_n 3, 1) := by decide +kernel
theorem d_P_fault_6 : decode b_P_fault 6 = .ok (.aload_n 3, 1) := by decide +kernel
theorem d_P_fault_7 : decode b_P_fault 7 = .ok (.ifnonnull 5, 3) := by decide +kernel
theorem d_P_fault_10 : decode b_P_fault 10 = .ok (.iconst (-1), 1) := by decide +kernel
theorem d_P_fault_11 : decode b_P_fault 11 = .ok (.ireturn, 1) := by decide +kernel
theorem d_P_fault_12 : decode b_P_fault 12 = .ok (.iload_n 2, 1) := by decide +kernel
theorem d_P_fault_13 : decode b_P_fault 13 = .ok (.iconst 1, 1) := by decide +kernel
theorem d_P_fault_14 : decode b_P_fault 14 = .ok (.if_icmp .lt 8, 3) := by decide +kernel
theorem d_P_fault_17 : decode b_P_fault 17 = .ok (.iload_n 2, 1) := by decide +kernel
theorem d_P_fault_18 : decode b_P_fault 18 = .ok (.iconst 5, 1) := by decide +kernel
theorem d_P_fault_19 : decode b_P_fault 19 = .ok (.if_icmp .le 6, 3) := by decide +kernel
theorem d_P_fault_22 : decode b_P_fault 22 = .ok (.bipush (-2), 2) := by decide +kernel
theorem d_P_fault_24 : decode b_P_fault 24 = .ok (.ireturn, 1) := by decide +kernel
theorem d_P_fault_25 : decode b_P_fault 25 = .ok (.aload_n 0, 1) := by decide +kernel
theorem d_P_fault_26 : decode b_P_fault 26 = .ok (.aload_n 3, 1) := by decide +kernel
theorem d_P_fault_27 : decode b_P_fault 27 = .ok (.invokevirtual 81, 3) := by decide +kernel
theorem d_P_fault_30 : decode b_P_fault 30 = .ok (.ifCond .ne 6, 3) := by decide +kernel
theorem d_P_fault_33 : decode b_P_fault 33 = .ok (.bipush (-3), 2) := by decide +kernel
theorem d_P_fault_35 : decode b_P_fault 35 = .ok (.ireturn, 1) := by decide +kernel
theorem d_P_fault_36 : decode b_P_fault 36 = .ok (.aload_n 0, 1) := by decide +kernel
theorem d_P_fault_37 : decode b_P_fault 37 = .ok (.aload_n 3, 1) := by decide +kernel
theorem d_P_fault_38 : decode b_P_fault 38 = .ok (.iload_n 2, 1) := by decide +kernel
theorem d_P_fault_39 : decode b_P_fault 39 = .ok (.invokevirtual 92, 3) := by decide +kernel
theorem d_P_fault_42 : decode b_P_fault 42 = .ok (.ireturn, 1) := by decide +kernel
theorem d_P_cleaned_0 : decode b_P_cleaned 0 = .ok (.aload_n 0, 1) := by decide +kernel
theorem d_P_cleaned_1 : decode b_P_cleaned 1 = .ok (.getfield 37, 3) := by decide +kernel
theorem d_P_cleaned_4 : decode b_P_cleaned 4 = .ok (.iload_n 1, 1) := by decide +kernel
theorem d_P_cleaned_5 : decode b_P_cleaned 5 = .ok (.iload_n 2, 1) := by decide +kernel
theorem d_P_cleaned_6 : decode b_P_cleaned 6 = .ok (.invokevirtual 96, 3) := by decide +kernel
theorem d_P_cleaned_9 : decode b_P_cleaned 9 = .ok (.ireturn, 1) := by decide +kernel
theorem d_P_hook_0 : decode b_P_hook 0 = .ok (.iload_n 1, 1) := by decide +kernel
theorem d_P_hook_1 : decode b_P_hook 1 = .ok (.ifCond .lt 8, 3) := by decide +kernel
theorem d_P_hook_4 : decode b_P_hook 4 = .ok (.iload_n 1, 1) := by decide +kernel
theorem d_P_hook_5 : decode b_P_hook 5 = .ok (.iconst 3, 1) := by decide +kernel
theorem d_P_hook_6 : decode b_P_hook 6 = .ok (.if_icmp .lt 5, 3) := by decide +kernel
theorem d_P_hook_9 : decode b_P_hook 9 = .ok (.iconst (-1), 1) := by decide +kernel
theorem d_P_hook_10 : decode b_P_hook 10 = .ok (.ireturn, 1) := by decide +kernel
theorem d_P_hook_11 : decode b_P_hook 11 = .ok (.iload_n 2, 1) := by decide +kernel
theorem d_P_hook_12 : decode b_P_hook 12 = .ok (.ifCond .lt 8, 3) := by decide +kernel
theorem d_P_hook_15 : decode b_P_hook 15 = .ok (.iload_n 2, 1) := by decide +kernel
theorem d_P_hook_16 : decode b_P_hook 16 = .ok (.iconst 5, 1) := by decide +kernel
theorem d_P_hook_17 : decode b_P_hook 17 = .ok (.if_icmp .le 6, 3) := by decide +kernel
theorem d_P_hook_20 : decode b_P_hook 20 = .ok (.bipush (-2), 2) := by decide +kernel
theorem d_P_hook_22 : decode b_P_hook 22 = .ok (.ireturn, 1) := by decide +kernel
theorem d_P_hook_23 : decode b_P_hook 23 = .ok (.aload_n 0, 1) := by decide +kernel
theorem d_P_hook_24 : decode b_P_hook 24 = .ok (.getfield 44, 3) := by decide +kernel
theorem d_P_hook_27 : decode b_P_hook 27 = .ok (.ifCond .ne 6, 3) := by decide +kernel
theorem d_P_hook_30 : decode b_P_hook 30 = .ok (.bipush (-3), 2) := by decide +kernel
theorem d_P_hook_32 : decode b_P_hook 32 = .ok (.ireturn, 1) := by decide +kernel
theorem d_P_hook_33 : decode b_P_hook 33 = .ok (.aload_n 0, 1) := by decide +kernel
theorem d_P_hook_34 : decode b_P_hook 34 = .ok (.getfield 25, 3) := by decide +kernel
theorem d_P_hook_37 : decode b_P_hook 37 = .ok (.iload_n 1, 1) := by decide +kernel
theorem d_P_hook_38 : decode b_P_hook 38 = .ok (.iload_n 2, 1) := by decide +kernel
theorem d_P_hook_39 : decode b_P_hook 39 = .ok (.iastore, 1) := by decide +kernel
theorem d_P_hook_40 : decode b_P_hook 40 = .ok (.aload_n 0, 1) := by decide +kernel
theorem d_P_hook_41 : decode b_P_hook 41 = .ok (.getfield 28, 3) := by decide +kernel
theorem d_P_hook_44 : decode b_P_hook 44 = .ok (.iload_n 1, 1) := by decide +kernel
theorem d_P_hook_45 : decode b_P_hook 45 = .ok (.iload_n 3, 1) := by decide +kernel
theorem d_P_hook_46 : decode b_P_hook 46 = .ok (.bastore, 1) := by decide +kernel
theorem d_P_hook_47 : decode b_P_hook 47 = .ok (.iconst 1, 1) := by decide +kernel
theorem d_P_hook_48 : decode b_P_hook 48 = .ok (.ireturn, 1) := by decide +kernel
theorem d_P_arrival_0 : decode b_P_arrival 0 = .ok (.aload_n 0, 1) := by decide +kernel
theorem d_P_arrival_1 : decode b_P_arrival 1 = .ok (.iload_n 1, 1) := by decide +kernel
theorem d_P_arrival_2 : decode b_P_arrival 2 = .ok (.invokevirtual 77, 3) := by decide +kernel
theorem d_P_arrival_5 : decode b_P_arrival 5 = .ok (.astore 4, 2) := by decide +kernel
theorem d_P_arrival_7 : decode b_P_arrival 7 = .ok (.aload 4, 2) := by decide +kernel
theorem d_P_arrival_9 : decode b_P_arrival 9 = .ok (.ifnonnull 7, 3) := by decide +kernel
theorem d_P_arrival_12 : decode b_P_arrival 12 = .ok (.sipush (-1000), 3) := by decide +kernel
theorem d_P_arrival_15 : decode b_P_arrival 15 = .ok (.ireturn, 1) := by decide +kernel
theorem d_P_arrival_16 : decode b_P_arrival 16 = .ok (.lload_n 2, 1) := by decide +kernel
theorem d_P_arrival_17 : decode b_P_arrival 17 = .ok (.aload 4, 2) := by decide +kernel
theorem d_P_arrival_19 : decode b_P_arrival 19 = .ok (.getfield 100, 3) := by decide +kernel
theorem d_P_arrival_22 : decode b_P_arrival 22 = .ok (.lcmp, 1) := by decide +kernel
theorem d_P_arrival_23 : decode b_P_arrival 23 = .ok (.ifCond .ge 7, 3) := by decide +kernel
theorem d_P_arrival_26 : decode b_P_arrival 26 = .ok (.sipush (-2000), 3) := by decide +kernel
theorem d_P_arrival_29 : decode b_P_arrival 29 = .ok (.ireturn, 1) := by decide +kernel
theorem d_P_arrival_30 : decode b_P_arrival 30 = .ok (.aload_n 0, 1) := by decide +kernel
theorem d_P_arrival_31 : decode b_P_arrival 31 = .ok (.aload 4, 2) := by decide +kernel
theorem d_P_arrival_33 : decode b_P_arrival 33 = .ok (.invokevirtual 81, 3) := by decide +kernel
theorem d_P_arrival_36 : decode b_P_arrival 36 = .ok (.ifCond .ne 7, 3) := by decide +kernel
theorem d_P_arrival_39 : decode b_P_arrival 39 = .ok (.sipush (-3000), 3) := by decide +kernel
theorem d_P_arrival_42 : decode b_P_arrival 42 = .ok (.ireturn, 1) := by decide +kernel
theorem d_P_arrival_43 : decode b_P_arrival 43 = .ok (.aload 4, 2) := by decide +kernel
theorem d_P_arrival_45 : decode b_P_arrival 45 = .ok (.getfield 104, 3) := by decide +kernel
theorem d_P_arrival_48 : decode b_P_arrival 48 = .ok (.istore 5, 2) := by decide +kernel
theorem d_P_arrival_50 : decode b_P_arrival 50 = .ok (.aload 4, 2) := by decide +kernel
theorem d_P_arrival_52 : decode b_P_arrival 52 = .ok (.lload_n 2, 1) := by decide +kernel
theorem d_P_arrival_53 : decode b_P_arrival 53 = .ok (.invokevirtual 107, 3) := by decide +kernel
theorem d_P_arrival_56 : decode b_P_arrival 56 = .ok (.istore 6, 2) := by decide +kernel
theorem d_P_arrival_58 : decode b_P_arrival 58 = .ok (.aload 4, 2) := by decide +kernel
theorem d_P_arrival_60 : decode b_P_arrival 60 = .ok (.lload_n 2, 1) := by decide +kernel
theorem d_P_arrival_61 : decode b_P_arrival 61 = .ok (.putfield 100, 3) := by decide +kernel
theorem d_P_arrival_64 : decode b_P_arrival 64 = .ok (.aload 4, 2) := by decide +kernel
theorem d_P_arrival_66 : decode b_P_arrival 66 = .ok (.iload 6, 2) := by decide +kernel
theorem d_P_arrival_68 : decode b_P_arrival 68 = .ok (.ifCond .eq 12, 3) := by decide +kernel
theorem d_P_arrival_71 : decode b_P_arrival 71 = .ok (.iload 5, 2) := by decide +kernel
theorem d_P_arrival_73 : decode b_P_arrival 73 = .ok (.ifCond .ne 7, 3) := by decide +kernel
theorem d_P_arrival_76 : decode b_P_arrival 76 = .ok (.iconst 1, 1) := by decide +kernel
theorem d_P_arrival_77 : decode b_P_arrival 77 = .ok (.goto 4, 3) := by decide +kernel
theorem d_P_arrival_80 : decode b_P_arrival 80 = .ok (.iconst 0, 1) := by decide +kernel
theorem d_P_arrival_81 : decode b_P_arrival 81 = .ok (.putfield 104, 3) := by decide +kernel
theorem d_P_arrival_84 : decode b_P_arrival 84 = .ok (.iload 6, 2) := by decide +kernel
theorem d_P_arrival_86 : decode b_P_arrival 86 = .ok (.ifCond .ne 17, 3) := by decide +kernel
theorem d_P_arrival_89 : decode b_P_arrival 89 = .ok (.aload 4, 2) := by decide +kernel
theorem d_P_arrival_91 : decode b_P_arrival 91 = .ok (.iconst 1, 1) := by decide +kernel
theorem d_P_arrival_92 : decode b_P_arrival 92 = .ok (.putfield 111, 3) := by decide +kernel
theorem d_P_arrival_95 : decode b_P_arrival 95 = .ok (.aload 4, 2) := by decide +kernel
theorem d_P_arrival_97 : decode b_P_arrival 97 = .ok (.lload_n 2, 1) := by decide +kernel
theorem d_P_arrival_98 : decode b_P_arrival 98 = .ok (.putfield 114, 3) := by decide +kernel
theorem d_P_arrival_101 : decode b_P_arrival 101 = .ok (.iconst 1, 1) := by decide +kernel
theorem d_P_arrival_102 : decode b_P_arrival 102 = .ok (.ireturn, 1) := by decide +kernel
theorem d_P_arrival_103 : decode b_P_arrival 103 = .ok (.iload 5, 2) := by decide +kernel
theorem d_P_arrival_105 : decode b_P_arrival 105 = .ok (.ifCond .eq 14, 3) := by decide +kernel
theorem d_P_arrival_108 : decode b_P_arrival 108 = .ok (.aload_n 0, 1) := by decide +kernel
theorem d_P_arrival_109 : decode b_P_arrival 109 = .ok (.aload 4, 2) := by decide +kernel
theorem d_P_arrival_111 : decode b_P_arrival 111 = .ok (.iconst 4, 1) := by decide +kernel
theorem d_P_arrival_112 : decode b_P_arrival 112 = .ok (.invokevirtual 92, 3) := by decide +kernel
theorem d_P_arrival_115 : decode b_P_arrival 115 = .ok (.ineg, 1) := by decide +kernel
theorem d_P_arrival_116 : decode b_P_arrival 116 = .ok (.goto 4, 3) := by decide +kernel
theorem d_P_arrival_119 : decode b_P_arrival 119 = .ok (.iconst 0, 1) := by decide +kernel
theorem d_P_arrival_120 : decode b_P_arrival 120 = .ok (.ireturn, 1) := by decide +kernel
theorem d_P_trusted_0 : decode b_P_trusted 0 = .ok (.aload_n 0, 1) := by decide +kernel
theorem d_P_trusted_1 : decode b_P_trusted 1 = .ok (.iload_n 1, 1) := by decide +kernel
theorem d_P_trusted_2 : decode b_P_trusted 2 = .ok (.invokevirtual 77, 3) := by decide +kernel
theorem d_P_trusted_5 : decode b_P_trusted 5 = .ok (.astore 4, 2) := by decide +kernel
theorem d_P_trusted_7 : decode b_P_trusted 7 = .ok (.aload 4, 2) := by decide +kernel
theorem d_P_trusted_9 : decode b_P_trusted 9 = .ok (.ifnonnull 5, 3) := by decide +kernel
theorem d_P_trusted_12 : decode b_P_trusted 12 = .ok (.iconst (-1), 1) := by decide +kernel
theorem d_P_trusted_13 : decode b_P_trusted 13 = .ok (.ireturn, 1) := by decide +kernel
theorem d_P_trusted_14 : decode b_P_trusted 14 = .ok (.aload 4, 2) := by decide +kernel
theorem d_P_trusted_16 : decode b_P_trusted 16 = .ok (.getfield 117, 3) := by decide +kernel
theorem d_P_trusted_19 : decode b_P_trusted 19 = .ok (.lload_n 2, 1) := by decide +kernel
theorem d_P_trusted_20 : decode b_P_trusted 20 = .ok (.invokevirtual 121, 3) := by decide +kernel
theorem d_P_trusted_23 : decode b_P_trusted 23 = .ok (.ifCond .eq 7, 3) := by decide +kernel
theorem d_P_trusted_26 : decode b_P_trusted 26 = .ok (.iconst 1, 1) := by decide +kernel
theorem d_P_trusted_27 : decode b_P_trusted 27 = .ok (.goto 4, 3) := by decide +kernel
theorem d_P_trusted_30 : decode b_P_trusted 30 = .ok (.iconst 0, 1) := by decide +kernel
theorem d_P_trusted_31 : decode b_P_trusted 31 = .ok (.ireturn, 1) := by decide +kernel
theorem d_P_access_0 : decode b_P_access 0 = .ok (.aload_n 0, 1) := by decide +kernel
theorem d_P_access_1 : decode b_P_access 1 = .ok (.iload_n 1, 1) := by decide +kernel
theorem d_P_access_2 : decode b_P_access 2 = .ok (.invokevirtual 77, 3) := by decide +kernel
theorem d_P_access_5 : decode b_P_access 5 = .ok (.astore 4, 2) := by decide +kernel
theorem d_P_access_7 : decode b_P_access 7 = .ok (.aload 4, 2) := by decide +kernel
theorem d_P_access_9 : decode b_P_access 9 = .ok (.ifnonnull 7, 3) := by decide +kernel
theorem d_P_access_12 : decode b_P_access 12 = .ok (.sipush (-1000), 3) := by decide +kernel
theorem d_P_access_15 : decode b_P_access 15 = .ok (.ireturn, 1) := by decide +kernel
theorem d_P_access_16 : decode b_P_access 16 = .ok (.aload_n 0, 1) := by decide +kernel
theorem d_P_access_17 : decode b_P_access 17 = .ok (.aload 4, 2) := by decide +kernel
theorem d_P_access_19 : decode b_P_access 19 = .ok (.invokevirtual 81, 3) := by decide +kernel
theorem d_P_access_22 : decode b_P_access 22 = .ok (.ifCond .ne 7, 3) := by decide +kernel
theorem d_P_access_25 : decode b_P_access 25 = .ok (.sipush (-3000), 3) := by decide +kernel
theorem d_P_access_28 : decode b_P_access 28 = .ok (.ireturn, 1) := by decide +kernel
theorem d_P_access_29 : decode b_P_access 29 = .ok (.aload 4, 2) := by decide +kernel
theorem d_P_access_31 : decode b_P_access 31 = .ok (.getfield 117, 3) := by decide +kernel
theorem d_P_access_34 : decode b_P_access 34 = .ok (.lload_n 2, 1) := by decide +kernel
theorem d_P_access_35 : decode b_P_access 35 = .ok (.invokevirtual 121, 3) := by decide +kernel
theorem d_P_access_38 : decode b_P_access 38 = .ok (.ifCond .eq 7, 3) := by decide +kernel
theorem d_P_access_41 : decode b_P_access 41 = .ok (.iconst 1, 1) := by decide +kernel
theorem d_P_access_42 : decode b_P_access 42 = .ok (.goto 11, 3) := by decide +kernel
theorem d_P_access_45 : decode b_P_access 45 = .ok (.aload_n 0, 1) := by decide +kernel
theorem d_P_access_46 : decode b_P_access 46 = .ok (.aload 4, 2) := by decide +kernel
theorem d_P_access_48 : decode b_P_access 48 = .ok (.iconst 2, 1) := by decide +kernel
theorem d_P_access_49 : decode b_P_access 49 = .ok (.invokevirtual 92, 3) := by decide +kernel
theorem d_P_access_52 : decode b_P_access 52 = .ok (.ineg, 1) := by decide +kernel
theorem d_P_access_53 : decode b_P_access 53 = .ok (.ireturn, 1) := by decide +kernel
theorem d_P_state_0 : decode b_P_state 0 = .ok (.aload_n 0, 1) := by decide +kernel
theorem d_P_state_1 : decode b_P_state 1 = .ok (.iload_n 1, 1) := by decide +kernel
theorem d_P_state_2 : decode b_P_state 2 = .ok (.invokevirtual 53, 3) := by decide +kernel
theorem d_P_state_5 : decode b_P_state 5 = .ok (.astore_n 2, 1) := by decide +kernel
theorem d_P_state_6 : decode b_P_state 6 = .ok (.aload_n 2, 1) := by decide +kernel
theorem d_P_state_7 : decode b_P_state 7 = .ok (.ifnonnull 5, 3) := by decide +kernel
theorem d_P_state_10 : decode b_P_state 10 = .ok (.iconst (-1), 1) := by decide +kernel
theorem d_P_state_11 : decode b_P_state 11 = .ok (.ireturn, 1) := by decide +kernel
theorem d_P_state_12 : decode b_P_state 12 = .ok (.aload_n 0, 1) := by decide +kernel
theorem d_P_state_13 : decode b_P_state 13 = .ok (.getfield 44, 3) := by decide +kernel
theorem d_P_state_16 : decode b_P_state 16 = .ok (.ifCond .ne 5, 3) := by decide +kernel
theorem d_P_state_19 : decode b_P_state 19 = .ok (.iconst 2, 1) := by decide +kernel
theorem d_P_state_20 : decode b_P_state 20 = .ok (.ireturn, 1) := by decide +kernel
theorem d_P_state_21 : decode b_P_state 21 = .ok (.aload_n 2, 1) := by decide +kernel
theorem d_P_state_22 : decode b_P_state 22 = .ok (.getfield 59, 3) := by decide +kernel
theorem d_P_state_25 : decode b_P_state 25 = .ok (.ifCond .eq 7, 3) := by decide +kernel
theorem d_P_state_28 : decode b_P_state 28 = .ok (.iconst 1, 1) := by decide +kernel
theorem d_P_state_29 : decode b_P_state 29 = .ok (.goto 4, 3) := by decide +kernel
theorem d_P_state_32 : decode b_P_state 32 = .ok (.iconst 0, 1) := by decide +kernel
theorem d_P_state_33 : decode b_P_state 33 = .ok (.ireturn, 1) := by decide +kernel
theorem d_P_log_0 : decode b_P_log 0 = .ok (.aload_n 0, 1) := by decide +kernel
theorem d_P_log_1 : decode b_P_log 1 = .ok (.getfield 41, 3) := by decide +kernel
theorem d_P_log_4 : decode b_P_log 4 = .ok (.iload_n 1, 1) := by decide +kernel
theorem d_P_log_5 : decode b_P_log 5 = .ok (.iload_n 2, 1) := by decide +kernel
theorem d_P_log_6 : decode b_P_log 6 = .ok (.invokevirtual 96, 3) := by decide +kernel
theorem d_P_log_9 : decode b_P_log 9 = .ok (.ireturn, 1) := by decide +kernel
