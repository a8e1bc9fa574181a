theorem d_M_init_0 : decode b_M_init 0 = .ok (.aload_n 0, 1) := by decide +kernel
theorem d_M_init_1 : decode b_M_init 1 = .ok (.invokespecial 1, 3) := by decide +kernel
theorem d_M_init_4 : decode b_M_init 4 = .ok (.aload_n 0, 1) := by decide +kernel
theorem d_M_init_5 : decode b_M_init 5 = .ok (.bipush 17, 2) := by decide +kernel
theorem d_M_init_7 : decode b_M_init 7 = .ok (.newarray .int, 2) := by decide +kernel
theorem d_M_init_9 : decode b_M_init 9 = .ok (.putfield 7, 3) := by decide +kernel
theorem d_M_init_12 : decode b_M_init 12 = .ok (.aload_n 0, 1) := by decide +kernel
theorem d_M_init_13 : decode b_M_init 13 = .ok (.bipush 17, 2) := by decide +kernel
theorem d_M_init_15 : decode b_M_init 15 = .ok (.newarray .boolean, 2) := by decide +kernel
theorem d_M_init_17 : decode b_M_init 17 = .ok (.putfield 13, 3) := by decide +kernel
theorem d_M_init_20 : decode b_M_init 20 = .ok (.aload_n 0, 1) := by decide +kernel
theorem d_M_init_21 : decode b_M_init 21 = .ok (.bipush 17, 2) := by decide +kernel
theorem d_M_init_23 : decode b_M_init 23 = .ok (.newarray .int, 2) := by decide +kernel
theorem d_M_init_25 : decode b_M_init 25 = .ok (.putfield 17, 3) := by decide +kernel
theorem d_M_init_28 : decode b_M_init 28 = .ok (.aload_n 0, 1) := by decide +kernel
theorem d_M_init_29 : decode b_M_init 29 = .ok (.sipush 136, 3) := by decide +kernel
theorem d_M_init_32 : decode b_M_init 32 = .ok (.newarray .long, 2) := by decide +kernel
theorem d_M_init_34 : decode b_M_init 34 = .ok (.putfield 20, 3) := by decide +kernel
theorem d_M_init_37 : decode b_M_init 37 = .ok (.aload_n 0, 1) := by decide +kernel
theorem d_M_init_38 : decode b_M_init 38 = .ok (.sipush 136, 3) := by decide +kernel
theorem d_M_init_41 : decode b_M_init 41 = .ok (.newarray .long, 2) := by decide +kernel
theorem d_M_init_43 : decode b_M_init 43 = .ok (.putfield 24, 3) := by decide +kernel
theorem d_M_init_46 : decode b_M_init 46 = .ok (.aload_n 0, 1) := by decide +kernel
theorem d_M_init_47 : decode b_M_init 47 = .ok (.bipush 61, 2) := by decide +kernel
theorem d_M_init_49 : decode b_M_init 49 = .ok (.newarray .int, 2) := by decide +kernel
theorem d_M_init_51 : decode b_M_init 51 = .ok (.putfield 27, 3) := by decide +kernel
theorem d_M_init_54 : decode b_M_init 54 = .ok (.aload_n 0, 1) := by decide +kernel
theorem d_M_init_55 : decode b_M_init 55 = .ok (.bipush 61, 2) := by decide +kernel
theorem d_M_init_57 : decode b_M_init 57 = .ok (.newarray .long, 2) := by decide +kernel
theorem d_M_init_59 : decode b_M_init 59 = .ok (.putfield 30, 3) := by decide +kernel
theorem d_M_init_62 : decode b_M_init 62 = .ok (.aload_n 0, 1) := by decide +kernel
theorem d_M_init_63 : decode b_M_init 63 = .ok (.bipush 61, 2) := by decide +kernel
theorem d_M_init_65 : decode b_M_init 65 = .ok (.newarray .boolean, 2) := by decide +kernel
theorem d_M_init_67 : decode b_M_init 67 = .ok (.putfield 33, 3) := by decide +kernel
theorem d_M_init_70 : decode b_M_init 70 = .ok (.aload_n 0, 1) := by decide +kernel
theorem d_M_init_71 : decode b_M_init 71 = .ok (.bipush 61, 2) := by decide +kernel
theorem d_M_init_73 : decode b_M_init 73 = .ok (.newarray .boolean, 2) := by decide +kernel
theorem d_M_init_75 : decode b_M_init 75 = .ok (.putfield 36, 3) := by decide +kernel
theorem d_M_init_78 : decode b_M_init 78 = .ok (.aload_n 0, 1) := by decide +kernel
theorem d_M_init_79 : decode b_M_init 79 = .ok (.bipush 61, 2) := by decide +kernel
theorem d_M_init_81 : decode b_M_init 81 = .ok (.newarray .long, 2) := by decide +kernel
theorem d_M_init_83 : decode b_M_init 83 = .ok (.putfield 39, 3) := by decide +kernel
theorem d_M_init_86 : decode b_M_init 86 = .ok (.aload_n 0, 1) := by decide +kernel
theorem d_M_init_87 : decode b_M_init 87 = .ok (.bipush 61, 2) := by decide +kernel
theorem d_M_init_89 : decode b_M_init 89 = .ok (.newarray .long, 2) := by decide +kernel
theorem d_M_init_91 : decode b_M_init 91 = .ok (.putfield 42, 3) := by decide +kernel
theorem d_M_init_94 : decode b_M_init 94 = .ok (.aload_n 0, 1) := by decide +kernel
theorem d_M_init_95 : decode b_M_init 95 = .ok (.bipush 61, 2) := by decide +kernel
theorem d_M_init_97 : decode b_M_init 97 = .ok (.newarray .boolean, 2) := by decide +kernel
theorem d_M_init_99 : decode b_M_init 99 = .ok (.putfield 45, 3) := by decide +kernel
theorem d_M_init_102 : decode b_M_init 102 = .ok (.aload_n 0, 1) := by decide +kernel
theorem d_M_init_103 : decode b_M_init 103 = .ok (.sipush 128, 3) := by decide +kernel
theorem d_M_init_106 : decode b_M_init 106 = .ok (.newarray .int, 2) := by decide +kernel
theorem d_M_init_108 : decode b_M_init 108 = .ok (.putfield 48, 3) := by decide +kernel
theorem d_M_init_111 : decode b_M_init 111 = .ok (.aload_n 0, 1) := by decide +kernel
theorem d_M_init_112 : decode b_M_init 112 = .ok (.iconst 3, 1) := by decide +kernel
theorem d_M_init_113 : decode b_M_init 113 = .ok (.newarray .int, 2) := by decide +kernel
theorem d_M_init_115 : decode b_M_init 115 = .ok (.putfield 51, 3) := by decide +kernel
theorem d_M_init_118 : decode b_M_init 118 = .ok (.aload_n 0, 1) := by decide +kernel
theorem d_M_init_119 : decode b_M_init 119 = .ok (.iconst 3, 1) := by decide +kernel
theorem d_M_init_120 : decode b_M_init 120 = .ok (.newarray .boolean, 2) := by decide +kernel
theorem d_M_init_122 : decode b_M_init 122 = .ok (.putfield 54, 3) := by decide +kernel
theorem d_M_init_125 : decode b_M_init 125 = .ok (.aload_n 0, 1) := by decide +kernel
theorem d_M_init_126 : decode b_M_init 126 = .ok (.sipush 500, 3) := by decide +kernel
theorem d_M_init_129 : decode b_M_init 129 = .ok (.newarray .int, 2) := by decide +kernel
theorem d_M_init_131 : decode b_M_init 131 = .ok (.putfield 57, 3) := by decide +kernel
theorem d_M_init_134 : decode b_M_init 134 = .ok (.aload_n 0, 1) := by decide +kernel
theorem d_M_init_135 : decode b_M_init 135 = .ok (.sipush 500, 3) := by decide +kernel
theorem d_M_init_138 : decode b_M_init 138 = .ok (.newarray .int, 2) := by decide +kernel
theorem d_M_init_140 : decode b_M_init 140 = .ok (.putfield 60, 3) := by decide +kernel
theorem d_M_init_143 : decode b_M_init 143 = .ok (.aload_n 0, 1) := by decide +kernel
theorem d_M_init_144 : decode b_M_init 144 = .ok (.sipush 2000, 3) := by decide +kernel
theorem d_M_init_147 : decode b_M_init 147 = .ok (.newarray .int, 2) := by decide +kernel
theorem d_M_init_149 : decode b_M_init 149 = .ok (.putfield 63, 3) := by decide +kernel
theorem d_M_init_152 : decode b_M_init 152 = .ok (.return_, 1) := by decide +kernel
theorem d_M_noApplication_0 : decode b_M_noApplication 0 = .ok (.aload_n 0, 1) := by decide +kernel
theorem d_M_noApplication_1 : decode b_M_noApplication 1 = .ok (.iconst 0, 1) := by decide +kernel
theorem d_M_noApplication_2 : decode b_M_noApplication 2 = .ok (.putfield 66, 3) := by decide +kernel
theorem d_M_noApplication_5 : decode b_M_noApplication 5 = .ok (.iload_n 1, 1) := by decide +kernel
theorem d_M_noApplication_6 : decode b_M_noApplication 6 = .ok (.iconst 1, 1) := by decide +kernel
theorem d_M_noApplication_7 : decode b_M_noApplication 7 = .ok (.if_icmp .lt 11, 3) := by decide +kernel
theorem d_M_noApplication_10 : decode b_M_noApplication 10 = .ok (.iload_n 1, 1) := by decide +kernel
theorem d_M_noApplication_11 : decode b_M_noApplication 11 = .ok (.aload_n 0, 1) := by decide +kernel
theorem d_M_noApplication_12 : decode b_M_noApplication 12 = .ok (.getfield 70, 3) := by decide +kernel
theorem d_M_noApplication_15 : decode b_M_noApplication 15 = .ok (.if_icmp .le 7, 3) := by decide +kernel
theorem d_M_noApplication_18 : decode b_M_noApplication 18 = .ok (.iconst 1, 1) := by decide +kernel
theorem d_M_noApplication_19 : decode b_M_noApplication 19 = .ok (.goto 4, 3) := by decide +kernel
theorem d_M_noApplication_22 : decode b_M_noApplication 22 = .ok (.iconst 0, 1) := by decide +kernel
theorem d_M_noApplication_23 : decode b_M_noApplication 23 = .ok (.ireturn, 1) := by decide +kernel
theorem d_M_noTask_0 : decode b_M_noTask 0 = .ok (.aload_n 0, 1) := by decide +kernel
theorem d_M_noTask_1 : decode b_M_noTask 1 = .ok (.iconst 0, 1) := by decide +kernel
theorem d_M_noTask_2 : decode b_M_noTask 2 = .ok (.putfield 66, 3) := by decide +kernel
theorem d_M_noTask_5 : decode b_M_noTask 5 = .ok (.iload_n 1, 1) := by decide +kernel
theorem d_M_noTask_6 : decode b_M_noTask 6 = .ok (.iconst 1, 1) := by decide +kernel
theorem d_M_noTask_7 : decode b_M_noTask 7 = .ok (.if_icmp .lt 11, 3) := by decide +kernel
theorem d_M_noTask_10 : decode b_M_noTask 10 = .ok (.iload_n 1, 1) := by decide +kernel
theorem d_M_noTask_11 : decode b_M_noTask 11 = .ok (.aload_n 0, 1) := by decide +kernel
theorem d_M_noTask_12 : decode b_M_noTask 12 = .ok (.getfield 73, 3) := by decide +kernel
theorem d_M_noTask_15 : decode b_M_noTask 15 = .ok (.if_icmp .le 7, 3) := by decide +kernel
theorem d_M_noTask_18 : decode b_M_noTask 18 = .ok (.iconst 1, 1) := by decide +kernel
theorem d_M_noTask_19 : decode b_M_noTask 19 = .ok (.goto 4, 3) := by decide +kernel
theorem d_M_noTask_22 : decode b_M_noTask 22 = .ok (.iconst 0, 1) := by decide +kernel
theorem d_M_noTask_23 : decode b_M_noTask 23 = .ok (.ireturn, 1) := by decide +kernel
theorem d_M_application_0 : decode b_M_application 0 = .ok (.aload_n 0, 1) := by decide +kernel
theorem d_M_application_1 : decode b_M_application 1 = .ok (.iconst 0, 1) := by decide +kernel
theorem d_M_application_2 : decode b_M_application 2 = .ok (.putfield 66, 3) := by decide +kernel
theorem d_M_application_5 : decode b_M_application 5 = .ok (.iload_n 1, 1) := by decide +kernel
theorem d_M_application_6 : decode b_M_application 6 = .ok (.ifCond .lt 9, 3) := by decide +kernel
theorem d_M_application_9 : decode b_M_application 9 = .ok (.iload_n 1, 1) := by decide +kernel
theorem d_M_application_10 : decode b_M_application 10 = .ok (.bipush 10, 2) := by decide +kernel
theorem d_M_application_12 : decode b_M_application 12 = .ok (.if_icmp .le 6, 3) := by decide +kernel
theorem d_M_application_15 : decode b_M_application 15 = .ok (.bipush (-2), 2) := by decide +kernel
theorem d_M_application_17 : decode b_M_application 17 = .ok (.ireturn, 1) := by decide +kernel
theorem d_M_application_18 : decode b_M_application 18 = .ok (.aload_n 0, 1) := by decide +kernel
theorem d_M_application_19 : decode b_M_application 19 = .ok (.getfield 76, 3) := by decide +kernel
theorem d_M_application_22 : decode b_M_application 22 = .ok (.ifCond .eq 6, 3) := by decide +kernel
theorem d_M_application_25 : decode b_M_application 25 = .ok (.bipush (-3), 2) := by decide +kernel
theorem d_M_application_27 : decode b_M_application 27 = .ok (.ireturn, 1) := by decide +kernel
theorem d_M_application_28 : decode b_M_application 28 = .ok (.aload_n 0, 1) := by decide +kernel
theorem d_M_application_29 : decode b_M_application 29 = .ok (.getfield 70, 3) := by decide +kernel
theorem d_M_application_32 : decode b_M_application 32 = .ok (.bipush 16, 2) := by decide +kernel
theorem d_M_application_34 : decode b_M_application 34 = .ok (.if_icmp .ne 6, 3) := by decide +kernel
theorem d_M_application_37 : decode b_M_application 37 = .ok (.bipush (-4), 2) := by decide +kernel
theorem d_M_application_39 : decode b_M_application 39 = .ok (.ireturn, 1) := by decide +kernel
theorem d_M_application_40 : decode b_M_application 40 = .ok (.aload_n 0, 1) := by decide +kernel
theorem d_M_application_41 : decode b_M_application 41 = .ok (.dup, 1) := by decide +kernel
theorem d_M_application_42 : decode b_M_application 42 = .ok (.getfield 70, 3) := by decide +kernel
theorem d_M_application_45 : decode b_M_application 45 = .ok (.iconst 1, 1) := by decide +kernel
theorem d_M_application_46 : decode b_M_application 46 = .ok (.iadd, 1) := by decide +kernel
theorem d_M_application_47 : decode b_M_application 47 = .ok (.putfield 70, 3) := by decide +kernel
theorem d_M_application_50 : decode b_M_application 50 = .ok (.aload_n 0, 1) := by decide +kernel
theorem d_M_application_51 : decode b_M_application 51 = .ok (.getfield 7, 3) := by decide +kernel
theorem d_M_application_54 : decode b_M_application 54 = .ok (.aload_n 0, 1) := by decide +kernel
theorem d_M_application_55 : decode b_M_application 55 = .ok (.getfield 70, 3) := by decide +kernel
theorem d_M_application_58 : decode b_M_application 58 = .ok (.iload_n 1, 1) := by decide +kernel
theorem d_M_application_59 : decode b_M_application 59 = .ok (.iastore, 1) := by decide +kernel
theorem d_M_application_60 : decode b_M_application 60 = .ok (.aload_n 0, 1) := by decide +kernel
theorem d_M_application_61 : decode b_M_application 61 = .ok (.getfield 70, 3) := by decide +kernel
theorem d_M_application_64 : decode b_M_application 64 = .ok (.ireturn, 1) := by decide +kernel
theorem d_M_task_0 : decode b_M_task 0 = .ok (.aload_n 0, 1) := by decide +kernel
theorem d_M_task_1 : decode b_M_task 1 = .ok (.iload_n 1, 1) := by decide +kernel
theorem d_M_task_2 : decode b_M_task 2 = .ok (.invokevirtual 80, 3) := by decide +kernel
theorem d_M_task_5 : decode b_M_task 5 = .ok (.ifCond .eq 5, 3) := by decide +kernel
theorem d_M_task_8 : decode b_M_task 8 = .ok (.iconst (-1), 1) := by decide +kernel
theorem d_M_task_9 : decode b_M_task 9 = .ok (.ireturn, 1) := by decide +kernel
theorem d_M_task_10 : decode b_M_task 10 = .ok (.lload_n 2, 1) := by decide +kernel
theorem d_M_task_11 : decode b_M_task 11 = .ok (.lconst 0, 1) := by decide +kernel
theorem d_M_task_12 : decode b_M_task 12 = .ok (.lcmp, 1) := by decide +kernel
theorem d_M_task_13 : decode b_M_task 13 = .ok (.ifCond .lt 11, 3) := by decide +kernel
theorem d_M_task_16 : decode b_M_task 16 = .ok (.lload_n 2, 1) := by decide +kernel
theorem d_M_task_17 : decode b_M_task 17 = .ok (.ldc2_w 84, 3) := by decide +kernel
theorem d_M_task_20 : decode b_M_task 20 = .ok (.lcmp, 1) := by decide +kernel
theorem d_M_task_21 : decode b_M_task 21 = .ok (.ifCond .le 6, 3) := by decide +kernel
theorem d_M_task_24 : decode b_M_task 24 = .ok (.bipush (-2), 2) := by decide +kernel
theorem d_M_task_26 : decode b_M_task 26 = .ok (.ireturn, 1) := by decide +kernel
theorem d_M_task_27 : decode b_M_task 27 = .ok (.aload_n 0, 1) := by decide +kernel
theorem d_M_task_28 : decode b_M_task 28 = .ok (.getfield 76, 3) := by decide +kernel
theorem d_M_task_31 : decode b_M_task 31 = .ok (.ifCond .ne 12, 3) := by decide +kernel
theorem d_M_task_34 : decode b_M_task 34 = .ok (.aload_n 0, 1) := by decide +kernel
theorem d_M_task_35 : decode b_M_task 35 = .ok (.getfield 13, 3) := by decide +kernel
theorem d_M_task_38 : decode b_M_task 38 = .ok (.iload_n 1, 1) := by decide +kernel
theorem d_M_task_39 : decode b_M_task 39 = .ok (.baload, 1) := by decide +kernel
theorem d_M_task_40 : decode b_M_task 40 = .ok (.ifCond .eq 6, 3) := by decide +kernel
theorem d_M_task_43 : decode b_M_task 43 = .ok (.bipush (-3), 2) := by decide +kernel
theorem d_M_task_45 : decode b_M_task 45 = .ok (.ireturn, 1) := by decide +kernel
theorem d_M_task_46 : decode b_M_task 46 = .ok (.aload_n 0, 1) := by decide +kernel
theorem d_M_task_47 : decode b_M_task 47 = .ok (.getfield 73, 3) := by decide +kernel
theorem d_M_task_50 : decode b_M_task 50 = .ok (.bipush 60, 2) := by decide +kernel
theorem d_M_task_52 : decode b_M_task 52 = .ok (.if_icmp .ne 6, 3) := by decide +kernel
theorem d_M_task_55 : decode b_M_task 55 = .ok (.bipush (-4), 2) := by decide +kernel
theorem d_M_task_57 : decode b_M_task 57 = .ok (.ireturn, 1) := by decide +kernel
theorem d_M_task_58 : decode b_M_task 58 = .ok (.aload_n 0, 1) := by decide +kernel
theorem d_M_task_59 : decode b_M_task 59 = .ok (.dup, 1) := by decide +kernel
theorem d_M_task_60 : decode b_M_task 60 = .ok (.getfield 73, 3) := by decide +kernel
theorem d_M_task_63 : decode b_M_task 63 = .ok (.iconst 1, 1) := by decide +kernel
theorem d_M_task_64 : decode b_M_task 64 = .ok (.iadd, 1) := by decide +kernel
theorem d_M_task_65 : decode b_M_task 65 = .ok (.putfield 73, 3) := by decide +kernel
theorem d_M_task_68 : decode b_M_task 68 = .ok (.aload_n 0, 1) := by decide +kernel
theorem d_M_task_69 : decode b_M_task 69 = .ok (.getfield 27, 3) := by decide +kernel
theorem d_M_task_72 : decode b_M_task 72 = .ok (.aload_n 0, 1) := by decide +kernel
theorem d_M_task_73 : decode b_M_task 73 = .ok (.getfield 73, 3) := by decide +kernel
theorem d_M_task_76 : decode b_M_task 76 = .ok (.iload_n 1, 1) := by decide +kernel
theorem d_M_task_77 : decode b_M_task 77 = .ok (.iastore, 1) := by decide +kernel
theorem d_M_task_78 : decode b_M_task 78 = .ok (.aload_n 0, 1) := by decide +kernel
theorem d_M_task_79 : decode b_M_task 79 = .ok (.getfield 30, 3) := by decide +kernel
theorem d_M_task_82 : decode b_M_task 82 = .ok (.aload_n 0, 1) := by decide +kernel
theorem d_M_task_83 : decode b_M_task 83 = .ok (.getfield 73, 3) := by decide +kernel
theorem d_M_task_86 : decode b_M_task 86 = .ok (.lload_n 2, 1) := by decide +kernel
theorem d_M_task_87 : decode b_M_task 87 = .ok (.lastore, 1) := by decide +kernel
theorem d_M_task_88 : decode b_M_task 88 = .ok (.aload_n 0, 1) := by decide +kernel
theorem d_M_task_89 : decode b_M_task 89 = .ok (.getfield 33, 3) := by decide +kernel
theorem d_M_task_92 : decode b_M_task 92 = .ok (.aload_n 0, 1) := by decide +kernel
theorem d_M_task_93 : decode b_M_task 93 = .ok (.getfield 73, 3) := by decide +kernel
theorem d_M_task_96 : decode b_M_task 96 = .ok (.iconst 1, 1) := by decide +kernel
theorem d_M_task_97 : decode b_M_task 97 = .ok (.bastore, 1) := by decide +kernel
theorem d_M_task_98 : decode b_M_task 98 = .ok (.aload_n 0, 1) := by decide +kernel
theorem d_M_task_99 : decode b_M_task 99 = .ok (.getfield 73, 3) := by decide +kernel
theorem d_M_task_102 : decode b_M_task 102 = .ok (.ireturn, 1) := by decide +kernel
theorem d_M_region_0 : decode b_M_region 0 = .ok (.aload_n 0, 1) := by decide +kernel
theorem d_M_region_1 : decode b_M_region 1 = .ok (.iload_n 1, 1) := by decide +kernel
theorem d_M_region_2 : decode b_M_region 2 = .ok (.invokevirtual 80, 3) := by decide +kernel
theorem d_M_region_5 : decode b_M_region 5 = .ok (.ifCond .eq 5, 3) := by decide +kernel
theorem d_M_region_8 : decode b_M_region 8 = .ok (.iconst (-1), 1) := by decide +kernel
theorem d_M_region_9 : decode b_M_region 9 = .ok (.ireturn, 1) := by decide +kernel
theorem d_M_region_10 : decode b_M_region 10 = .ok (.lload_n 2, 1) := by decide +kernel
theorem d_M_region_11 : decode b_M_region 11 = .ok (.lconst 0, 1) := by decide +kernel
theorem d_M_region_12 : decode b_M_region 12 = .ok (.lcmp, 1) := by decide +kernel
theorem d_M_region_13 : decode b_M_region 13 = .ok (.ifCond .lt 27, 3) := by decide +kernel
theorem d_M_region_16 : decode b_M_region 16 = .ok (.lload 4, 2) := by decide +kernel
theorem d_M_region_18 : decode b_M_region 18 = .ok (.lconst 1, 1) := by decide +kernel
theorem d_M_region_19 : decode b_M_region 19 = .ok (.lcmp, 1) := by decide +kernel
theorem d_M_region_20 : decode b_M_region 20 = .ok (.ifCond .lt 20, 3) := by decide +kernel
theorem d_M_region_23 : decode b_M_region 23 = .ok (.lload_n 2, 1) := by decide +kernel
theorem d_M_region_24 : decode b_M_region 24 = .ok (.ldc2_w 86, 3) := by decide +kernel
theorem d_M_region_27 : decode b_M_region 27 = .ok (.lcmp, 1) := by decide +kernel
theorem d_M_region_28 : decode b_M_region 28 = .ok (.ifCond .gt 12, 3) := by decide +kernel
theorem d_M_region_31 : decode b_M_region 31 = .ok (.lload 4, 2) := by decide +kernel
theorem d_M_region_33 : decode b_M_region 33 = .ok (.ldc2_w 86, 3) := by decide +kernel
theorem d_M_region_36 : decode b_M_region 36 = .ok (.lcmp, 1) := by decide +kernel
theorem d_M_region_37 : decode b_M_region 37 = .ok (.ifCond .le 6, 3) := by decide +kernel
theorem d_M_region_40 : decode b_M_region 40 = .ok (.bipush (-2), 2) := by decide +kernel
theorem d_M_region_42 : decode b_M_region 42 = .ok (.ireturn, 1) := by decide +kernel
theorem d_M_region_43 : decode b_M_region 43 = .ok (.aload_n 0, 1) := by decide +kernel
theorem d_M_region_44 : decode b_M_region 44 = .ok (.getfield 76, 3) := by decide +kernel
theorem d_M_region_47 : decode b_M_region 47 = .ok (.ifCond .eq 6, 3) := by decide +kernel
theorem d_M_region_50 : decode b_M_region 50 = .ok (.bipush (-3), 2) := by decide +kernel
theorem d_M_region_52 : decode b_M_region 52 = .ok (.ireturn, 1) := by decide +kernel
theorem d_M_region_53 : decode b_M_region 53 = .ok (.aload_n 0, 1) := by decide +kernel
theorem d_M_region_54 : decode b_M_region 54 = .ok (.getfield 17, 3) := by decide +kernel
theorem d_M_region_57 : decode b_M_region 57 = .ok (.iload_n 1, 1) := by decide +kernel
theorem d_M_region_58 : decode b_M_region 58 = .ok (.iaload, 1) := by decide +kernel
theorem d_M_region_59 : decode b_M_region 59 = .ok (.bipush 8, 2) := by decide +kernel
theorem d_M_region_61 : decode b_M_region 61 = .ok (.if_icmp .ne 6, 3) := by decide +kernel
theorem d_M_region_64 : decode b_M_region 64 = .ok (.bipush (-4), 2) := by decide +kernel
theorem d_M_region_66 : decode b_M_region 66 = .ok (.ireturn, 1) := by decide +kernel
theorem d_M_region_67 : decode b_M_region 67 = .ok (.aload_n 0, 1) := by decide +kernel
theorem d_M_region_68 : decode b_M_region 68 = .ok (.getfield 20, 3) := by decide +kernel
theorem d_M_region_71 : decode b_M_region 71 = .ok (.bipush 8, 2) := by decide +kernel
theorem d_M_region_73 : decode b_M_region 73 = .ok (.iload_n 1, 1) := by decide +kernel
theorem d_M_region_74 : decode b_M_region 74 = .ok (.imul, 1) := by decide +kernel
theorem d_M_region_75 : decode b_M_region 75 = .ok (.aload_n 0, 1) := by decide +kernel
theorem d_M_region_76 : decode b_M_region 76 = .ok (.getfield 17, 3) := by decide +kernel
theorem d_M_region_79 : decode b_M_region 79 = .ok (.iload_n 1, 1) := by decide +kernel
theorem d_M_region_80 : decode b_M_region 80 = .ok (.iaload, 1) := by decide +kernel
theorem d_M_region_81 : decode b_M_region 81 = .ok (.iadd, 1) := by decide +kernel
theorem d_M_region_82 : decode b_M_region 82 = .ok (.lload_n 2, 1) := by decide +kernel
theorem d_M_region_83 : decode b_M_region 83 = .ok (.lastore, 1) := by decide +kernel
theorem d_M_region_84 : decode b_M_region 84 = .ok (.aload_n 0, 1) := by decide +kernel
theorem d_M_region_85 : decode b_M_region 85 = .ok (.getfield 24, 3) := by decide +kernel
theorem d_M_region_88 : decode b_M_region 88 = .ok (.bipush 8, 2) := by decide +kernel
theorem d_M_region_90 : decode b_M_region 90 = .ok (.iload_n 1, 1) := by decide +kernel
theorem d_M_region_91 : decode b_M_region 91 = .ok (.imul, 1) := by decide +kernel
theorem d_M_region_92 : decode b_M_region 92 = .ok (.aload_n 0, 1) := by decide +kernel
theorem d_M_region_93 : decode b_M_region 93 = .ok (.getfield 17, 3) := by decide +kernel
theorem d_M_region_96 : decode b_M_region 96 = .ok (.iload_n 1, 1) := by decide +kernel
theorem d_M_region_97 : decode b_M_region 97 = .ok (.iaload, 1) := by decide +kernel
theorem d_M_region_98 : decode b_M_region 98 = .ok (.iadd, 1) := by decide +kernel
theorem d_M_region_99 : decode b_M_region 99 = .ok (.lload 4, 2) := by decide +kernel
theorem d_M_region_101 : decode b_M_region 101 = .ok (.lastore, 1) := by decide +kernel
theorem d_M_region_102 : decode b_M_region 102 = .ok (.aload_n 0, 1) := by decide +kernel
theorem d_M_region_103 : decode b_M_region 103 = .ok (.getfield 17, 3) := by decide +kernel
theorem d_M_region_106 : decode b_M_region 106 = .ok (.iload_n 1, 1) := by decide +kernel
theorem d_M_region_107 : decode b_M_region 107 = .ok (.dup2, 1) := by decide +kernel
theorem d_M_region_108 : decode b_M_region 108 = .ok (.iaload, 1) := by decide +kernel
theorem d_M_region_109 : decode b_M_region 109 = .ok (.iconst 1, 1) := by decide +kernel
theorem d_M_region_110 : decode b_M_region 110 = .ok (.iadd, 1) := by decide +kernel
theorem d_M_region_111 : decode b_M_region 111 = .ok (.iastore, 1) := by decide +kernel
theorem d_M_region_112 : decode b_M_region 112 = .ok (.aload_n 0, 1) := by decide +kernel
theorem d_M_region_113 : decode b_M_region 113 = .ok (.getfield 17, 3) := by decide +kernel
theorem d_M_region_116 : decode b_M_region 116 = .ok (.iload_n 1, 1) := by decide +kernel
theorem d_M_region_117 : decode b_M_region 117 = .ok (.iaload, 1) := by decide +kernel
theorem d_M_region_118 : decode b_M_region 118 = .ok (.ireturn, 1) := by decide +kernel
theorem d_M_holds_0 : decode b_M_holds 0 = .ok (.aload_n 0, 1) := by decide +kernel
theorem d_M_holds_1 : decode b_M_holds 1 = .ok (.iload_n 1, 1) := by decide +kernel
theorem d_M_holds_2 : decode b_M_holds 2 = .ok (.invokevirtual 88, 3) := by decide +kernel
theorem d_M_holds_5 : decode b_M_holds 5 = .ok (.ifCond .eq 5, 3) := by decide +kernel
theorem d_M_holds_8 : decode b_M_holds 8 = .ok (.iconst (-1), 1) := by decide +kernel
theorem d_M_holds_9 : decode b_M_holds 9 = .ok (.ireturn, 1) := by decide +kernel
theorem d_M_holds_10 : decode b_M_holds 10 = .ok (.iload_n 2, 1) := by decide +kernel
theorem d_M_holds_11 : decode b_M_holds 11 = .ok (.ifCond .lt 19, 3) := by decide +kernel
theorem d_M_holds_14 : decode b_M_holds 14 = .ok (.iload_n 2, 1) := by decide +kernel
theorem d_M_holds_15 : decode b_M_holds 15 = .ok (.iconst 3, 1) := by decide +kernel
theorem d_M_holds_16 : decode b_M_holds 16 = .ok (.if_icmp .gt 14, 3) := by decide +kernel
theorem d_M_holds_19 : decode b_M_holds 19 = .ok (.iload_n 3, 1) := by decide +kernel
theorem d_M_holds_20 : decode b_M_holds 20 = .ok (.iconst 1, 1) := by decide +kernel
theorem d_M_holds_21 : decode b_M_holds 21 = .ok (.if_icmp .lt 9, 3) := by decide +kernel
theorem d_M_holds_24 : decode b_M_holds 24 = .ok (.iload_n 3, 1) := by decide +kernel
theorem d_M_holds_25 : decode b_M_holds 25 = .ok (.bipush 32, 2) := by decide +kernel
theorem d_M_holds_27 : decode b_M_holds 27 = .ok (.if_icmp .le 6, 3) := by decide +kernel
theorem d_M_holds_30 : decode b_M_holds 30 = .ok (.bipush (-2), 2) := by decide +kernel
theorem d_M_holds_32 : decode b_M_holds 32 = .ok (.ireturn, 1) := by decide +kernel
theorem d_M_holds_33 : decode b_M_holds 33 = .ok (.aload_n 0, 1) := by decide +kernel
theorem d_M_holds_34 : decode b_M_holds 34 = .ok (.getfield 76, 3) := by decide +kernel
theorem d_M_holds_37 : decode b_M_holds 37 = .ok (.ifCond .ne 28, 3) := by decide +kernel
theorem d_M_holds_40 : decode b_M_holds 40 = .ok (.aload_n 0, 1) := by decide +kernel
theorem d_M_holds_41 : decode b_M_holds 41 = .ok (.getfield 33, 3) := by decide +kernel
theorem d_M_holds_44 : decode b_M_holds 44 = .ok (.iload_n 1, 1) := by decide +kernel
theorem d_M_holds_45 : decode b_M_holds 45 = .ok (.baload, 1) := by decide +kernel
theorem d_M_holds_46 : decode b_M_holds 46 = .ok (.ifCond .eq 19, 3) := by decide +kernel
theorem d_M_holds_49 : decode b_M_holds 49 = .ok (.aload_n 0, 1) := by decide +kernel
theorem d_M_holds_50 : decode b_M_holds 50 = .ok (.getfield 48, 3) := by decide +kernel
theorem d_M_holds_53 : decode b_M_holds 53 = .ok (.bipush 32, 2) := by decide +kernel
theorem d_M_holds_55 : decode b_M_holds 55 = .ok (.iload_n 2, 1) := by decide +kernel
theorem d_M_holds_56 : decode b_M_holds 56 = .ok (.imul, 1) := by decide +kernel
theorem d_M_holds_57 : decode b_M_holds 57 = .ok (.iload_n 3, 1) := by decide +kernel
theorem d_M_holds_58 : decode b_M_holds 58 = .ok (.iadd, 1) := by decide +kernel
theorem d_M_holds_59 : decode b_M_holds 59 = .ok (.iconst 1, 1) := by decide +kernel
theorem d_M_holds_60 : decode b_M_holds 60 = .ok (.isub, 1) := by decide +kernel
theorem d_M_holds_61 : decode b_M_holds 61 = .ok (.iaload, 1) := by decide +kernel
theorem d_M_holds_62 : decode b_M_holds 62 = .ok (.ifCond .le 6, 3) := by decide +kernel
theorem d_M_holds_65 : decode b_M_holds 65 = .ok (.bipush (-3), 2) := by decide +kernel
theorem d_M_holds_67 : decode b_M_holds 67 = .ok (.ireturn, 1) := by decide +kernel
theorem d_M_holds_68 : decode b_M_holds 68 = .ok (.aload_n 0, 1) := by decide +kernel
theorem d_M_holds_69 : decode b_M_holds 69 = .ok (.getfield 48, 3) := by decide +kernel
theorem d_M_holds_72 : decode b_M_holds 72 = .ok (.bipush 32, 2) := by decide +kernel
theorem d_M_holds_74 : decode b_M_holds 74 = .ok (.iload_n 2, 1) := by decide +kernel
theorem d_M_holds_75 : decode b_M_holds 75 = .ok (.imul, 1) := by decide +kernel
theorem d_M_holds_76 : decode b_M_holds 76 = .ok (.iload_n 3, 1) := by decide +kernel
theorem d_M_holds_77 : decode b_M_holds 77 = .ok (.iadd, 1) := by decide +kernel
theorem d_M_holds_78 : decode b_M_holds 78 = .ok (.iconst 1, 1) := by decide +kernel
theorem d_M_holds_79 : decode b_M_holds 79 = .ok (.isub, 1) := by decide +kernel
theorem d_M_holds_80 : decode b_M_holds 80 = .ok (.iload_n 1, 1) := by decide +kernel
theorem d_M_holds_81 : decode b_M_holds 81 = .ok (.iastore, 1) := by decide +kernel
theorem d_M_holds_82 : decode b_M_holds 82 = .ok (.iconst 0, 1) := by decide +kernel
theorem d_M_holds_83 : decode b_M_holds 83 = .ok (.istore 4, 2) := by decide +kernel
theorem d_M_holds_85 : decode b_M_holds 85 = .ok (.iconst 0, 1) := by decide +kernel
theorem d_M_holds_86 : decode b_M_holds 86 = .ok (.istore 5, 2) := by decide +kernel
theorem d_M_holds_88 : decode b_M_holds 88 = .ok (.iload 5, 2) := by decide +kernel
theorem d_M_holds_90 : decode b_M_holds 90 = .ok (.sipush 128, 3) := by decide +kernel
theorem d_M_holds_93 : decode b_M_holds 93 = .ok (.if_icmp .ge 31, 3) := by decide +kernel
theorem d_M_holds_96 : decode b_M_holds 96 = .ok (.aload_n 0, 1) := by decide +kernel
theorem d_M_holds_97 : decode b_M_holds 97 = .ok (.getfield 48, 3) := by decide +kernel
theorem d_M_holds_100 : decode b_M_holds 100 = .ok (.iload 5, 2) := by decide +kernel
theorem d_M_holds_102 : decode b_M_holds 102 = .ok (.iaload, 1) := by decide +kernel
theorem d_M_holds_103 : decode b_M_holds 103 = .ok (.iload_n 1, 1) := by decide +kernel
theorem d_M_holds_104 : decode b_M_holds 104 = .ok (.if_icmp .ne 10, 3) := by decide +kernel
theorem d_M_holds_107 : decode b_M_holds 107 = .ok (.iload 4, 2) := by decide +kernel
theorem d_M_holds_109 : decode b_M_holds 109 = .ok (.iconst 1, 1) := by decide +kernel
theorem d_M_holds_110 : decode b_M_holds 110 = .ok (.iadd, 1) := by decide +kernel
theorem d_M_holds_111 : decode b_M_holds 111 = .ok (.goto 5, 3) := by decide +kernel
theorem d_M_holds_114 : decode b_M_holds 114 = .ok (.iload 4, 2) := by decide +kernel
theorem d_M_holds_116 : decode b_M_holds 116 = .ok (.istore 4, 2) := by decide +kernel
theorem d_M_holds_118 : decode b_M_holds 118 = .ok (.iinc 5 1, 3) := by decide +kernel
theorem d_M_holds_121 : decode b_M_holds 121 = .ok (.goto (-33), 3) := by decide +kernel
theorem d_M_holds_124 : decode b_M_holds 124 = .ok (.iload 4, 2) := by decide +kernel
theorem d_M_holds_126 : decode b_M_holds 126 = .ok (.ireturn, 1) := by decide +kernel
theorem d_M_hook_0 : decode b_M_hook 0 = .ok (.aload_n 0, 1) := by decide +kernel
theorem d_M_hook_1 : decode b_M_hook 1 = .ok (.iconst 0, 1) := by decide +kernel
theorem d_M_hook_2 : decode b_M_hook 2 = .ok (.putfield 66, 3) := by decide +kernel
theorem d_M_hook_5 : decode b_M_hook 5 = .ok (.iload_n 1, 1) := by decide +kernel
theorem d_M_hook_6 : decode b_M_hook 6 = .ok (.ifCond .lt 8, 3) := by decide +kernel
theorem d_M_hook_9 : decode b_M_hook 9 = .ok (.iload_n 1, 1) := by decide +kernel
theorem d_M_hook_10 : decode b_M_hook 10 = .ok (.iconst 2, 1) := by decide +kernel
theorem d_M_hook_11 : decode b_M_hook 11 = .ok (.if_icmp .le 5, 3) := by decide +kernel
theorem d_M_hook_14 : decode b_M_hook 14 = .ok (.iconst (-1), 1) := by decide +kernel
theorem d_M_hook_15 : decode b_M_hook 15 = .ok (.ireturn, 1) := by decide +kernel
theorem d_M_hook_16 : decode b_M_hook 16 = .ok (.iload_n 2, 1) := by decide +kernel
theorem d_M_hook_17 : decode b_M_hook 17 = .ok (.ifCond .lt 8, 3) := by decide +kernel
theorem d_M_hook_20 : decode b_M_hook 20 = .ok (.iload_n 2, 1) := by decide +kernel
theorem d_M_hook_21 : decode b_M_hook 21 = .ok (.iconst 5, 1) := by decide +kernel
theorem d_M_hook_22 : decode b_M_hook 22 = .ok (.if_icmp .le 6, 3) := by decide +kernel
theorem d_M_hook_25 : decode b_M_hook 25 = .ok (.bipush (-2), 2) := by decide +kernel
theorem d_M_hook_27 : decode b_M_hook 27 = .ok (.ireturn, 1) := by decide +kernel
theorem d_M_hook_28 : decode b_M_hook 28 = .ok (.aload_n 0, 1) := by decide +kernel
theorem d_M_hook_29 : decode b_M_hook 29 = .ok (.getfield 76, 3) := by decide +kernel
theorem d_M_hook_32 : decode b_M_hook 32 = .ok (.ifCond .eq 6, 3) := by decide +kernel
theorem d_M_hook_35 : decode b_M_hook 35 = .ok (.bipush (-3), 2) := by decide +kernel
theorem d_M_hook_37 : decode b_M_hook 37 = .ok (.ireturn, 1) := by decide +kernel
theorem d_M_hook_38 : decode b_M_hook 38 = .ok (.aload_n 0, 1) := by decide +kernel
theorem d_M_hook_39 : decode b_M_hook 39 = .ok (.getfield 51, 3) := by decide +kernel
theorem d_M_hook_42 : decode b_M_hook 42 = .ok (.iload_n 1, 1) := by decide +kernel
theorem d_M_hook_43 : decode b_M_hook 43 = .ok (.iload_n 2, 1) := by decide +kernel
theorem d_M_hook_44 : decode b_M_hook 44 = .ok (.iastore, 1) := by decide +kernel
theorem d_M_hook_45 : decode b_M_hook 45 = .ok (.aload_n 0, 1) := by decide +kernel
theorem d_M_hook_46 : decode b_M_hook 46 = .ok (.getfield 54, 3) := by decide +kernel
theorem d_M_hook_49 : decode b_M_hook 49 = .ok (.iload_n 1, 1) := by decide +kernel
theorem d_M_hook_50 : decode b_M_hook 50 = .ok (.iload_n 3, 1) := by decide +kernel
theorem d_M_hook_51 : decode b_M_hook 51 = .ok (.bastore, 1) := by decide +kernel
theorem d_M_hook_52 : decode b_M_hook 52 = .ok (.iconst 1, 1) := by decide +kernel
theorem d_M_hook_53 : decode b_M_hook 53 = .ok (.ireturn, 1) := by decide +kernel
theorem d_M_shutDown_0 : decode b_M_shutDown 0 = .ok (.aload_n 0, 1) := by decide +kernel
theorem d_M_shutDown_1 : decode b_M_shutDown 1 = .ok (.iconst 1, 1) := by decide +kernel
theorem d_M_shutDown_2 : decode b_M_shutDown 2 = .ok (.putfield 76, 3) := by decide +kernel
theorem d_M_shutDown_5 : decode b_M_shutDown 5 = .ok (.iconst 1, 1) := by decide +kernel
theorem d_M_shutDown_6 : decode b_M_shutDown 6 = .ok (.istore_n 1, 1) := by decide +kernel
theorem d_M_shutDown_7 : decode b_M_shutDown 7 = .ok (.iload_n 1, 1) := by decide +kernel
theorem d_M_shutDown_8 : decode b_M_shutDown 8 = .ok (.aload_n 0, 1) := by decide +kernel
theorem d_M_shutDown_9 : decode b_M_shutDown 9 = .ok (.getfield 73, 3) := by decide +kernel
theorem d_M_shutDown_12 : decode b_M_shutDown 12 = .ok (.if_icmp .gt 16, 3) := by decide +kernel
theorem d_M_shutDown_15 : decode b_M_shutDown 15 = .ok (.aload_n 0, 1) := by decide +kernel
theorem d_M_shutDown_16 : decode b_M_shutDown 16 = .ok (.getfield 33, 3) := by decide +kernel
theorem d_M_shutDown_19 : decode b_M_shutDown 19 = .ok (.iload_n 1, 1) := by decide +kernel
theorem d_M_shutDown_20 : decode b_M_shutDown 20 = .ok (.iconst 0, 1) := by decide +kernel
theorem d_M_shutDown_21 : decode b_M_shutDown 21 = .ok (.bastore, 1) := by decide +kernel
theorem d_M_shutDown_22 : decode b_M_shutDown 22 = .ok (.iinc 1 1, 3) := by decide +kernel
theorem d_M_shutDown_25 : decode b_M_shutDown 25 = .ok (.goto (-18), 3) := by decide +kernel
theorem d_M_shutDown_28 : decode b_M_shutDown 28 = .ok (.iconst 1, 1) := by decide +kernel
theorem d_M_shutDown_29 : decode b_M_shutDown 29 = .ok (.istore_n 1, 1) := by decide +kernel
theorem d_M_shutDown_30 : decode b_M_shutDown 30 = .ok (.iload_n 1, 1) := by decide +kernel
theorem d_M_shutDown_31 : decode b_M_shutDown 31 = .ok (.aload_n 0, 1) := by decide +kernel
theorem d_M_shutDown_32 : decode b_M_shutDown 32 = .ok (.getfield 70, 3) := by decide +kernel
theorem d_M_shutDown_35 : decode b_M_shutDown 35 = .ok (.if_icmp .gt 16, 3) := by decide +kernel
theorem d_M_shutDown_38 : decode b_M_shutDown 38 = .ok (.aload_n 0, 1) := by decide +kernel
theorem d_M_shutDown_39 : decode b_M_shutDown 39 = .ok (.getfield 13, 3) := by decide +kernel
theorem d_M_shutDown_42 : decode b_M_shutDown 42 = .ok (.iload_n 1, 1) := by decide +kernel
theorem d_M_shutDown_43 : decode b_M_shutDown 43 = .ok (.iconst 1, 1) := by decide +kernel
theorem d_M_shutDown_44 : decode b_M_shutDown 44 = .ok (.bastore, 1) := by decide +kernel
theorem d_M_shutDown_45 : decode b_M_shutDown 45 = .ok (.iinc 1 1, 3) := by decide +kernel
theorem d_M_shutDown_48 : decode b_M_shutDown 48 = .ok (.goto (-18), 3) := by decide +kernel
theorem d_M_shutDown_51 : decode b_M_shutDown 51 = .ok (.return_, 1) := by decide +kernel
theorem d_M_end_0 : decode b_M_end 0 = .ok (.aload_n 0, 1) := by decide +kernel
theorem d_M_end_1 : decode b_M_end 1 = .ok (.getfield 33, 3) := by decide +kernel
theorem d_M_end_4 : decode b_M_end 4 = .ok (.iload_n 1, 1) := by decide +kernel
theorem d_M_end_5 : decode b_M_end 5 = .ok (.iconst 0, 1) := by decide +kernel
theorem d_M_end_6 : decode b_M_end 6 = .ok (.bastore, 1) := by decide +kernel
theorem d_M_end_7 : decode b_M_end 7 = .ok (.iconst 0, 1) := by decide +kernel
theorem d_M_end_8 : decode b_M_end 8 = .ok (.istore_n 2, 1) := by decide +kernel
theorem d_M_end_9 : decode b_M_end 9 = .ok (.iload_n 2, 1) := by decide +kernel
theorem d_M_end_10 : decode b_M_end 10 = .ok (.sipush 128, 3) := by decide +kernel
theorem d_M_end_13 : decode b_M_end 13 = .ok (.if_icmp .ge 111, 3) := by decide +kernel
theorem d_M_end_16 : decode b_M_end 16 = .ok (.aload_n 0, 1) := by decide +kernel
theorem d_M_end_17 : decode b_M_end 17 = .ok (.getfield 76, 3) := by decide +kernel
theorem d_M_end_20 : decode b_M_end 20 = .ok (.ifCond .ne 104, 3) := by decide +kernel
theorem d_M_end_23 : decode b_M_end 23 = .ok (.aload_n 0, 1) := by decide +kernel
theorem d_M_end_24 : decode b_M_end 24 = .ok (.getfield 48, 3) := by decide +kernel
theorem d_M_end_27 : decode b_M_end 27 = .ok (.iload_n 2, 1) := by decide +kernel
theorem d_M_end_28 : decode b_M_end 28 = .ok (.iaload, 1) := by decide +kernel
theorem d_M_end_29 : decode b_M_end 29 = .ok (.iload_n 1, 1) := by decide +kernel
theorem d_M_end_30 : decode b_M_end 30 = .ok (.if_icmp .eq 6, 3) := by decide +kernel
theorem d_M_end_33 : decode b_M_end 33 = .ok (.goto 85, 3) := by decide +kernel
theorem d_M_end_36 : decode b_M_end 36 = .ok (.aload_n 0, 1) := by decide +kernel
theorem d_M_end_37 : decode b_M_end 37 = .ok (.getfield 48, 3) := by decide +kernel
theorem d_M_end_40 : decode b_M_end 40 = .ok (.iload_n 2, 1) := by decide +kernel
theorem d_M_end_41 : decode b_M_end 41 = .ok (.iconst 0, 1) := by decide +kernel
theorem d_M_end_42 : decode b_M_end 42 = .ok (.iastore, 1) := by decide +kernel
theorem d_M_end_43 : decode b_M_end 43 = .ok (.aload_n 0, 1) := by decide +kernel
theorem d_M_end_44 : decode b_M_end 44 = .ok (.getfield 91, 3) := by decide +kernel
theorem d_M_end_47 : decode b_M_end 47 = .ok (.sipush 500, 3) := by decide +kernel
theorem d_M_end_50 : decode b_M_end 50 = .ok (.if_icmp .ge 23, 3) := by decide +kernel
theorem d_M_end_53 : decode b_M_end 53 = .ok (.aload_n 0, 1) := by decide +kernel
theorem d_M_end_54 : decode b_M_end 54 = .ok (.getfield 57, 3) := by decide +kernel
theorem d_M_end_57 : decode b_M_end 57 = .ok (.aload_n 0, 1) := by decide +kernel
theorem d_M_end_58 : decode b_M_end 58 = .ok (.getfield 91, 3) := by decide +kernel
theorem d_M_end_61 : decode b_M_end 61 = .ok (.iload_n 1, 1) := by decide +kernel
theorem d_M_end_62 : decode b_M_end 62 = .ok (.iastore, 1) := by decide +kernel
theorem d_M_end_63 : decode b_M_end 63 = .ok (.aload_n 0, 1) := by decide +kernel
theorem d_M_end_64 : decode b_M_end 64 = .ok (.getfield 60, 3) := by decide +kernel
theorem d_M_end_67 : decode b_M_end 67 = .ok (.aload_n 0, 1) := by decide +kernel
theorem d_M_end_68 : decode b_M_end 68 = .ok (.getfield 91, 3) := by decide +kernel
theorem d_M_end_71 : decode b_M_end 71 = .ok (.iload_n 2, 1) := by decide +kernel
theorem d_M_end_72 : decode b_M_end 72 = .ok (.iastore, 1) := by decide +kernel
theorem d_M_end_73 : decode b_M_end 73 = .ok (.aload_n 0, 1) := by decide +kernel
theorem d_M_end_74 : decode b_M_end 74 = .ok (.dup, 1) := by decide +kernel
theorem d_M_end_75 : decode b_M_end 75 = .ok (.getfield 91, 3) := by decide +kernel
theorem d_M_end_78 : decode b_M_end 78 = .ok (.iconst 1, 1) := by decide +kernel
theorem d_M_end_79 : decode b_M_end 79 = .ok (.iadd, 1) := by decide +kernel
theorem d_M_end_80 : decode b_M_end 80 = .ok (.putfield 91, 3) := by decide +kernel
theorem d_M_end_83 : decode b_M_end 83 = .ok (.aload_n 0, 1) := by decide +kernel
theorem d_M_end_84 : decode b_M_end 84 = .ok (.iload_n 2, 1) := by decide +kernel
theorem d_M_end_85 : decode b_M_end 85 = .ok (.bipush 96, 2) := by decide +kernel
theorem d_M_end_87 : decode b_M_end 87 = .ok (.if_icmp .lt 12, 3) := by decide +kernel
theorem d_M_end_90 : decode b_M_end 90 = .ok (.aload_n 0, 1) := by decide +kernel
theorem d_M_end_91 : decode b_M_end 91 = .ok (.getfield 94, 3) := by decide +kernel
theorem d_M_end_94 : decode b_M_end 94 = .ok (.iconst 1, 1) := by decide +kernel
theorem d_M_end_95 : decode b_M_end 95 = .ok (.iadd, 1) := by decide +kernel
theorem d_M_end_96 : decode b_M_end 96 = .ok (.goto 7, 3) := by decide +kernel
theorem d_M_end_99 : decode b_M_end 99 = .ok (.aload_n 0, 1) := by decide +kernel
theorem d_M_end_100 : decode b_M_end 100 = .ok (.getfield 94, 3) := by decide +kernel
theorem d_M_end_103 : decode b_M_end 103 = .ok (.putfield 94, 3) := by decide +kernel
theorem d_M_end_106 : decode b_M_end 106 = .ok (.aload_n 0, 1) := by decide +kernel
theorem d_M_end_107 : decode b_M_end 107 = .ok (.getfield 94, 3) := by decide +kernel
theorem d_M_end_110 : decode b_M_end 110 = .ok (.iconst 2, 1) := by decide +kernel
theorem d_M_end_111 : decode b_M_end 111 = .ok (.if_icmp .ne 7, 3) := by decide +kernel
theorem d_M_end_114 : decode b_M_end 114 = .ok (.aload_n 0, 1) := by decide +kernel
theorem d_M_end_115 : decode b_M_end 115 = .ok (.invokevirtual 97, 3) := by decide +kernel
theorem d_M_end_118 : decode b_M_end 118 = .ok (.iinc 2 1, 3) := by decide +kernel
theorem d_M_end_121 : decode b_M_end 121 = .ok (.goto (-112), 3) := by decide +kernel
theorem d_M_end_124 : decode b_M_end 124 = .ok (.return_, 1) := by decide +kernel
