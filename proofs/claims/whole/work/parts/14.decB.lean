/-! what the bytes of the methods are (by program) -/
theorem d_TB_init_0 : decode (mB M_TB_init) 0 = .ok (.aload_n 0, 1) := by decide +kernel
theorem d_TB_init_1 : decode (mB M_TB_init) 1 = .ok (.invokespecial 1, 3) := by decide +kernel
theorem d_TB_init_4 : decode (mB M_TB_init) 4 = .ok (.aload_n 0, 1) := by decide +kernel
theorem d_TB_init_5 : decode (mB M_TB_init) 5 = .ok (.bipush 48, 2) := by decide +kernel
theorem d_TB_init_7 : decode (mB M_TB_init) 7 = .ok (.anewarray 9, 3) := by decide +kernel
theorem d_TB_init_10 : decode (mB M_TB_init) 10 = .ok (.putfield 11, 3) := by decide +kernel
theorem d_TB_init_13 : decode (mB M_TB_init) 13 = .ok (.aload_n 0, 1) := by decide +kernel
theorem d_TB_init_14 : decode (mB M_TB_init) 14 = .ok (.bipush 10, 2) := by decide +kernel
theorem d_TB_init_16 : decode (mB M_TB_init) 16 = .ok (.anewarray 15, 3) := by decide +kernel
theorem d_TB_init_19 : decode (mB M_TB_init) 19 = .ok (.putfield 17, 3) := by decide +kernel
theorem d_TB_init_22 : decode (mB M_TB_init) 22 = .ok (.aload_n 0, 1) := by decide +kernel
theorem d_TB_init_23 : decode (mB M_TB_init) 23 = .ok (.new 21, 3) := by decide +kernel
theorem d_TB_init_26 : decode (mB M_TB_init) 26 = .ok (.dup, 1) := by decide +kernel
theorem d_TB_init_27 : decode (mB M_TB_init) 27 = .ok (.bipush 48, 2) := by decide +kernel
theorem d_TB_init_29 : decode (mB M_TB_init) 29 = .ok (.invokespecial 23, 3) := by decide +kernel
theorem d_TB_init_32 : decode (mB M_TB_init) 32 = .ok (.putfield 26, 3) := by decide +kernel
theorem d_TB_init_35 : decode (mB M_TB_init) 35 = .ok (.return_, 1) := by decide +kernel
theorem d_TB_pass_0 : decode (mB M_TB_pass) 0 = .ok (.iload_n 1, 1) := by decide +kernel
theorem d_TB_pass_1 : decode (mB M_TB_pass) 1 = .ok (.ifCond .lt 9, 3) := by decide +kernel
theorem d_TB_pass_4 : decode (mB M_TB_pass) 4 = .ok (.iload_n 1, 1) := by decide +kernel
theorem d_TB_pass_5 : decode (mB M_TB_pass) 5 = .ok (.ldc 30, 2) := by decide +kernel
theorem d_TB_pass_7 : decode (mB M_TB_pass) 7 = .ok (.if_icmp .le 13, 3) := by decide +kernel
theorem d_TB_pass_10 : decode (mB M_TB_pass) 10 = .ok (.new 31, 3) := by decide +kernel
theorem d_TB_pass_13 : decode (mB M_TB_pass) 13 = .ok (.dup, 1) := by decide +kernel
theorem d_TB_pass_14 : decode (mB M_TB_pass) 14 = .ok (.ldc 33, 2) := by decide +kernel
theorem d_TB_pass_16 : decode (mB M_TB_pass) 16 = .ok (.invokespecial 35, 3) := by decide +kernel
theorem d_TB_pass_19 : decode (mB M_TB_pass) 19 = .ok (.athrow, 1) := by decide +kernel
theorem d_TB_pass_20 : decode (mB M_TB_pass) 20 = .ok (.aload_n 0, 1) := by decide +kernel
theorem d_TB_pass_21 : decode (mB M_TB_pass) 21 = .ok (.dup, 1) := by decide +kernel
theorem d_TB_pass_22 : decode (mB M_TB_pass) 22 = .ok (.getfield 38, 3) := by decide +kernel
theorem d_TB_pass_25 : decode (mB M_TB_pass) 25 = .ok (.iload_n 1, 1) := by decide +kernel
theorem d_TB_pass_26 : decode (mB M_TB_pass) 26 = .ok (.iadd, 1) := by decide +kernel
theorem d_TB_pass_27 : decode (mB M_TB_pass) 27 = .ok (.putfield 38, 3) := by decide +kernel
theorem d_TB_pass_30 : decode (mB M_TB_pass) 30 = .ok (.iconst 0, 1) := by decide +kernel
theorem d_TB_pass_31 : decode (mB M_TB_pass) 31 = .ok (.istore_n 2, 1) := by decide +kernel
theorem d_TB_pass_32 : decode (mB M_TB_pass) 32 = .ok (.iload_n 2, 1) := by decide +kernel
theorem d_TB_pass_33 : decode (mB M_TB_pass) 33 = .ok (.aload_n 0, 1) := by decide +kernel
theorem d_TB_pass_34 : decode (mB M_TB_pass) 34 = .ok (.getfield 42, 3) := by decide +kernel
theorem d_TB_pass_37 : decode (mB M_TB_pass) 37 = .ok (.if_icmp .ge 22, 3) := by decide +kernel
theorem d_TB_pass_40 : decode (mB M_TB_pass) 40 = .ok (.aload_n 0, 1) := by decide +kernel
theorem d_TB_pass_41 : decode (mB M_TB_pass) 41 = .ok (.getfield 11, 3) := by decide +kernel
theorem d_TB_pass_44 : decode (mB M_TB_pass) 44 = .ok (.iload_n 2, 1) := by decide +kernel
theorem d_TB_pass_45 : decode (mB M_TB_pass) 45 = .ok (.aaload, 1) := by decide +kernel
theorem d_TB_pass_46 : decode (mB M_TB_pass) 46 = .ok (.aload_n 0, 1) := by decide +kernel
theorem d_TB_pass_47 : decode (mB M_TB_pass) 47 = .ok (.getfield 38, 3) := by decide +kernel
theorem d_TB_pass_50 : decode (mB M_TB_pass) 50 = .ok (.invokevirtual 45, 3) := by decide +kernel
theorem d_TB_pass_53 : decode (mB M_TB_pass) 53 = .ok (.iinc 2 1, 3) := by decide +kernel
theorem d_TB_pass_56 : decode (mB M_TB_pass) 56 = .ok (.goto (-24), 3) := by decide +kernel
theorem d_TB_pass_59 : decode (mB M_TB_pass) 59 = .ok (.aload_n 0, 1) := by decide +kernel
theorem d_TB_pass_60 : decode (mB M_TB_pass) 60 = .ok (.getfield 38, 3) := by decide +kernel
theorem d_TB_pass_63 : decode (mB M_TB_pass) 63 = .ok (.ireturn, 1) := by decide +kernel
theorem d_TB_unit_0 : decode (mB M_TB_unit) 0 = .ok (.iload_n 1, 1) := by decide +kernel
theorem d_TB_unit_1 : decode (mB M_TB_unit) 1 = .ok (.bipush 16, 2) := by decide +kernel
theorem d_TB_unit_3 : decode (mB M_TB_unit) 3 = .ok (.invokestatic 48, 3) := by decide +kernel
theorem d_TB_unit_6 : decode (mB M_TB_unit) 6 = .ok (.ifCond .eq 20, 3) := by decide +kernel
theorem d_TB_unit_9 : decode (mB M_TB_unit) 9 = .ok (.iload_n 2, 1) := by decide +kernel
theorem d_TB_unit_10 : decode (mB M_TB_unit) 10 = .ok (.iconst 4, 1) := by decide +kernel
theorem d_TB_unit_11 : decode (mB M_TB_unit) 11 = .ok (.invokestatic 48, 3) := by decide +kernel
theorem d_TB_unit_14 : decode (mB M_TB_unit) 14 = .ok (.ifCond .eq 12, 3) := by decide +kernel
theorem d_TB_unit_17 : decode (mB M_TB_unit) 17 = .ok (.iload_n 3, 1) := by decide +kernel
theorem d_TB_unit_18 : decode (mB M_TB_unit) 18 = .ok (.iload 4, 2) := by decide +kernel
theorem d_TB_unit_20 : decode (mB M_TB_unit) 20 = .ok (.invokestatic 52, 3) := by decide +kernel
theorem d_TB_unit_23 : decode (mB M_TB_unit) 23 = .ok (.ifCond .ne 13, 3) := by decide +kernel
theorem d_TB_unit_26 : decode (mB M_TB_unit) 26 = .ok (.new 31, 3) := by decide +kernel
theorem d_TB_unit_29 : decode (mB M_TB_unit) 29 = .ok (.dup, 1) := by decide +kernel
theorem d_TB_unit_30 : decode (mB M_TB_unit) 30 = .ok (.ldc 55, 2) := by decide +kernel
theorem d_TB_unit_32 : decode (mB M_TB_unit) 32 = .ok (.invokespecial 35, 3) := by decide +kernel
theorem d_TB_unit_35 : decode (mB M_TB_unit) 35 = .ok (.athrow, 1) := by decide +kernel
theorem d_TB_unit_36 : decode (mB M_TB_unit) 36 = .ok (.iload 5, 2) := by decide +kernel
theorem d_TB_unit_38 : decode (mB M_TB_unit) 38 = .ok (.iconst 1, 1) := by decide +kernel
theorem d_TB_unit_39 : decode (mB M_TB_unit) 39 = .ok (.if_icmp .lt 10, 3) := by decide +kernel
theorem d_TB_unit_42 : decode (mB M_TB_unit) 42 = .ok (.iload 5, 2) := by decide +kernel
theorem d_TB_unit_44 : decode (mB M_TB_unit) 44 = .ok (.ldc 57, 2) := by decide +kernel
theorem d_TB_unit_46 : decode (mB M_TB_unit) 46 = .ok (.if_icmp .le 13, 3) := by decide +kernel
theorem d_TB_unit_49 : decode (mB M_TB_unit) 49 = .ok (.new 31, 3) := by decide +kernel
theorem d_TB_unit_52 : decode (mB M_TB_unit) 52 = .ok (.dup, 1) := by decide +kernel
theorem d_TB_unit_53 : decode (mB M_TB_unit) 53 = .ok (.ldc 58, 2) := by decide +kernel
theorem d_TB_unit_55 : decode (mB M_TB_unit) 55 = .ok (.invokespecial 35, 3) := by decide +kernel
theorem d_TB_unit_58 : decode (mB M_TB_unit) 58 = .ok (.athrow, 1) := by decide +kernel
theorem d_TB_unit_59 : decode (mB M_TB_unit) 59 = .ok (.aload_n 0, 1) := by decide +kernel
theorem d_TB_unit_60 : decode (mB M_TB_unit) 60 = .ok (.iconst 1, 1) := by decide +kernel
theorem d_TB_unit_61 : decode (mB M_TB_unit) 61 = .ok (.invokevirtual 60, 3) := by decide +kernel
theorem d_TB_unit_64 : decode (mB M_TB_unit) 64 = .ok (.ifCond .ne 13, 3) := by decide +kernel
theorem d_TB_unit_67 : decode (mB M_TB_unit) 67 = .ok (.new 64, 3) := by decide +kernel
theorem d_TB_unit_70 : decode (mB M_TB_unit) 70 = .ok (.dup, 1) := by decide +kernel
theorem d_TB_unit_71 : decode (mB M_TB_unit) 71 = .ok (.ldc 66, 2) := by decide +kernel
theorem d_TB_unit_73 : decode (mB M_TB_unit) 73 = .ok (.invokespecial 68, 3) := by decide +kernel
theorem d_TB_unit_76 : decode (mB M_TB_unit) 76 = .ok (.athrow, 1) := by decide +kernel
theorem d_TB_unit_77 : decode (mB M_TB_unit) 77 = .ok (.aload_n 0, 1) := by decide +kernel
theorem d_TB_unit_78 : decode (mB M_TB_unit) 78 = .ok (.new 9, 3) := by decide +kernel
theorem d_TB_unit_81 : decode (mB M_TB_unit) 81 = .ok (.dup, 1) := by decide +kernel
theorem d_TB_unit_82 : decode (mB M_TB_unit) 82 = .ok (.iload_n 2, 1) := by decide +kernel
theorem d_TB_unit_83 : decode (mB M_TB_unit) 83 = .ok (.iload_n 3, 1) := by decide +kernel
theorem d_TB_unit_84 : decode (mB M_TB_unit) 84 = .ok (.iload 4, 2) := by decide +kernel
theorem d_TB_unit_86 : decode (mB M_TB_unit) 86 = .ok (.iconst 1, 1) := by decide +kernel
theorem d_TB_unit_87 : decode (mB M_TB_unit) 87 = .ok (.iload_n 1, 1) := by decide +kernel
theorem d_TB_unit_88 : decode (mB M_TB_unit) 88 = .ok (.ishl, 1) := by decide +kernel
theorem d_TB_unit_89 : decode (mB M_TB_unit) 89 = .ok (.aload_n 0, 1) := by decide +kernel
theorem d_TB_unit_90 : decode (mB M_TB_unit) 90 = .ok (.getfield 38, 3) := by decide +kernel
theorem d_TB_unit_93 : decode (mB M_TB_unit) 93 = .ok (.iload 5, 2) := by decide +kernel
theorem d_TB_unit_95 : decode (mB M_TB_unit) 95 = .ok (.iadd, 1) := by decide +kernel
theorem d_TB_unit_96 : decode (mB M_TB_unit) 96 = .ok (.invokespecial 69, 3) := by decide +kernel
theorem d_TB_unit_99 : decode (mB M_TB_unit) 99 = .ok (.invokevirtual 72, 3) := by decide +kernel
theorem d_TB_unit_102 : decode (mB M_TB_unit) 102 = .ok (.ireturn, 1) := by decide +kernel
theorem d_TB_antigen_0 : decode (mB M_TB_antigen) 0 = .ok (.aload_n 0, 1) := by decide +kernel
theorem d_TB_antigen_1 : decode (mB M_TB_antigen) 1 = .ok (.iload_n 1, 1) := by decide +kernel
theorem d_TB_antigen_2 : decode (mB M_TB_antigen) 2 = .ok (.invokevirtual 76, 3) := by decide +kernel
theorem d_TB_antigen_5 : decode (mB M_TB_antigen) 5 = .ok (.astore 4, 2) := by decide +kernel
theorem d_TB_antigen_7 : decode (mB M_TB_antigen) 7 = .ok (.iload_n 2, 1) := by decide +kernel
theorem d_TB_antigen_8 : decode (mB M_TB_antigen) 8 = .ok (.bipush 8, 2) := by decide +kernel
theorem d_TB_antigen_10 : decode (mB M_TB_antigen) 10 = .ok (.invokestatic 48, 3) := by decide +kernel
theorem d_TB_antigen_13 : decode (mB M_TB_antigen) 13 = .ok (.ifCond .eq 12, 3) := by decide +kernel
theorem d_TB_antigen_16 : decode (mB M_TB_antigen) 16 = .ok (.iload_n 3, 1) := by decide +kernel
theorem d_TB_antigen_17 : decode (mB M_TB_antigen) 17 = .ok (.ifCond .lt 8, 3) := by decide +kernel
theorem d_TB_antigen_20 : decode (mB M_TB_antigen) 20 = .ok (.iload_n 3, 1) := by decide +kernel
theorem d_TB_antigen_21 : decode (mB M_TB_antigen) 21 = .ok (.iconst 2, 1) := by decide +kernel
theorem d_TB_antigen_22 : decode (mB M_TB_antigen) 22 = .ok (.if_icmp .le 13, 3) := by decide +kernel
theorem d_TB_antigen_25 : decode (mB M_TB_antigen) 25 = .ok (.new 31, 3) := by decide +kernel
theorem d_TB_antigen_28 : decode (mB M_TB_antigen) 28 = .ok (.dup, 1) := by decide +kernel
theorem d_TB_antigen_29 : decode (mB M_TB_antigen) 29 = .ok (.ldc 80, 2) := by decide +kernel
theorem d_TB_antigen_31 : decode (mB M_TB_antigen) 31 = .ok (.invokespecial 35, 3) := by decide +kernel
theorem d_TB_antigen_34 : decode (mB M_TB_antigen) 34 = .ok (.athrow, 1) := by decide +kernel
theorem d_TB_antigen_35 : decode (mB M_TB_antigen) 35 = .ok (.aload 4, 2) := by decide +kernel
theorem d_TB_antigen_37 : decode (mB M_TB_antigen) 37 = .ok (.getfield 82, 3) := by decide +kernel
theorem d_TB_antigen_40 : decode (mB M_TB_antigen) 40 = .ok (.ifCond .eq 13, 3) := by decide +kernel
theorem d_TB_antigen_43 : decode (mB M_TB_antigen) 43 = .ok (.new 64, 3) := by decide +kernel
theorem d_TB_antigen_46 : decode (mB M_TB_antigen) 46 = .ok (.dup, 1) := by decide +kernel
theorem d_TB_antigen_47 : decode (mB M_TB_antigen) 47 = .ok (.ldc 85, 2) := by decide +kernel
theorem d_TB_antigen_49 : decode (mB M_TB_antigen) 49 = .ok (.invokespecial 68, 3) := by decide +kernel
theorem d_TB_antigen_52 : decode (mB M_TB_antigen) 52 = .ok (.athrow, 1) := by decide +kernel
theorem d_TB_antigen_53 : decode (mB M_TB_antigen) 53 = .ok (.aload 4, 2) := by decide +kernel
theorem d_TB_antigen_55 : decode (mB M_TB_antigen) 55 = .ok (.iload_n 2, 1) := by decide +kernel
theorem d_TB_antigen_56 : decode (mB M_TB_antigen) 56 = .ok (.iload_n 3, 1) := by decide +kernel
theorem d_TB_antigen_57 : decode (mB M_TB_antigen) 57 = .ok (.invokevirtual 87, 3) := by decide +kernel
theorem d_TB_antigen_60 : decode (mB M_TB_antigen) 60 = .ok (.return_, 1) := by decide +kernel
theorem d_TB_process_0 : decode (mB M_TB_process) 0 = .ok (.aload_n 0, 1) := by decide +kernel
theorem d_TB_process_1 : decode (mB M_TB_process) 1 = .ok (.iload_n 1, 1) := by decide +kernel
theorem d_TB_process_2 : decode (mB M_TB_process) 2 = .ok (.invokevirtual 76, 3) := by decide +kernel
theorem d_TB_process_5 : decode (mB M_TB_process) 5 = .ok (.astore_n 3, 1) := by decide +kernel
theorem d_TB_process_6 : decode (mB M_TB_process) 6 = .ok (.iload_n 2, 1) := by decide +kernel
theorem d_TB_process_7 : decode (mB M_TB_process) 7 = .ok (.iconst 4, 1) := by decide +kernel
theorem d_TB_process_8 : decode (mB M_TB_process) 8 = .ok (.invokestatic 48, 3) := by decide +kernel
theorem d_TB_process_11 : decode (mB M_TB_process) 11 = .ok (.ifCond .ne 13, 3) := by decide +kernel
theorem d_TB_process_14 : decode (mB M_TB_process) 14 = .ok (.new 31, 3) := by decide +kernel
theorem d_TB_process_17 : decode (mB M_TB_process) 17 = .ok (.dup, 1) := by decide +kernel
theorem d_TB_process_18 : decode (mB M_TB_process) 18 = .ok (.ldc 91, 2) := by decide +kernel
theorem d_TB_process_20 : decode (mB M_TB_process) 20 = .ok (.invokespecial 35, 3) := by decide +kernel
theorem d_TB_process_23 : decode (mB M_TB_process) 23 = .ok (.athrow, 1) := by decide +kernel
theorem d_TB_process_24 : decode (mB M_TB_process) 24 = .ok (.aload_n 0, 1) := by decide +kernel
theorem d_TB_process_25 : decode (mB M_TB_process) 25 = .ok (.aload_n 3, 1) := by decide +kernel
theorem d_TB_process_26 : decode (mB M_TB_process) 26 = .ok (.invokevirtual 93, 3) := by decide +kernel
theorem d_TB_process_29 : decode (mB M_TB_process) 29 = .ok (.ifCond .eq 19, 3) := by decide +kernel
theorem d_TB_process_32 : decode (mB M_TB_process) 32 = .ok (.aload_n 0, 1) := by decide +kernel
theorem d_TB_process_33 : decode (mB M_TB_process) 33 = .ok (.iload_n 2, 1) := by decide +kernel
theorem d_TB_process_34 : decode (mB M_TB_process) 34 = .ok (.ifCond .ne 7, 3) := by decide +kernel
theorem d_TB_process_37 : decode (mB M_TB_process) 37 = .ok (.iconst 3, 1) := by decide +kernel
theorem d_TB_process_38 : decode (mB M_TB_process) 38 = .ok (.goto 4, 3) := by decide +kernel
theorem d_TB_process_41 : decode (mB M_TB_process) 41 = .ok (.iconst 1, 1) := by decide +kernel
theorem d_TB_process_42 : decode (mB M_TB_process) 42 = .ok (.invokevirtual 60, 3) := by decide +kernel
theorem d_TB_process_45 : decode (mB M_TB_process) 45 = .ok (.ifCond .ne 13, 3) := by decide +kernel
theorem d_TB_process_48 : decode (mB M_TB_process) 48 = .ok (.new 64, 3) := by decide +kernel
theorem d_TB_process_51 : decode (mB M_TB_process) 51 = .ok (.dup, 1) := by decide +kernel
theorem d_TB_process_52 : decode (mB M_TB_process) 52 = .ok (.ldc 97, 2) := by decide +kernel
theorem d_TB_process_54 : decode (mB M_TB_process) 54 = .ok (.invokespecial 68, 3) := by decide +kernel
theorem d_TB_process_57 : decode (mB M_TB_process) 57 = .ok (.athrow, 1) := by decide +kernel
theorem d_TB_process_58 : decode (mB M_TB_process) 58 = .ok (.iload_n 2, 1) := by decide +kernel
theorem d_TB_process_59 : decode (mB M_TB_process) 59 = .ok (.aload_n 3, 1) := by decide +kernel
theorem d_TB_process_60 : decode (mB M_TB_process) 60 = .ok (.getfield 99, 3) := by decide +kernel
theorem d_TB_process_63 : decode (mB M_TB_process) 63 = .ok (.invokestatic 102, 3) := by decide +kernel
theorem d_TB_process_66 : decode (mB M_TB_process) 66 = .ok (.ifCond .ne 13, 3) := by decide +kernel
theorem d_TB_process_69 : decode (mB M_TB_process) 69 = .ok (.new 105, 3) := by decide +kernel
theorem d_TB_process_72 : decode (mB M_TB_process) 72 = .ok (.dup, 1) := by decide +kernel
theorem d_TB_process_73 : decode (mB M_TB_process) 73 = .ok (.ldc 107, 2) := by decide +kernel
theorem d_TB_process_75 : decode (mB M_TB_process) 75 = .ok (.invokespecial 109, 3) := by decide +kernel
theorem d_TB_process_78 : decode (mB M_TB_process) 78 = .ok (.athrow, 1) := by decide +kernel
theorem d_TB_process_79 : decode (mB M_TB_process) 79 = .ok (.aload_n 3, 1) := by decide +kernel
theorem d_TB_process_80 : decode (mB M_TB_process) 80 = .ok (.iconst 5, 1) := by decide +kernel
theorem d_TB_process_81 : decode (mB M_TB_process) 81 = .ok (.putfield 82, 3) := by decide +kernel
theorem d_TB_process_84 : decode (mB M_TB_process) 84 = .ok (.iload_n 2, 1) := by decide +kernel
theorem d_TB_process_85 : decode (mB M_TB_process) 85 = .ok (.ifCond .ne 9, 3) := by decide +kernel
theorem d_TB_process_88 : decode (mB M_TB_process) 88 = .ok (.aload_n 0, 1) := by decide +kernel
theorem d_TB_process_89 : decode (mB M_TB_process) 89 = .ok (.aload_n 3, 1) := by decide +kernel
theorem d_TB_process_90 : decode (mB M_TB_process) 90 = .ok (.invokevirtual 110, 3) := by decide +kernel
theorem d_TB_process_93 : decode (mB M_TB_process) 93 = .ok (.ireturn, 1) := by decide +kernel
theorem d_TB_process_94 : decode (mB M_TB_process) 94 = .ok (.aload_n 0, 1) := by decide +kernel
theorem d_TB_process_95 : decode (mB M_TB_process) 95 = .ok (.aload_n 3, 1) := by decide +kernel
theorem d_TB_process_96 : decode (mB M_TB_process) 96 = .ok (.aload_n 3, 1) := by decide +kernel
theorem d_TB_process_97 : decode (mB M_TB_process) 97 = .ok (.getfield 99, 3) := by decide +kernel
theorem d_TB_process_100 : decode (mB M_TB_process) 100 = .ok (.getstatic 113, 3) := by decide +kernel
theorem d_TB_process_103 : decode (mB M_TB_process) 103 = .ok (.iload_n 2, 1) := by decide +kernel
theorem d_TB_process_104 : decode (mB M_TB_process) 104 = .ok (.iaload, 1) := by decide +kernel
theorem d_TB_process_105 : decode (mB M_TB_process) 105 = .ok (.aload_n 0, 1) := by decide +kernel
theorem d_TB_process_106 : decode (mB M_TB_process) 106 = .ok (.getfield 38, 3) := by decide +kernel
theorem d_TB_process_109 : decode (mB M_TB_process) 109 = .ok (.getstatic 117, 3) := by decide +kernel
theorem d_TB_process_112 : decode (mB M_TB_process) 112 = .ok (.iload_n 2, 1) := by decide +kernel
theorem d_TB_process_113 : decode (mB M_TB_process) 113 = .ok (.iaload, 1) := by decide +kernel
theorem d_TB_process_114 : decode (mB M_TB_process) 114 = .ok (.iadd, 1) := by decide +kernel
theorem d_TB_process_115 : decode (mB M_TB_process) 115 = .ok (.invokevirtual 120, 3) := by decide +kernel
theorem d_TB_process_118 : decode (mB M_TB_process) 118 = .ok (.ireturn, 1) := by decide +kernel
theorem d_TB_pool_0 : decode (mB M_TB_pool) 0 = .ok (.aload_n 0, 1) := by decide +kernel
theorem d_TB_pool_1 : decode (mB M_TB_pool) 1 = .ok (.iload_n 1, 1) := by decide +kernel
theorem d_TB_pool_2 : decode (mB M_TB_pool) 2 = .ok (.invokevirtual 76, 3) := by decide +kernel
theorem d_TB_pool_5 : decode (mB M_TB_pool) 5 = .ok (.astore_n 3, 1) := by decide +kernel
theorem d_TB_pool_6 : decode (mB M_TB_pool) 6 = .ok (.aload_n 0, 1) := by decide +kernel
theorem d_TB_pool_7 : decode (mB M_TB_pool) 7 = .ok (.iload_n 2, 1) := by decide +kernel
theorem d_TB_pool_8 : decode (mB M_TB_pool) 8 = .ok (.invokevirtual 76, 3) := by decide +kernel
theorem d_TB_pool_11 : decode (mB M_TB_pool) 11 = .ok (.astore 4, 2) := by decide +kernel
theorem d_TB_pool_13 : decode (mB M_TB_pool) 13 = .ok (.iload_n 1, 1) := by decide +kernel
theorem d_TB_pool_14 : decode (mB M_TB_pool) 14 = .ok (.iload_n 2, 1) := by decide +kernel
theorem d_TB_pool_15 : decode (mB M_TB_pool) 15 = .ok (.if_icmp .ne 13, 3) := by decide +kernel
theorem d_TB_pool_18 : decode (mB M_TB_pool) 18 = .ok (.new 31, 3) := by decide +kernel
theorem d_TB_pool_21 : decode (mB M_TB_pool) 21 = .ok (.dup, 1) := by decide +kernel
theorem d_TB_pool_22 : decode (mB M_TB_pool) 22 = .ok (.ldc 124, 2) := by decide +kernel
theorem d_TB_pool_24 : decode (mB M_TB_pool) 24 = .ok (.invokespecial 35, 3) := by decide +kernel
theorem d_TB_pool_27 : decode (mB M_TB_pool) 27 = .ok (.athrow, 1) := by decide +kernel
theorem d_TB_pool_28 : decode (mB M_TB_pool) 28 = .ok (.aload_n 0, 1) := by decide +kernel
theorem d_TB_pool_29 : decode (mB M_TB_pool) 29 = .ok (.aload_n 3, 1) := by decide +kernel
theorem d_TB_pool_30 : decode (mB M_TB_pool) 30 = .ok (.invokevirtual 93, 3) := by decide +kernel
theorem d_TB_pool_33 : decode (mB M_TB_pool) 33 = .ok (.ifCond .eq 20, 3) := by decide +kernel
theorem d_TB_pool_36 : decode (mB M_TB_pool) 36 = .ok (.aload_n 0, 1) := by decide +kernel
theorem d_TB_pool_37 : decode (mB M_TB_pool) 37 = .ok (.aload 4, 2) := by decide +kernel
theorem d_TB_pool_39 : decode (mB M_TB_pool) 39 = .ok (.invokevirtual 93, 3) := by decide +kernel
theorem d_TB_pool_42 : decode (mB M_TB_pool) 42 = .ok (.ifCond .eq 11, 3) := by decide +kernel
theorem d_TB_pool_45 : decode (mB M_TB_pool) 45 = .ok (.aload_n 0, 1) := by decide +kernel
theorem d_TB_pool_46 : decode (mB M_TB_pool) 46 = .ok (.iconst 1, 1) := by decide +kernel
theorem d_TB_pool_47 : decode (mB M_TB_pool) 47 = .ok (.invokevirtual 60, 3) := by decide +kernel
theorem d_TB_pool_50 : decode (mB M_TB_pool) 50 = .ok (.ifCond .ne 13, 3) := by decide +kernel
theorem d_TB_pool_53 : decode (mB M_TB_pool) 53 = .ok (.new 64, 3) := by decide +kernel
theorem d_TB_pool_56 : decode (mB M_TB_pool) 56 = .ok (.dup, 1) := by decide +kernel
theorem d_TB_pool_57 : decode (mB M_TB_pool) 57 = .ok (.ldc 126, 2) := by decide +kernel
theorem d_TB_pool_59 : decode (mB M_TB_pool) 59 = .ok (.invokespecial 68, 3) := by decide +kernel
theorem d_TB_pool_62 : decode (mB M_TB_pool) 62 = .ok (.athrow, 1) := by decide +kernel
theorem d_TB_pool_63 : decode (mB M_TB_pool) 63 = .ok (.aload_n 3, 1) := by decide +kernel
theorem d_TB_pool_64 : decode (mB M_TB_pool) 64 = .ok (.getfield 99, 3) := by decide +kernel
theorem d_TB_pool_67 : decode (mB M_TB_pool) 67 = .ok (.iconst 2, 1) := by decide +kernel
theorem d_TB_pool_68 : decode (mB M_TB_pool) 68 = .ok (.if_icmp .ne 36, 3) := by decide +kernel
theorem d_TB_pool_71 : decode (mB M_TB_pool) 71 = .ok (.aload 4, 2) := by decide +kernel
theorem d_TB_pool_73 : decode (mB M_TB_pool) 73 = .ok (.getfield 99, 3) := by decide +kernel
theorem d_TB_pool_76 : decode (mB M_TB_pool) 76 = .ok (.iconst 2, 1) := by decide +kernel
theorem d_TB_pool_77 : decode (mB M_TB_pool) 77 = .ok (.if_icmp .ne 27, 3) := by decide +kernel
theorem d_TB_pool_80 : decode (mB M_TB_pool) 80 = .ok (.aload_n 3, 1) := by decide +kernel
theorem d_TB_pool_81 : decode (mB M_TB_pool) 81 = .ok (.getfield 128, 3) := by decide +kernel
theorem d_TB_pool_84 : decode (mB M_TB_pool) 84 = .ok (.aload 4, 2) := by decide +kernel
theorem d_TB_pool_86 : decode (mB M_TB_pool) 86 = .ok (.getfield 128, 3) := by decide +kernel
theorem d_TB_pool_89 : decode (mB M_TB_pool) 89 = .ok (.if_icmp .ne 15, 3) := by decide +kernel
theorem d_TB_pool_92 : decode (mB M_TB_pool) 92 = .ok (.aload_n 3, 1) := by decide +kernel
theorem d_TB_pool_93 : decode (mB M_TB_pool) 93 = .ok (.getfield 131, 3) := by decide +kernel
theorem d_TB_pool_96 : decode (mB M_TB_pool) 96 = .ok (.aload 4, 2) := by decide +kernel
theorem d_TB_pool_98 : decode (mB M_TB_pool) 98 = .ok (.getfield 131, 3) := by decide +kernel
theorem d_TB_pool_101 : decode (mB M_TB_pool) 101 = .ok (.if_icmp .eq 13, 3) := by decide +kernel
theorem d_TB_pool_104 : decode (mB M_TB_pool) 104 = .ok (.new 105, 3) := by decide +kernel
theorem d_TB_pool_107 : decode (mB M_TB_pool) 107 = .ok (.dup, 1) := by decide +kernel
theorem d_TB_pool_108 : decode (mB M_TB_pool) 108 = .ok (.ldc 134, 2) := by decide +kernel
theorem d_TB_pool_110 : decode (mB M_TB_pool) 110 = .ok (.invokespecial 109, 3) := by decide +kernel
theorem d_TB_pool_113 : decode (mB M_TB_pool) 113 = .ok (.athrow, 1) := by decide +kernel
theorem d_TB_pool_114 : decode (mB M_TB_pool) 114 = .ok (.aload_n 3, 1) := by decide +kernel
theorem d_TB_pool_115 : decode (mB M_TB_pool) 115 = .ok (.iconst 5, 1) := by decide +kernel
theorem d_TB_pool_116 : decode (mB M_TB_pool) 116 = .ok (.putfield 82, 3) := by decide +kernel
theorem d_TB_pool_119 : decode (mB M_TB_pool) 119 = .ok (.aload 4, 2) := by decide +kernel
theorem d_TB_pool_121 : decode (mB M_TB_pool) 121 = .ok (.iconst 5, 1) := by decide +kernel
theorem d_TB_pool_122 : decode (mB M_TB_pool) 122 = .ok (.putfield 82, 3) := by decide +kernel
theorem d_TB_pool_125 : decode (mB M_TB_pool) 125 = .ok (.aload_n 0, 1) := by decide +kernel
theorem d_TB_pool_126 : decode (mB M_TB_pool) 126 = .ok (.aload_n 3, 1) := by decide +kernel
theorem d_TB_pool_127 : decode (mB M_TB_pool) 127 = .ok (.aload 4, 2) := by decide +kernel
theorem d_TB_pool_129 : decode (mB M_TB_pool) 129 = .ok (.invokevirtual 136, 3) := by decide +kernel
theorem d_TB_pool_132 : decode (mB M_TB_pool) 132 = .ok (.ireturn, 1) := by decide +kernel
theorem d_TB_patient_0 : decode (mB M_TB_patient) 0 = .ok (.aload_n 0, 1) := by decide +kernel
theorem d_TB_patient_1 : decode (mB M_TB_patient) 1 = .ok (.getfield 140, 3) := by decide +kernel
theorem d_TB_patient_4 : decode (mB M_TB_patient) 4 = .ok (.bipush 10, 2) := by decide +kernel
theorem d_TB_patient_6 : decode (mB M_TB_patient) 6 = .ok (.if_icmp .lt 13, 3) := by decide +kernel
theorem d_TB_patient_9 : decode (mB M_TB_patient) 9 = .ok (.new 64, 3) := by decide +kernel
theorem d_TB_patient_12 : decode (mB M_TB_patient) 12 = .ok (.dup, 1) := by decide +kernel
theorem d_TB_patient_13 : decode (mB M_TB_patient) 13 = .ok (.ldc 143, 2) := by decide +kernel
theorem d_TB_patient_15 : decode (mB M_TB_patient) 15 = .ok (.invokespecial 68, 3) := by decide +kernel
theorem d_TB_patient_18 : decode (mB M_TB_patient) 18 = .ok (.athrow, 1) := by decide +kernel
theorem d_TB_patient_19 : decode (mB M_TB_patient) 19 = .ok (.aload_n 0, 1) := by decide +kernel
theorem d_TB_patient_20 : decode (mB M_TB_patient) 20 = .ok (.getfield 17, 3) := by decide +kernel
theorem d_TB_patient_23 : decode (mB M_TB_patient) 23 = .ok (.aload_n 0, 1) := by decide +kernel
theorem d_TB_patient_24 : decode (mB M_TB_patient) 24 = .ok (.getfield 140, 3) := by decide +kernel
theorem d_TB_patient_27 : decode (mB M_TB_patient) 27 = .ok (.new 15, 3) := by decide +kernel
theorem d_TB_patient_30 : decode (mB M_TB_patient) 30 = .ok (.dup, 1) := by decide +kernel
theorem d_TB_patient_31 : decode (mB M_TB_patient) 31 = .ok (.invokespecial 145, 3) := by decide +kernel
theorem d_TB_patient_34 : decode (mB M_TB_patient) 34 = .ok (.aastore, 1) := by decide +kernel
theorem d_TB_patient_35 : decode (mB M_TB_patient) 35 = .ok (.aload_n 0, 1) := by decide +kernel
theorem d_TB_patient_36 : decode (mB M_TB_patient) 36 = .ok (.dup, 1) := by decide +kernel
theorem d_TB_patient_37 : decode (mB M_TB_patient) 37 = .ok (.getfield 140, 3) := by decide +kernel
theorem d_TB_patient_40 : decode (mB M_TB_patient) 40 = .ok (.iconst 1, 1) := by decide +kernel
theorem d_TB_patient_41 : decode (mB M_TB_patient) 41 = .ok (.iadd, 1) := by decide +kernel
theorem d_TB_patient_42 : decode (mB M_TB_patient) 42 = .ok (.putfield 140, 3) := by decide +kernel
theorem d_TB_patient_45 : decode (mB M_TB_patient) 45 = .ok (.aload_n 0, 1) := by decide +kernel
theorem d_TB_patient_46 : decode (mB M_TB_patient) 46 = .ok (.getfield 140, 3) := by decide +kernel
theorem d_TB_patient_49 : decode (mB M_TB_patient) 49 = .ok (.iconst 1, 1) := by decide +kernel
theorem d_TB_patient_50 : decode (mB M_TB_patient) 50 = .ok (.isub, 1) := by decide +kernel
theorem d_TB_patient_51 : decode (mB M_TB_patient) 51 = .ok (.ireturn, 1) := by decide +kernel
theorem d_TB_sample_0 : decode (mB M_TB_sample) 0 = .ok (.aload_n 0, 1) := by decide +kernel
theorem d_TB_sample_1 : decode (mB M_TB_sample) 1 = .ok (.iload_n 1, 1) := by decide +kernel
theorem d_TB_sample_2 : decode (mB M_TB_sample) 2 = .ok (.invokevirtual 146, 3) := by decide +kernel
theorem d_TB_sample_5 : decode (mB M_TB_sample) 5 = .ok (.astore 4, 2) := by decide +kernel
theorem d_TB_sample_7 : decode (mB M_TB_sample) 7 = .ok (.iload_n 2, 1) := by decide +kernel
theorem d_TB_sample_8 : decode (mB M_TB_sample) 8 = .ok (.iload_n 3, 1) := by decide +kernel
theorem d_TB_sample_9 : decode (mB M_TB_sample) 9 = .ok (.invokestatic 52, 3) := by decide +kernel
theorem d_TB_sample_12 : decode (mB M_TB_sample) 12 = .ok (.ifCond .ne 13, 3) := by decide +kernel
theorem d_TB_sample_15 : decode (mB M_TB_sample) 15 = .ok (.new 31, 3) := by decide +kernel
theorem d_TB_sample_18 : decode (mB M_TB_sample) 18 = .ok (.dup, 1) := by decide +kernel
theorem d_TB_sample_19 : decode (mB M_TB_sample) 19 = .ok (.ldc 150, 2) := by decide +kernel
theorem d_TB_sample_21 : decode (mB M_TB_sample) 21 = .ok (.invokespecial 35, 3) := by decide +kernel
theorem d_TB_sample_24 : decode (mB M_TB_sample) 24 = .ok (.athrow, 1) := by decide +kernel
theorem d_TB_sample_25 : decode (mB M_TB_sample) 25 = .ok (.aload 4, 2) := by decide +kernel
theorem d_TB_sample_27 : decode (mB M_TB_sample) 27 = .ok (.getfield 152, 3) := by decide +kernel
theorem d_TB_sample_30 : decode (mB M_TB_sample) 30 = .ok (.iconst 2, 1) := by decide +kernel
theorem d_TB_sample_31 : decode (mB M_TB_sample) 31 = .ok (.if_icmp .ne 13, 3) := by decide +kernel
theorem d_TB_sample_34 : decode (mB M_TB_sample) 34 = .ok (.new 64, 3) := by decide +kernel
theorem d_TB_sample_37 : decode (mB M_TB_sample) 37 = .ok (.dup, 1) := by decide +kernel
theorem d_TB_sample_38 : decode (mB M_TB_sample) 38 = .ok (.ldc 155, 2) := by decide +kernel
theorem d_TB_sample_40 : decode (mB M_TB_sample) 40 = .ok (.invokespecial 68, 3) := by decide +kernel
theorem d_TB_sample_43 : decode (mB M_TB_sample) 43 = .ok (.athrow, 1) := by decide +kernel
theorem d_TB_sample_44 : decode (mB M_TB_sample) 44 = .ok (.aload 4, 2) := by decide +kernel
theorem d_TB_sample_46 : decode (mB M_TB_sample) 46 = .ok (.iload_n 2, 1) := by decide +kernel
theorem d_TB_sample_47 : decode (mB M_TB_sample) 47 = .ok (.iload_n 3, 1) := by decide +kernel
theorem d_TB_sample_48 : decode (mB M_TB_sample) 48 = .ok (.aload_n 0, 1) := by decide +kernel
theorem d_TB_sample_49 : decode (mB M_TB_sample) 49 = .ok (.getfield 38, 3) := by decide +kernel
theorem d_TB_sample_52 : decode (mB M_TB_sample) 52 = .ok (.invokevirtual 157, 3) := by decide +kernel
theorem d_TB_sample_55 : decode (mB M_TB_sample) 55 = .ok (.aload 4, 2) := by decide +kernel
theorem d_TB_sample_57 : decode (mB M_TB_sample) 57 = .ok (.getfield 152, 3) := by decide +kernel
theorem d_TB_sample_60 : decode (mB M_TB_sample) 60 = .ok (.ireturn, 1) := by decide +kernel
theorem d_TB_unlock_0 : decode (mB M_TB_unlock) 0 = .ok (.aload_n 0, 1) := by decide +kernel
theorem d_TB_unlock_1 : decode (mB M_TB_unlock) 1 = .ok (.iload_n 1, 1) := by decide +kernel
theorem d_TB_unlock_2 : decode (mB M_TB_unlock) 2 = .ok (.invokevirtual 146, 3) := by decide +kernel
theorem d_TB_unlock_5 : decode (mB M_TB_unlock) 5 = .ok (.astore 4, 2) := by decide +kernel
theorem d_TB_unlock_7 : decode (mB M_TB_unlock) 7 = .ok (.iload_n 2, 1) := by decide +kernel
theorem d_TB_unlock_8 : decode (mB M_TB_unlock) 8 = .ok (.iload_n 3, 1) := by decide +kernel
theorem d_TB_unlock_9 : decode (mB M_TB_unlock) 9 = .ok (.invokestatic 52, 3) := by decide +kernel
theorem d_TB_unlock_12 : decode (mB M_TB_unlock) 12 = .ok (.ifCond .ne 13, 3) := by decide +kernel
theorem d_TB_unlock_15 : decode (mB M_TB_unlock) 15 = .ok (.new 31, 3) := by decide +kernel
theorem d_TB_unlock_18 : decode (mB M_TB_unlock) 18 = .ok (.dup, 1) := by decide +kernel
theorem d_TB_unlock_19 : decode (mB M_TB_unlock) 19 = .ok (.ldc 150, 2) := by decide +kernel
theorem d_TB_unlock_21 : decode (mB M_TB_unlock) 21 = .ok (.invokespecial 35, 3) := by decide +kernel
theorem d_TB_unlock_24 : decode (mB M_TB_unlock) 24 = .ok (.athrow, 1) := by decide +kernel
theorem d_TB_unlock_25 : decode (mB M_TB_unlock) 25 = .ok (.aload 4, 2) := by decide +kernel
theorem d_TB_unlock_27 : decode (mB M_TB_unlock) 27 = .ok (.getfield 152, 3) := by decide +kernel
theorem d_TB_unlock_30 : decode (mB M_TB_unlock) 30 = .ok (.iconst 2, 1) := by decide +kernel
theorem d_TB_unlock_31 : decode (mB M_TB_unlock) 31 = .ok (.if_icmp .eq 13, 3) := by decide +kernel
theorem d_TB_unlock_34 : decode (mB M_TB_unlock) 34 = .ok (.new 64, 3) := by decide +kernel
theorem d_TB_unlock_37 : decode (mB M_TB_unlock) 37 = .ok (.dup, 1) := by decide +kernel
theorem d_TB_unlock_38 : decode (mB M_TB_unlock) 38 = .ok (.ldc 161, 2) := by decide +kernel
theorem d_TB_unlock_40 : decode (mB M_TB_unlock) 40 = .ok (.invokespecial 68, 3) := by decide +kernel
theorem d_TB_unlock_43 : decode (mB M_TB_unlock) 43 = .ok (.athrow, 1) := by decide +kernel
theorem d_TB_unlock_44 : decode (mB M_TB_unlock) 44 = .ok (.aload 4, 2) := by decide +kernel
theorem d_TB_unlock_46 : decode (mB M_TB_unlock) 46 = .ok (.iload_n 2, 1) := by decide +kernel
theorem d_TB_unlock_47 : decode (mB M_TB_unlock) 47 = .ok (.iload_n 3, 1) := by decide +kernel
theorem d_TB_unlock_48 : decode (mB M_TB_unlock) 48 = .ok (.invokevirtual 163, 3) := by decide +kernel
theorem d_TB_unlock_51 : decode (mB M_TB_unlock) 51 = .ok (.return_, 1) := by decide +kernel
theorem d_TB_antibody_0 : decode (mB M_TB_antibody) 0 = .ok (.aload_n 0, 1) := by decide +kernel
theorem d_TB_antibody_1 : decode (mB M_TB_antibody) 1 = .ok (.iload_n 1, 1) := by decide +kernel
theorem d_TB_antibody_2 : decode (mB M_TB_antibody) 2 = .ok (.invokevirtual 146, 3) := by decide +kernel
theorem d_TB_antibody_5 : decode (mB M_TB_antibody) 5 = .ok (.astore_n 3, 1) := by decide +kernel
theorem d_TB_antibody_6 : decode (mB M_TB_antibody) 6 = .ok (.iload_n 2, 1) := by decide +kernel
theorem d_TB_antibody_7 : decode (mB M_TB_antibody) 7 = .ok (.bipush 8, 2) := by decide +kernel
theorem d_TB_antibody_9 : decode (mB M_TB_antibody) 9 = .ok (.invokestatic 48, 3) := by decide +kernel
theorem d_TB_antibody_12 : decode (mB M_TB_antibody) 12 = .ok (.ifCond .ne 13, 3) := by decide +kernel
theorem d_TB_antibody_15 : decode (mB M_TB_antibody) 15 = .ok (.new 31, 3) := by decide +kernel
theorem d_TB_antibody_18 : decode (mB M_TB_antibody) 18 = .ok (.dup, 1) := by decide +kernel
theorem d_TB_antibody_19 : decode (mB M_TB_antibody) 19 = .ok (.ldc 166, 2) := by decide +kernel
theorem d_TB_antibody_21 : decode (mB M_TB_antibody) 21 = .ok (.invokespecial 35, 3) := by decide +kernel
theorem d_TB_antibody_24 : decode (mB M_TB_antibody) 24 = .ok (.athrow, 1) := by decide +kernel
theorem d_TB_antibody_25 : decode (mB M_TB_antibody) 25 = .ok (.aload_n 3, 1) := by decide +kernel
theorem d_TB_antibody_26 : decode (mB M_TB_antibody) 26 = .ok (.dup, 1) := by decide +kernel
theorem d_TB_antibody_27 : decode (mB M_TB_antibody) 27 = .ok (.getfield 168, 3) := by decide +kernel
theorem d_TB_antibody_30 : decode (mB M_TB_antibody) 30 = .ok (.iconst 1, 1) := by decide +kernel
theorem d_TB_antibody_31 : decode (mB M_TB_antibody) 31 = .ok (.iload_n 2, 1) := by decide +kernel
theorem d_TB_antibody_32 : decode (mB M_TB_antibody) 32 = .ok (.ishl, 1) := by decide +kernel
theorem d_TB_antibody_33 : decode (mB M_TB_antibody) 33 = .ok (.ior, 1) := by decide +kernel
theorem d_TB_antibody_34 : decode (mB M_TB_antibody) 34 = .ok (.putfield 168, 3) := by decide +kernel
theorem d_TB_antibody_37 : decode (mB M_TB_antibody) 37 = .ok (.aload_n 3, 1) := by decide +kernel
theorem d_TB_antibody_38 : decode (mB M_TB_antibody) 38 = .ok (.getfield 168, 3) := by decide +kernel
theorem d_TB_antibody_41 : decode (mB M_TB_antibody) 41 = .ok (.invokestatic 171, 3) := by decide +kernel
theorem d_TB_antibody_44 : decode (mB M_TB_antibody) 44 = .ok (.ireturn, 1) := by decide +kernel
theorem d_TB_need_0 : decode (mB M_TB_need) 0 = .ok (.aload_n 0, 1) := by decide +kernel
theorem d_TB_need_1 : decode (mB M_TB_need) 1 = .ok (.iload_n 1, 1) := by decide +kernel
theorem d_TB_need_2 : decode (mB M_TB_need) 2 = .ok (.invokevirtual 146, 3) := by decide +kernel
theorem d_TB_need_5 : decode (mB M_TB_need) 5 = .ok (.astore_n 3, 1) := by decide +kernel
theorem d_TB_need_6 : decode (mB M_TB_need) 6 = .ok (.iload_n 2, 1) := by decide +kernel
theorem d_TB_need_7 : decode (mB M_TB_need) 7 = .ok (.ifCond .lt 9, 3) := by decide +kernel
theorem d_TB_need_10 : decode (mB M_TB_need) 10 = .ok (.iload_n 2, 1) := by decide +kernel
theorem d_TB_need_11 : decode (mB M_TB_need) 11 = .ok (.bipush 7, 2) := by decide +kernel
theorem d_TB_need_13 : decode (mB M_TB_need) 13 = .ok (.if_icmp .le 13, 3) := by decide +kernel
theorem d_TB_need_16 : decode (mB M_TB_need) 16 = .ok (.new 31, 3) := by decide +kernel
theorem d_TB_need_19 : decode (mB M_TB_need) 19 = .ok (.dup, 1) := by decide +kernel
theorem d_TB_need_20 : decode (mB M_TB_need) 20 = .ok (.ldc 177, 2) := by decide +kernel
theorem d_TB_need_22 : decode (mB M_TB_need) 22 = .ok (.invokespecial 35, 3) := by decide +kernel
theorem d_TB_need_25 : decode (mB M_TB_need) 25 = .ok (.athrow, 1) := by decide +kernel
theorem d_TB_need_26 : decode (mB M_TB_need) 26 = .ok (.aload_n 3, 1) := by decide +kernel
theorem d_TB_need_27 : decode (mB M_TB_need) 27 = .ok (.getfield 179, 3) := by decide +kernel
theorem d_TB_need_30 : decode (mB M_TB_need) 30 = .ok (.istore 4, 2) := by decide +kernel
theorem d_TB_need_32 : decode (mB M_TB_need) 32 = .ok (.aload_n 3, 1) := by decide +kernel
theorem d_TB_need_33 : decode (mB M_TB_need) 33 = .ok (.iload_n 2, 1) := by decide +kernel
theorem d_TB_need_34 : decode (mB M_TB_need) 34 = .ok (.putfield 179, 3) := by decide +kernel
theorem d_TB_need_37 : decode (mB M_TB_need) 37 = .ok (.iload 4, 2) := by decide +kernel
theorem d_TB_need_39 : decode (mB M_TB_need) 39 = .ok (.ireturn, 1) := by decide +kernel
theorem d_TB_crossmatch_0 : decode (mB M_TB_crossmatch) 0 = .ok (.aload_n 0, 1) := by decide +kernel
theorem d_TB_crossmatch_1 : decode (mB M_TB_crossmatch) 1 = .ok (.iload_n 1, 1) := by decide +kernel
theorem d_TB_crossmatch_2 : decode (mB M_TB_crossmatch) 2 = .ok (.invokevirtual 146, 3) := by decide +kernel
theorem d_TB_crossmatch_5 : decode (mB M_TB_crossmatch) 5 = .ok (.astore 4, 2) := by decide +kernel
theorem d_TB_crossmatch_7 : decode (mB M_TB_crossmatch) 7 = .ok (.aload_n 0, 1) := by decide +kernel
theorem d_TB_crossmatch_8 : decode (mB M_TB_crossmatch) 8 = .ok (.iload_n 2, 1) := by decide +kernel
theorem d_TB_crossmatch_9 : decode (mB M_TB_crossmatch) 9 = .ok (.invokevirtual 76, 3) := by decide +kernel
theorem d_TB_crossmatch_12 : decode (mB M_TB_crossmatch) 12 = .ok (.astore 5, 2) := by decide +kernel
theorem d_TB_crossmatch_14 : decode (mB M_TB_crossmatch) 14 = .ok (.aload 5, 2) := by decide +kernel
theorem d_TB_crossmatch_16 : decode (mB M_TB_crossmatch) 16 = .ok (.invokevirtual 182, 3) := by decide +kernel
theorem d_TB_crossmatch_19 : decode (mB M_TB_crossmatch) 19 = .ok (.ifCond .ne 13, 3) := by decide +kernel
theorem d_TB_crossmatch_22 : decode (mB M_TB_crossmatch) 22 = .ok (.new 64, 3) := by decide +kernel
theorem d_TB_crossmatch_25 : decode (mB M_TB_crossmatch) 25 = .ok (.dup, 1) := by decide +kernel
theorem d_TB_crossmatch_26 : decode (mB M_TB_crossmatch) 26 = .ok (.ldc 186, 2) := by decide +kernel
theorem d_TB_crossmatch_28 : decode (mB M_TB_crossmatch) 28 = .ok (.invokespecial 68, 3) := by decide +kernel
theorem d_TB_crossmatch_31 : decode (mB M_TB_crossmatch) 31 = .ok (.athrow, 1) := by decide +kernel
theorem d_TB_crossmatch_32 : decode (mB M_TB_crossmatch) 32 = .ok (.aload 5, 2) := by decide +kernel
theorem d_TB_crossmatch_34 : decode (mB M_TB_crossmatch) 34 = .ok (.getfield 99, 3) := by decide +kernel
theorem d_TB_crossmatch_37 : decode (mB M_TB_crossmatch) 37 = .ok (.ifCond .eq 13, 3) := by decide +kernel
theorem d_TB_crossmatch_40 : decode (mB M_TB_crossmatch) 40 = .ok (.new 105, 3) := by decide +kernel
theorem d_TB_crossmatch_43 : decode (mB M_TB_crossmatch) 43 = .ok (.dup, 1) := by decide +kernel
theorem d_TB_crossmatch_44 : decode (mB M_TB_crossmatch) 44 = .ok (.ldc 188, 2) := by decide +kernel
theorem d_TB_crossmatch_46 : decode (mB M_TB_crossmatch) 46 = .ok (.invokespecial 109, 3) := by decide +kernel
theorem d_TB_crossmatch_49 : decode (mB M_TB_crossmatch) 49 = .ok (.athrow, 1) := by decide +kernel
theorem d_TB_crossmatch_50 : decode (mB M_TB_crossmatch) 50 = .ok (.aload 4, 2) := by decide +kernel
theorem d_TB_crossmatch_52 : decode (mB M_TB_crossmatch) 52 = .ok (.iload_n 2, 1) := by decide +kernel
theorem d_TB_crossmatch_53 : decode (mB M_TB_crossmatch) 53 = .ok (.iload_n 3, 1) := by decide +kernel
theorem d_TB_crossmatch_54 : decode (mB M_TB_crossmatch) 54 = .ok (.ifCond .eq 10, 3) := by decide +kernel
theorem d_TB_crossmatch_57 : decode (mB M_TB_crossmatch) 57 = .ok (.aload_n 0, 1) := by decide +kernel
theorem d_TB_crossmatch_58 : decode (mB M_TB_crossmatch) 58 = .ok (.getfield 38, 3) := by decide +kernel
theorem d_TB_crossmatch_61 : decode (mB M_TB_crossmatch) 61 = .ok (.goto 4, 3) := by decide +kernel
theorem d_TB_crossmatch_64 : decode (mB M_TB_crossmatch) 64 = .ok (.iconst (-1), 1) := by decide +kernel
theorem d_TB_crossmatch_65 : decode (mB M_TB_crossmatch) 65 = .ok (.invokevirtual 190, 3) := by decide +kernel
theorem d_TB_crossmatch_68 : decode (mB M_TB_crossmatch) 68 = .ok (.return_, 1) := by decide +kernel
theorem d_TB_reserve_0 : decode (mB M_TB_reserve) 0 = .ok (.aload_n 0, 1) := by decide +kernel
theorem d_TB_reserve_1 : decode (mB M_TB_reserve) 1 = .ok (.iload_n 1, 1) := by decide +kernel
theorem d_TB_reserve_2 : decode (mB M_TB_reserve) 2 = .ok (.invokevirtual 146, 3) := by decide +kernel
theorem d_TB_reserve_5 : decode (mB M_TB_reserve) 5 = .ok (.astore_n 3, 1) := by decide +kernel
theorem d_TB_reserve_6 : decode (mB M_TB_reserve) 6 = .ok (.aload_n 0, 1) := by decide +kernel
theorem d_TB_reserve_7 : decode (mB M_TB_reserve) 7 = .ok (.iload_n 2, 1) := by decide +kernel
theorem d_TB_reserve_8 : decode (mB M_TB_reserve) 8 = .ok (.invokevirtual 76, 3) := by decide +kernel
theorem d_TB_reserve_11 : decode (mB M_TB_reserve) 11 = .ok (.astore 4, 2) := by decide +kernel
theorem d_TB_reserve_13 : decode (mB M_TB_reserve) 13 = .ok (.aload_n 0, 1) := by decide +kernel
theorem d_TB_reserve_14 : decode (mB M_TB_reserve) 14 = .ok (.aload 4, 2) := by decide +kernel
theorem d_TB_reserve_16 : decode (mB M_TB_reserve) 16 = .ok (.invokevirtual 93, 3) := by decide +kernel
theorem d_TB_reserve_19 : decode (mB M_TB_reserve) 19 = .ok (.ifCond .eq 11, 3) := by decide +kernel
theorem d_TB_reserve_22 : decode (mB M_TB_reserve) 22 = .ok (.aload_n 3, 1) := by decide +kernel
theorem d_TB_reserve_23 : decode (mB M_TB_reserve) 23 = .ok (.getfield 152, 3) := by decide +kernel
theorem d_TB_reserve_26 : decode (mB M_TB_reserve) 26 = .ok (.iconst 2, 1) := by decide +kernel
theorem d_TB_reserve_27 : decode (mB M_TB_reserve) 27 = .ok (.if_icmp .ne 13, 3) := by decide +kernel
theorem d_TB_reserve_30 : decode (mB M_TB_reserve) 30 = .ok (.new 64, 3) := by decide +kernel
theorem d_TB_reserve_33 : decode (mB M_TB_reserve) 33 = .ok (.dup, 1) := by decide +kernel
theorem d_TB_reserve_34 : decode (mB M_TB_reserve) 34 = .ok (.ldc 193, 2) := by decide +kernel
theorem d_TB_reserve_36 : decode (mB M_TB_reserve) 36 = .ok (.invokespecial 68, 3) := by decide +kernel
theorem d_TB_reserve_39 : decode (mB M_TB_reserve) 39 = .ok (.athrow, 1) := by decide +kernel
theorem d_TB_reserve_40 : decode (mB M_TB_reserve) 40 = .ok (.aload_n 0, 1) := by decide +kernel
theorem d_TB_reserve_41 : decode (mB M_TB_reserve) 41 = .ok (.aload_n 3, 1) := by decide +kernel
theorem d_TB_reserve_42 : decode (mB M_TB_reserve) 42 = .ok (.aload 4, 2) := by decide +kernel
theorem d_TB_reserve_44 : decode (mB M_TB_reserve) 44 = .ok (.iload_n 2, 1) := by decide +kernel
theorem d_TB_reserve_45 : decode (mB M_TB_reserve) 45 = .ok (.invokevirtual 195, 3) := by decide +kernel
theorem d_TB_reserve_48 : decode (mB M_TB_reserve) 48 = .ok (.ifCond .ne 13, 3) := by decide +kernel
theorem d_TB_reserve_51 : decode (mB M_TB_reserve) 51 = .ok (.new 105, 3) := by decide +kernel
theorem d_TB_reserve_54 : decode (mB M_TB_reserve) 54 = .ok (.dup, 1) := by decide +kernel
theorem d_TB_reserve_55 : decode (mB M_TB_reserve) 55 = .ok (.ldc 199, 2) := by decide +kernel
theorem d_TB_reserve_57 : decode (mB M_TB_reserve) 57 = .ok (.invokespecial 109, 3) := by decide +kernel
theorem d_TB_reserve_60 : decode (mB M_TB_reserve) 60 = .ok (.athrow, 1) := by decide +kernel
theorem d_TB_reserve_61 : decode (mB M_TB_reserve) 61 = .ok (.aload 4, 2) := by decide +kernel
theorem d_TB_reserve_63 : decode (mB M_TB_reserve) 63 = .ok (.iload_n 1, 1) := by decide +kernel
theorem d_TB_reserve_64 : decode (mB M_TB_reserve) 64 = .ok (.aload_n 0, 1) := by decide +kernel
theorem d_TB_reserve_65 : decode (mB M_TB_reserve) 65 = .ok (.getfield 38, 3) := by decide +kernel
theorem d_TB_reserve_68 : decode (mB M_TB_reserve) 68 = .ok (.sipush 4320, 3) := by decide +kernel
theorem d_TB_reserve_71 : decode (mB M_TB_reserve) 71 = .ok (.iadd, 1) := by decide +kernel
theorem d_TB_reserve_72 : decode (mB M_TB_reserve) 72 = .ok (.invokevirtual 201, 3) := by decide +kernel
theorem d_TB_reserve_75 : decode (mB M_TB_reserve) 75 = .ok (.aload 4, 2) := by decide +kernel
theorem d_TB_reserve_77 : decode (mB M_TB_reserve) 77 = .ok (.getfield 204, 3) := by decide +kernel
theorem d_TB_reserve_80 : decode (mB M_TB_reserve) 80 = .ok (.ireturn, 1) := by decide +kernel
theorem d_TB_release_0 : decode (mB M_TB_release) 0 = .ok (.aload_n 0, 1) := by decide +kernel
theorem d_TB_release_1 : decode (mB M_TB_release) 1 = .ok (.iload_n 1, 1) := by decide +kernel
theorem d_TB_release_2 : decode (mB M_TB_release) 2 = .ok (.invokevirtual 76, 3) := by decide +kernel
theorem d_TB_release_5 : decode (mB M_TB_release) 5 = .ok (.astore_n 2, 1) := by decide +kernel
theorem d_TB_release_6 : decode (mB M_TB_release) 6 = .ok (.aload_n 2, 1) := by decide +kernel
theorem d_TB_release_7 : decode (mB M_TB_release) 7 = .ok (.getfield 82, 3) := by decide +kernel
theorem d_TB_release_10 : decode (mB M_TB_release) 10 = .ok (.iconst 1, 1) := by decide +kernel
theorem d_TB_release_11 : decode (mB M_TB_release) 11 = .ok (.if_icmp .eq 13, 3) := by decide +kernel
theorem d_TB_release_14 : decode (mB M_TB_release) 14 = .ok (.new 64, 3) := by decide +kernel
theorem d_TB_release_17 : decode (mB M_TB_release) 17 = .ok (.dup, 1) := by decide +kernel
theorem d_TB_release_18 : decode (mB M_TB_release) 18 = .ok (.ldc 207, 2) := by decide +kernel
theorem d_TB_release_20 : decode (mB M_TB_release) 20 = .ok (.invokespecial 68, 3) := by decide +kernel
theorem d_TB_release_23 : decode (mB M_TB_release) 23 = .ok (.athrow, 1) := by decide +kernel
theorem d_TB_release_24 : decode (mB M_TB_release) 24 = .ok (.aload_n 2, 1) := by decide +kernel
theorem d_TB_release_25 : decode (mB M_TB_release) 25 = .ok (.getfield 209, 3) := by decide +kernel
theorem d_TB_release_28 : decode (mB M_TB_release) 28 = .ok (.istore_n 3, 1) := by decide +kernel
theorem d_TB_release_29 : decode (mB M_TB_release) 29 = .ok (.aload_n 2, 1) := by decide +kernel
theorem d_TB_release_30 : decode (mB M_TB_release) 30 = .ok (.invokevirtual 212, 3) := by decide +kernel
theorem d_TB_release_33 : decode (mB M_TB_release) 33 = .ok (.iload_n 3, 1) := by decide +kernel
theorem d_TB_release_34 : decode (mB M_TB_release) 34 = .ok (.ireturn, 1) := by decide +kernel
theorem d_TB_issue_0 : decode (mB M_TB_issue) 0 = .ok (.aload_n 0, 1) := by decide +kernel
theorem d_TB_issue_1 : decode (mB M_TB_issue) 1 = .ok (.iload_n 1, 1) := by decide +kernel
theorem d_TB_issue_2 : decode (mB M_TB_issue) 2 = .ok (.invokevirtual 146, 3) := by decide +kernel
theorem d_TB_issue_5 : decode (mB M_TB_issue) 5 = .ok (.astore_n 3, 1) := by decide +kernel
theorem d_TB_issue_6 : decode (mB M_TB_issue) 6 = .ok (.aload_n 0, 1) := by decide +kernel
theorem d_TB_issue_7 : decode (mB M_TB_issue) 7 = .ok (.iload_n 2, 1) := by decide +kernel
theorem d_TB_issue_8 : decode (mB M_TB_issue) 8 = .ok (.invokevirtual 76, 3) := by decide +kernel
theorem d_TB_issue_11 : decode (mB M_TB_issue) 11 = .ok (.astore 4, 2) := by decide +kernel
theorem d_TB_issue_13 : decode (mB M_TB_issue) 13 = .ok (.aload_n 0, 1) := by decide +kernel
theorem d_TB_issue_14 : decode (mB M_TB_issue) 14 = .ok (.iload_n 1, 1) := by decide +kernel
theorem d_TB_issue_15 : decode (mB M_TB_issue) 15 = .ok (.aload 4, 2) := by decide +kernel
theorem d_TB_issue_17 : decode (mB M_TB_issue) 17 = .ok (.invokevirtual 215, 3) := by decide +kernel
theorem d_TB_issue_20 : decode (mB M_TB_issue) 20 = .ok (.ifCond .eq 22, 3) := by decide +kernel
theorem d_TB_issue_23 : decode (mB M_TB_issue) 23 = .ok (.aload_n 3, 1) := by decide +kernel
theorem d_TB_issue_24 : decode (mB M_TB_issue) 24 = .ok (.getfield 152, 3) := by decide +kernel
theorem d_TB_issue_27 : decode (mB M_TB_issue) 27 = .ok (.iconst 2, 1) := by decide +kernel
theorem d_TB_issue_28 : decode (mB M_TB_issue) 28 = .ok (.if_icmp .eq 14, 3) := by decide +kernel
theorem d_TB_issue_31 : decode (mB M_TB_issue) 31 = .ok (.aload_n 3, 1) := by decide +kernel
theorem d_TB_issue_32 : decode (mB M_TB_issue) 32 = .ok (.aload_n 0, 1) := by decide +kernel
theorem d_TB_issue_33 : decode (mB M_TB_issue) 33 = .ok (.getfield 38, 3) := by decide +kernel
theorem d_TB_issue_36 : decode (mB M_TB_issue) 36 = .ok (.invokevirtual 219, 3) := by decide +kernel
theorem d_TB_issue_39 : decode (mB M_TB_issue) 39 = .ok (.ifCond .ne 13, 3) := by decide +kernel
theorem d_TB_issue_42 : decode (mB M_TB_issue) 42 = .ok (.new 64, 3) := by decide +kernel
theorem d_TB_issue_45 : decode (mB M_TB_issue) 45 = .ok (.dup, 1) := by decide +kernel
theorem d_TB_issue_46 : decode (mB M_TB_issue) 46 = .ok (.ldc 222, 2) := by decide +kernel
theorem d_TB_issue_48 : decode (mB M_TB_issue) 48 = .ok (.invokespecial 68, 3) := by decide +kernel
theorem d_TB_issue_51 : decode (mB M_TB_issue) 51 = .ok (.athrow, 1) := by decide +kernel
theorem d_TB_issue_52 : decode (mB M_TB_issue) 52 = .ok (.aload_n 0, 1) := by decide +kernel
theorem d_TB_issue_53 : decode (mB M_TB_issue) 53 = .ok (.aload_n 3, 1) := by decide +kernel
theorem d_TB_issue_54 : decode (mB M_TB_issue) 54 = .ok (.aload 4, 2) := by decide +kernel
theorem d_TB_issue_56 : decode (mB M_TB_issue) 56 = .ok (.iload_n 2, 1) := by decide +kernel
theorem d_TB_issue_57 : decode (mB M_TB_issue) 57 = .ok (.invokevirtual 195, 3) := by decide +kernel
theorem d_TB_issue_60 : decode (mB M_TB_issue) 60 = .ok (.ifCond .ne 13, 3) := by decide +kernel
theorem d_TB_issue_63 : decode (mB M_TB_issue) 63 = .ok (.new 105, 3) := by decide +kernel
theorem d_TB_issue_66 : decode (mB M_TB_issue) 66 = .ok (.dup, 1) := by decide +kernel
theorem d_TB_issue_67 : decode (mB M_TB_issue) 67 = .ok (.ldc 199, 2) := by decide +kernel
theorem d_TB_issue_69 : decode (mB M_TB_issue) 69 = .ok (.invokespecial 109, 3) := by decide +kernel
theorem d_TB_issue_72 : decode (mB M_TB_issue) 72 = .ok (.athrow, 1) := by decide +kernel
theorem d_TB_issue_73 : decode (mB M_TB_issue) 73 = .ok (.aload_n 0, 1) := by decide +kernel
theorem d_TB_issue_74 : decode (mB M_TB_issue) 74 = .ok (.aload 4, 2) := by decide +kernel
theorem d_TB_issue_76 : decode (mB M_TB_issue) 76 = .ok (.iload_n 1, 1) := by decide +kernel
theorem d_TB_issue_77 : decode (mB M_TB_issue) 77 = .ok (.iconst 0, 1) := by decide +kernel
theorem d_TB_issue_78 : decode (mB M_TB_issue) 78 = .ok (.invokevirtual 224, 3) := by decide +kernel
theorem d_TB_issue_81 : decode (mB M_TB_issue) 81 = .ok (.ireturn, 1) := by decide +kernel
theorem d_TB_emergency_0 : decode (mB M_TB_emergency) 0 = .ok (.aload_n 0, 1) := by decide +kernel
theorem d_TB_emergency_1 : decode (mB M_TB_emergency) 1 = .ok (.iload_n 1, 1) := by decide +kernel
theorem d_TB_emergency_2 : decode (mB M_TB_emergency) 2 = .ok (.invokevirtual 146, 3) := by decide +kernel
theorem d_TB_emergency_5 : decode (mB M_TB_emergency) 5 = .ok (.astore 4, 2) := by decide +kernel
theorem d_TB_emergency_7 : decode (mB M_TB_emergency) 7 = .ok (.aload_n 0, 1) := by decide +kernel
theorem d_TB_emergency_8 : decode (mB M_TB_emergency) 8 = .ok (.iload_n 2, 1) := by decide +kernel
theorem d_TB_emergency_9 : decode (mB M_TB_emergency) 9 = .ok (.invokevirtual 76, 3) := by decide +kernel
theorem d_TB_emergency_12 : decode (mB M_TB_emergency) 12 = .ok (.astore 5, 2) := by decide +kernel
theorem d_TB_emergency_14 : decode (mB M_TB_emergency) 14 = .ok (.iload_n 3, 1) := by decide +kernel
theorem d_TB_emergency_15 : decode (mB M_TB_emergency) 15 = .ok (.iconst 1, 1) := by decide +kernel
theorem d_TB_emergency_16 : decode (mB M_TB_emergency) 16 = .ok (.if_icmp .lt 10, 3) := by decide +kernel
theorem d_TB_emergency_19 : decode (mB M_TB_emergency) 19 = .ok (.iload_n 3, 1) := by decide +kernel
theorem d_TB_emergency_20 : decode (mB M_TB_emergency) 20 = .ok (.sipush 999, 3) := by decide +kernel
theorem d_TB_emergency_23 : decode (mB M_TB_emergency) 23 = .ok (.if_icmp .le 13, 3) := by decide +kernel
theorem d_TB_emergency_26 : decode (mB M_TB_emergency) 26 = .ok (.new 31, 3) := by decide +kernel
theorem d_TB_emergency_29 : decode (mB M_TB_emergency) 29 = .ok (.dup, 1) := by decide +kernel
theorem d_TB_emergency_30 : decode (mB M_TB_emergency) 30 = .ok (.ldc 228, 2) := by decide +kernel
theorem d_TB_emergency_32 : decode (mB M_TB_emergency) 32 = .ok (.invokespecial 35, 3) := by decide +kernel
theorem d_TB_emergency_35 : decode (mB M_TB_emergency) 35 = .ok (.athrow, 1) := by decide +kernel
theorem d_TB_emergency_36 : decode (mB M_TB_emergency) 36 = .ok (.aload_n 0, 1) := by decide +kernel
theorem d_TB_emergency_37 : decode (mB M_TB_emergency) 37 = .ok (.iload_n 1, 1) := by decide +kernel
theorem d_TB_emergency_38 : decode (mB M_TB_emergency) 38 = .ok (.aload 5, 2) := by decide +kernel
theorem d_TB_emergency_40 : decode (mB M_TB_emergency) 40 = .ok (.invokevirtual 215, 3) := by decide +kernel
theorem d_TB_emergency_43 : decode (mB M_TB_emergency) 43 = .ok (.ifCond .eq 12, 3) := by decide +kernel
theorem d_TB_emergency_46 : decode (mB M_TB_emergency) 46 = .ok (.aload 4, 2) := by decide +kernel
theorem d_TB_emergency_48 : decode (mB M_TB_emergency) 48 = .ok (.getfield 152, 3) := by decide +kernel
theorem d_TB_emergency_51 : decode (mB M_TB_emergency) 51 = .ok (.iconst 2, 1) := by decide +kernel
theorem d_TB_emergency_52 : decode (mB M_TB_emergency) 52 = .ok (.if_icmp .ne 13, 3) := by decide +kernel
theorem d_TB_emergency_55 : decode (mB M_TB_emergency) 55 = .ok (.new 64, 3) := by decide +kernel
theorem d_TB_emergency_58 : decode (mB M_TB_emergency) 58 = .ok (.dup, 1) := by decide +kernel
theorem d_TB_emergency_59 : decode (mB M_TB_emergency) 59 = .ok (.ldc 222, 2) := by decide +kernel
theorem d_TB_emergency_61 : decode (mB M_TB_emergency) 61 = .ok (.invokespecial 68, 3) := by decide +kernel
theorem d_TB_emergency_64 : decode (mB M_TB_emergency) 64 = .ok (.athrow, 1) := by decide +kernel
theorem d_TB_emergency_65 : decode (mB M_TB_emergency) 65 = .ok (.aload 5, 2) := by decide +kernel
theorem d_TB_emergency_67 : decode (mB M_TB_emergency) 67 = .ok (.invokevirtual 230, 3) := by decide +kernel
theorem d_TB_emergency_70 : decode (mB M_TB_emergency) 70 = .ok (.ifCond .eq 13, 3) := by decide +kernel
theorem d_TB_emergency_73 : decode (mB M_TB_emergency) 73 = .ok (.aload 4, 2) := by decide +kernel
theorem d_TB_emergency_75 : decode (mB M_TB_emergency) 75 = .ok (.aload 5, 2) := by decide +kernel
theorem d_TB_emergency_77 : decode (mB M_TB_emergency) 77 = .ok (.invokestatic 233, 3) := by decide +kernel
theorem d_TB_emergency_80 : decode (mB M_TB_emergency) 80 = .ok (.ifCond .eq 13, 3) := by decide +kernel
theorem d_TB_emergency_83 : decode (mB M_TB_emergency) 83 = .ok (.new 105, 3) := by decide +kernel
theorem d_TB_emergency_86 : decode (mB M_TB_emergency) 86 = .ok (.dup, 1) := by decide +kernel
theorem d_TB_emergency_87 : decode (mB M_TB_emergency) 87 = .ok (.ldc 239, 2) := by decide +kernel
theorem d_TB_emergency_89 : decode (mB M_TB_emergency) 89 = .ok (.invokespecial 109, 3) := by decide +kernel
theorem d_TB_emergency_92 : decode (mB M_TB_emergency) 92 = .ok (.athrow, 1) := by decide +kernel
theorem d_TB_emergency_93 : decode (mB M_TB_emergency) 93 = .ok (.aload_n 0, 1) := by decide +kernel
theorem d_TB_emergency_94 : decode (mB M_TB_emergency) 94 = .ok (.aload 5, 2) := by decide +kernel
theorem d_TB_emergency_96 : decode (mB M_TB_emergency) 96 = .ok (.iload_n 1, 1) := by decide +kernel
theorem d_TB_emergency_97 : decode (mB M_TB_emergency) 97 = .ok (.iload_n 3, 1) := by decide +kernel
theorem d_TB_emergency_98 : decode (mB M_TB_emergency) 98 = .ok (.invokevirtual 224, 3) := by decide +kernel
theorem d_TB_emergency_101 : decode (mB M_TB_emergency) 101 = .ok (.ireturn, 1) := by decide +kernel
theorem d_TB_giveBack_0 : decode (mB M_TB_giveBack) 0 = .ok (.aload_n 0, 1) := by decide +kernel
theorem d_TB_giveBack_1 : decode (mB M_TB_giveBack) 1 = .ok (.iload_n 1, 1) := by decide +kernel
theorem d_TB_giveBack_2 : decode (mB M_TB_giveBack) 2 = .ok (.invokevirtual 76, 3) := by decide +kernel
theorem d_TB_giveBack_5 : decode (mB M_TB_giveBack) 5 = .ok (.astore_n 2, 1) := by decide +kernel
theorem d_TB_giveBack_6 : decode (mB M_TB_giveBack) 6 = .ok (.aload_n 0, 1) := by decide +kernel
theorem d_TB_giveBack_7 : decode (mB M_TB_giveBack) 7 = .ok (.getfield 38, 3) := by decide +kernel
theorem d_TB_giveBack_10 : decode (mB M_TB_giveBack) 10 = .ok (.aload_n 2, 1) := by decide +kernel
theorem d_TB_giveBack_11 : decode (mB M_TB_giveBack) 11 = .ok (.getfield 241, 3) := by decide +kernel
theorem d_TB_giveBack_14 : decode (mB M_TB_giveBack) 14 = .ok (.isub, 1) := by decide +kernel
theorem d_TB_giveBack_15 : decode (mB M_TB_giveBack) 15 = .ok (.istore_n 3, 1) := by decide +kernel
theorem d_TB_giveBack_16 : decode (mB M_TB_giveBack) 16 = .ok (.aload_n 2, 1) := by decide +kernel
theorem d_TB_giveBack_17 : decode (mB M_TB_giveBack) 17 = .ok (.getfield 82, 3) := by decide +kernel
theorem d_TB_giveBack_20 : decode (mB M_TB_giveBack) 20 = .ok (.iconst 2, 1) := by decide +kernel
theorem d_TB_giveBack_21 : decode (mB M_TB_giveBack) 21 = .ok (.if_icmp .ne 9, 3) := by decide +kernel
theorem d_TB_giveBack_24 : decode (mB M_TB_giveBack) 24 = .ok (.iload_n 3, 1) := by decide +kernel
theorem d_TB_giveBack_25 : decode (mB M_TB_giveBack) 25 = .ok (.bipush 30, 2) := by decide +kernel
theorem d_TB_giveBack_27 : decode (mB M_TB_giveBack) 27 = .ok (.if_icmp .lt 13, 3) := by decide +kernel
theorem d_TB_giveBack_30 : decode (mB M_TB_giveBack) 30 = .ok (.new 64, 3) := by decide +kernel
theorem d_TB_giveBack_33 : decode (mB M_TB_giveBack) 33 = .ok (.dup, 1) := by decide +kernel
theorem d_TB_giveBack_34 : decode (mB M_TB_giveBack) 34 = .ok (.ldc 244, 2) := by decide +kernel
theorem d_TB_giveBack_36 : decode (mB M_TB_giveBack) 36 = .ok (.invokespecial 68, 3) := by decide +kernel
theorem d_TB_giveBack_39 : decode (mB M_TB_giveBack) 39 = .ok (.athrow, 1) := by decide +kernel
theorem d_TB_giveBack_40 : decode (mB M_TB_giveBack) 40 = .ok (.aload_n 2, 1) := by decide +kernel
theorem d_TB_giveBack_41 : decode (mB M_TB_giveBack) 41 = .ok (.invokevirtual 212, 3) := by decide +kernel
theorem d_TB_giveBack_44 : decode (mB M_TB_giveBack) 44 = .ok (.iload_n 3, 1) := by decide +kernel
theorem d_TB_giveBack_45 : decode (mB M_TB_giveBack) 45 = .ok (.ireturn, 1) := by decide +kernel
theorem d_TB_transfused_0 : decode (mB M_TB_transfused) 0 = .ok (.aload_n 0, 1) := by decide +kernel
theorem d_TB_transfused_1 : decode (mB M_TB_transfused) 1 = .ok (.iload_n 1, 1) := by decide +kernel
theorem d_TB_transfused_2 : decode (mB M_TB_transfused) 2 = .ok (.invokevirtual 76, 3) := by decide +kernel
theorem d_TB_transfused_5 : decode (mB M_TB_transfused) 5 = .ok (.astore_n 2, 1) := by decide +kernel
theorem d_TB_transfused_6 : decode (mB M_TB_transfused) 6 = .ok (.aload_n 2, 1) := by decide +kernel
theorem d_TB_transfused_7 : decode (mB M_TB_transfused) 7 = .ok (.getfield 82, 3) := by decide +kernel
theorem d_TB_transfused_10 : decode (mB M_TB_transfused) 10 = .ok (.iconst 2, 1) := by decide +kernel
theorem d_TB_transfused_11 : decode (mB M_TB_transfused) 11 = .ok (.if_icmp .eq 13, 3) := by decide +kernel
theorem d_TB_transfused_14 : decode (mB M_TB_transfused) 14 = .ok (.new 64, 3) := by decide +kernel
theorem d_TB_transfused_17 : decode (mB M_TB_transfused) 17 = .ok (.dup, 1) := by decide +kernel
theorem d_TB_transfused_18 : decode (mB M_TB_transfused) 18 = .ok (.ldc 246, 2) := by decide +kernel
theorem d_TB_transfused_20 : decode (mB M_TB_transfused) 20 = .ok (.invokespecial 68, 3) := by decide +kernel
theorem d_TB_transfused_23 : decode (mB M_TB_transfused) 23 = .ok (.athrow, 1) := by decide +kernel
theorem d_TB_transfused_24 : decode (mB M_TB_transfused) 24 = .ok (.aload_n 2, 1) := by decide +kernel
theorem d_TB_transfused_25 : decode (mB M_TB_transfused) 25 = .ok (.iconst 3, 1) := by decide +kernel
theorem d_TB_transfused_26 : decode (mB M_TB_transfused) 26 = .ok (.putfield 82, 3) := by decide +kernel
theorem d_TB_transfused_29 : decode (mB M_TB_transfused) 29 = .ok (.aload_n 2, 1) := by decide +kernel
theorem d_TB_transfused_30 : decode (mB M_TB_transfused) 30 = .ok (.getfield 209, 3) := by decide +kernel
theorem d_TB_transfused_33 : decode (mB M_TB_transfused) 33 = .ok (.ireturn, 1) := by decide +kernel
theorem d_TB_discard_0 : decode (mB M_TB_discard) 0 = .ok (.aload_n 0, 1) := by decide +kernel
theorem d_TB_discard_1 : decode (mB M_TB_discard) 1 = .ok (.iload_n 1, 1) := by decide +kernel
theorem d_TB_discard_2 : decode (mB M_TB_discard) 2 = .ok (.invokevirtual 76, 3) := by decide +kernel
theorem d_TB_discard_5 : decode (mB M_TB_discard) 5 = .ok (.astore_n 3, 1) := by decide +kernel
theorem d_TB_discard_6 : decode (mB M_TB_discard) 6 = .ok (.iload_n 2, 1) := by decide +kernel
theorem d_TB_discard_7 : decode (mB M_TB_discard) 7 = .ok (.iconst 1, 1) := by decide +kernel
theorem d_TB_discard_8 : decode (mB M_TB_discard) 8 = .ok (.if_icmp .lt 8, 3) := by decide +kernel
theorem d_TB_discard_11 : decode (mB M_TB_discard) 11 = .ok (.iload_n 2, 1) := by decide +kernel
theorem d_TB_discard_12 : decode (mB M_TB_discard) 12 = .ok (.iconst 5, 1) := by decide +kernel
theorem d_TB_discard_13 : decode (mB M_TB_discard) 13 = .ok (.if_icmp .le 13, 3) := by decide +kernel
theorem d_TB_discard_16 : decode (mB M_TB_discard) 16 = .ok (.new 31, 3) := by decide +kernel
theorem d_TB_discard_19 : decode (mB M_TB_discard) 19 = .ok (.dup, 1) := by decide +kernel
theorem d_TB_discard_20 : decode (mB M_TB_discard) 20 = .ok (.ldc 248, 2) := by decide +kernel
theorem d_TB_discard_22 : decode (mB M_TB_discard) 22 = .ok (.invokespecial 35, 3) := by decide +kernel
theorem d_TB_discard_25 : decode (mB M_TB_discard) 25 = .ok (.athrow, 1) := by decide +kernel
theorem d_TB_discard_26 : decode (mB M_TB_discard) 26 = .ok (.aload_n 3, 1) := by decide +kernel
theorem d_TB_discard_27 : decode (mB M_TB_discard) 27 = .ok (.invokevirtual 182, 3) := by decide +kernel
theorem d_TB_discard_30 : decode (mB M_TB_discard) 30 = .ok (.ifCond .ne 21, 3) := by decide +kernel
theorem d_TB_discard_33 : decode (mB M_TB_discard) 33 = .ok (.aload_n 3, 1) := by decide +kernel
theorem d_TB_discard_34 : decode (mB M_TB_discard) 34 = .ok (.getfield 82, 3) := by decide +kernel
theorem d_TB_discard_37 : decode (mB M_TB_discard) 37 = .ok (.iconst 2, 1) := by decide +kernel
theorem d_TB_discard_38 : decode (mB M_TB_discard) 38 = .ok (.if_icmp .eq 13, 3) := by decide +kernel
theorem d_TB_discard_41 : decode (mB M_TB_discard) 41 = .ok (.new 64, 3) := by decide +kernel
theorem d_TB_discard_44 : decode (mB M_TB_discard) 44 = .ok (.dup, 1) := by decide +kernel
theorem d_TB_discard_45 : decode (mB M_TB_discard) 45 = .ok (.ldc 250, 2) := by decide +kernel
theorem d_TB_discard_47 : decode (mB M_TB_discard) 47 = .ok (.invokespecial 68, 3) := by decide +kernel
theorem d_TB_discard_50 : decode (mB M_TB_discard) 50 = .ok (.athrow, 1) := by decide +kernel
theorem d_TB_discard_51 : decode (mB M_TB_discard) 51 = .ok (.aload_n 3, 1) := by decide +kernel
theorem d_TB_discard_52 : decode (mB M_TB_discard) 52 = .ok (.getfield 82, 3) := by decide +kernel
theorem d_TB_discard_55 : decode (mB M_TB_discard) 55 = .ok (.istore 4, 2) := by decide +kernel
theorem d_TB_discard_57 : decode (mB M_TB_discard) 57 = .ok (.aload_n 3, 1) := by decide +kernel
theorem d_TB_discard_58 : decode (mB M_TB_discard) 58 = .ok (.iload_n 2, 1) := by decide +kernel
theorem d_TB_discard_59 : decode (mB M_TB_discard) 59 = .ok (.invokevirtual 252, 3) := by decide +kernel
theorem d_TB_discard_62 : decode (mB M_TB_discard) 62 = .ok (.iload 4, 2) := by decide +kernel
theorem d_TB_discard_64 : decode (mB M_TB_discard) 64 = .ok (.ireturn, 1) := by decide +kernel
theorem d_TB_quarantine_0 : decode (mB M_TB_quarantine) 0 = .ok (.iload_n 1, 1) := by decide +kernel
theorem d_TB_quarantine_1 : decode (mB M_TB_quarantine) 1 = .ok (.bipush 16, 2) := by decide +kernel
theorem d_TB_quarantine_3 : decode (mB M_TB_quarantine) 3 = .ok (.invokestatic 48, 3) := by decide +kernel
theorem d_TB_quarantine_6 : decode (mB M_TB_quarantine) 6 = .ok (.ifCond .ne 13, 3) := by decide +kernel
theorem d_TB_quarantine_9 : decode (mB M_TB_quarantine) 9 = .ok (.new 31, 3) := by decide +kernel
theorem d_TB_quarantine_12 : decode (mB M_TB_quarantine) 12 = .ok (.dup, 1) := by decide +kernel
theorem d_TB_quarantine_13 : decode (mB M_TB_quarantine) 13 = .ok (.ldc 255, 2) := by decide +kernel
theorem d_TB_quarantine_15 : decode (mB M_TB_quarantine) 15 = .ok (.invokespecial 35, 3) := by decide +kernel
theorem d_TB_quarantine_18 : decode (mB M_TB_quarantine) 18 = .ok (.athrow, 1) := by decide +kernel
theorem d_TB_quarantine_19 : decode (mB M_TB_quarantine) 19 = .ok (.iconst 1, 1) := by decide +kernel
theorem d_TB_quarantine_20 : decode (mB M_TB_quarantine) 20 = .ok (.iload_n 1, 1) := by decide +kernel
theorem d_TB_quarantine_21 : decode (mB M_TB_quarantine) 21 = .ok (.ishl, 1) := by decide +kernel
theorem d_TB_quarantine_22 : decode (mB M_TB_quarantine) 22 = .ok (.istore_n 3, 1) := by decide +kernel
theorem d_TB_quarantine_23 : decode (mB M_TB_quarantine) 23 = .ok (.aload_n 0, 1) := by decide +kernel
theorem d_TB_quarantine_24 : decode (mB M_TB_quarantine) 24 = .ok (.iload_n 2, 1) := by decide +kernel
theorem d_TB_quarantine_25 : decode (mB M_TB_quarantine) 25 = .ok (.ifCond .eq 12, 3) := by decide +kernel
theorem d_TB_quarantine_28 : decode (mB M_TB_quarantine) 28 = .ok (.aload_n 0, 1) := by decide +kernel
theorem d_TB_quarantine_29 : decode (mB M_TB_quarantine) 29 = .ok (.getfield 257, 3) := by decide +kernel
theorem d_TB_quarantine_32 : decode (mB M_TB_quarantine) 32 = .ok (.iload_n 3, 1) := by decide +kernel
theorem d_TB_quarantine_33 : decode (mB M_TB_quarantine) 33 = .ok (.ior, 1) := by decide +kernel
theorem d_TB_quarantine_34 : decode (mB M_TB_quarantine) 34 = .ok (.goto 11, 3) := by decide +kernel
theorem d_TB_quarantine_37 : decode (mB M_TB_quarantine) 37 = .ok (.aload_n 0, 1) := by decide +kernel
theorem d_TB_quarantine_38 : decode (mB M_TB_quarantine) 38 = .ok (.getfield 257, 3) := by decide +kernel
theorem d_TB_quarantine_41 : decode (mB M_TB_quarantine) 41 = .ok (.iload_n 3, 1) := by decide +kernel
theorem d_TB_quarantine_42 : decode (mB M_TB_quarantine) 42 = .ok (.iconst (-1), 1) := by decide +kernel
theorem d_TB_quarantine_43 : decode (mB M_TB_quarantine) 43 = .ok (.ixor, 1) := by decide +kernel
theorem d_TB_quarantine_44 : decode (mB M_TB_quarantine) 44 = .ok (.iand, 1) := by decide +kernel
theorem d_TB_quarantine_45 : decode (mB M_TB_quarantine) 45 = .ok (.putfield 257, 3) := by decide +kernel
theorem d_TB_quarantine_48 : decode (mB M_TB_quarantine) 48 = .ok (.iconst 0, 1) := by decide +kernel
theorem d_TB_quarantine_49 : decode (mB M_TB_quarantine) 49 = .ok (.istore 4, 2) := by decide +kernel
theorem d_TB_quarantine_51 : decode (mB M_TB_quarantine) 51 = .ok (.iconst 0, 1) := by decide +kernel
theorem d_TB_quarantine_52 : decode (mB M_TB_quarantine) 52 = .ok (.istore 5, 2) := by decide +kernel
theorem d_TB_quarantine_54 : decode (mB M_TB_quarantine) 54 = .ok (.iload 5, 2) := by decide +kernel
theorem d_TB_quarantine_56 : decode (mB M_TB_quarantine) 56 = .ok (.aload_n 0, 1) := by decide +kernel
theorem d_TB_quarantine_57 : decode (mB M_TB_quarantine) 57 = .ok (.getfield 42, 3) := by decide +kernel
theorem d_TB_quarantine_60 : decode (mB M_TB_quarantine) 60 = .ok (.if_icmp .ge 42, 3) := by decide +kernel
theorem d_TB_quarantine_63 : decode (mB M_TB_quarantine) 63 = .ok (.aload_n 0, 1) := by decide +kernel
theorem d_TB_quarantine_64 : decode (mB M_TB_quarantine) 64 = .ok (.getfield 11, 3) := by decide +kernel
theorem d_TB_quarantine_67 : decode (mB M_TB_quarantine) 67 = .ok (.iload 5, 2) := by decide +kernel
theorem d_TB_quarantine_69 : decode (mB M_TB_quarantine) 69 = .ok (.aaload, 1) := by decide +kernel
theorem d_TB_quarantine_70 : decode (mB M_TB_quarantine) 70 = .ok (.invokevirtual 182, 3) := by decide +kernel
theorem d_TB_quarantine_73 : decode (mB M_TB_quarantine) 73 = .ok (.ifCond .eq 23, 3) := by decide +kernel
theorem d_TB_quarantine_76 : decode (mB M_TB_quarantine) 76 = .ok (.aload_n 0, 1) := by decide +kernel
theorem d_TB_quarantine_77 : decode (mB M_TB_quarantine) 77 = .ok (.getfield 11, 3) := by decide +kernel
theorem d_TB_quarantine_80 : decode (mB M_TB_quarantine) 80 = .ok (.iload 5, 2) := by decide +kernel
theorem d_TB_quarantine_82 : decode (mB M_TB_quarantine) 82 = .ok (.aaload, 1) := by decide +kernel
theorem d_TB_quarantine_83 : decode (mB M_TB_quarantine) 83 = .ok (.aload_n 0, 1) := by decide +kernel
theorem d_TB_quarantine_84 : decode (mB M_TB_quarantine) 84 = .ok (.getfield 257, 3) := by decide +kernel
theorem d_TB_quarantine_87 : decode (mB M_TB_quarantine) 87 = .ok (.invokevirtual 260, 3) := by decide +kernel
theorem d_TB_quarantine_90 : decode (mB M_TB_quarantine) 90 = .ok (.ifCond .eq 6, 3) := by decide +kernel
theorem d_TB_quarantine_93 : decode (mB M_TB_quarantine) 93 = .ok (.iinc 4 1, 3) := by decide +kernel
theorem d_TB_quarantine_96 : decode (mB M_TB_quarantine) 96 = .ok (.iinc 5 1, 3) := by decide +kernel
theorem d_TB_quarantine_99 : decode (mB M_TB_quarantine) 99 = .ok (.goto (-45), 3) := by decide +kernel
theorem d_TB_quarantine_102 : decode (mB M_TB_quarantine) 102 = .ok (.iload 4, 2) := by decide +kernel
theorem d_TB_quarantine_104 : decode (mB M_TB_quarantine) 104 = .ok (.ireturn, 1) := by decide +kernel
theorem d_TB_of_0 : decode (mB M_TB_of) 0 = .ok (.aload_n 0, 1) := by decide +kernel
theorem d_TB_of_1 : decode (mB M_TB_of) 1 = .ok (.iload_n 1, 1) := by decide +kernel
theorem d_TB_of_2 : decode (mB M_TB_of) 2 = .ok (.invokevirtual 76, 3) := by decide +kernel
theorem d_TB_of_5 : decode (mB M_TB_of) 5 = .ok (.astore_n 3, 1) := by decide +kernel
theorem d_TB_of_6 : decode (mB M_TB_of) 6 = .ok (.iload_n 2, 1) := by decide +kernel
theorem d_TB_of_7 : decode (mB M_TB_of) 7 = .ok (.tableswitch 115 0 9 #[53, 58, 63, 68, 73, 78, 83, 88, 105, 110], 53) := by decide +kernel
theorem d_TB_of_60 : decode (mB M_TB_of) 60 = .ok (.aload_n 3, 1) := by decide +kernel
theorem d_TB_of_61 : decode (mB M_TB_of) 61 = .ok (.getfield 82, 3) := by decide +kernel
theorem d_TB_of_64 : decode (mB M_TB_of) 64 = .ok (.ireturn, 1) := by decide +kernel
theorem d_TB_of_65 : decode (mB M_TB_of) 65 = .ok (.aload_n 3, 1) := by decide +kernel
theorem d_TB_of_66 : decode (mB M_TB_of) 66 = .ok (.getfield 99, 3) := by decide +kernel
theorem d_TB_of_69 : decode (mB M_TB_of) 69 = .ok (.ireturn, 1) := by decide +kernel
theorem d_TB_of_70 : decode (mB M_TB_of) 70 = .ok (.aload_n 3, 1) := by decide +kernel
theorem d_TB_of_71 : decode (mB M_TB_of) 71 = .ok (.getfield 128, 3) := by decide +kernel
theorem d_TB_of_74 : decode (mB M_TB_of) 74 = .ok (.ireturn, 1) := by decide +kernel
theorem d_TB_of_75 : decode (mB M_TB_of) 75 = .ok (.aload_n 3, 1) := by decide +kernel
theorem d_TB_of_76 : decode (mB M_TB_of) 76 = .ok (.getfield 131, 3) := by decide +kernel
theorem d_TB_of_79 : decode (mB M_TB_of) 79 = .ok (.ireturn, 1) := by decide +kernel
theorem d_TB_of_80 : decode (mB M_TB_of) 80 = .ok (.aload_n 3, 1) := by decide +kernel
theorem d_TB_of_81 : decode (mB M_TB_of) 81 = .ok (.getfield 263, 3) := by decide +kernel
theorem d_TB_of_84 : decode (mB M_TB_of) 84 = .ok (.ireturn, 1) := by decide +kernel
theorem d_TB_of_85 : decode (mB M_TB_of) 85 = .ok (.aload_n 3, 1) := by decide +kernel
theorem d_TB_of_86 : decode (mB M_TB_of) 86 = .ok (.getfield 266, 3) := by decide +kernel
theorem d_TB_of_89 : decode (mB M_TB_of) 89 = .ok (.ireturn, 1) := by decide +kernel
theorem d_TB_of_90 : decode (mB M_TB_of) 90 = .ok (.aload_n 3, 1) := by decide +kernel
theorem d_TB_of_91 : decode (mB M_TB_of) 91 = .ok (.getfield 209, 3) := by decide +kernel
theorem d_TB_of_94 : decode (mB M_TB_of) 94 = .ok (.ireturn, 1) := by decide +kernel
theorem d_TB_of_95 : decode (mB M_TB_of) 95 = .ok (.aload_n 3, 1) := by decide +kernel
theorem d_TB_of_96 : decode (mB M_TB_of) 96 = .ok (.aload_n 0, 1) := by decide +kernel
theorem d_TB_of_97 : decode (mB M_TB_of) 97 = .ok (.getfield 257, 3) := by decide +kernel
theorem d_TB_of_100 : decode (mB M_TB_of) 100 = .ok (.invokevirtual 260, 3) := by decide +kernel
theorem d_TB_of_103 : decode (mB M_TB_of) 103 = .ok (.ifCond .eq 7, 3) := by decide +kernel
theorem d_TB_of_106 : decode (mB M_TB_of) 106 = .ok (.iconst 1, 1) := by decide +kernel
theorem d_TB_of_107 : decode (mB M_TB_of) 107 = .ok (.goto 4, 3) := by decide +kernel
theorem d_TB_of_110 : decode (mB M_TB_of) 110 = .ok (.iconst 0, 1) := by decide +kernel
theorem d_TB_of_111 : decode (mB M_TB_of) 111 = .ok (.ireturn, 1) := by decide +kernel
theorem d_TB_of_112 : decode (mB M_TB_of) 112 = .ok (.aload_n 3, 1) := by decide +kernel
theorem d_TB_of_113 : decode (mB M_TB_of) 113 = .ok (.getfield 269, 3) := by decide +kernel
theorem d_TB_of_116 : decode (mB M_TB_of) 116 = .ok (.ireturn, 1) := by decide +kernel
theorem d_TB_of_117 : decode (mB M_TB_of) 117 = .ok (.aload_n 3, 1) := by decide +kernel
theorem d_TB_of_118 : decode (mB M_TB_of) 118 = .ok (.getfield 272, 3) := by decide +kernel
theorem d_TB_of_121 : decode (mB M_TB_of) 121 = .ok (.ireturn, 1) := by decide +kernel
theorem d_TB_of_122 : decode (mB M_TB_of) 122 = .ok (.new 275, 3) := by decide +kernel
theorem d_TB_of_125 : decode (mB M_TB_of) 125 = .ok (.dup, 1) := by decide +kernel
theorem d_TB_of_126 : decode (mB M_TB_of) 126 = .ok (.ldc_w 277, 3) := by decide +kernel
theorem d_TB_of_129 : decode (mB M_TB_of) 129 = .ok (.invokespecial 279, 3) := by decide +kernel
theorem d_TB_of_132 : decode (mB M_TB_of) 132 = .ok (.athrow, 1) := by decide +kernel
theorem d_TB_has_0 : decode (mB M_TB_has) 0 = .ok (.aload_n 0, 1) := by decide +kernel
theorem d_TB_has_1 : decode (mB M_TB_has) 1 = .ok (.iload_n 1, 1) := by decide +kernel
theorem d_TB_has_2 : decode (mB M_TB_has) 2 = .ok (.invokevirtual 76, 3) := by decide +kernel
theorem d_TB_has_5 : decode (mB M_TB_has) 5 = .ok (.astore_n 3, 1) := by decide +kernel
theorem d_TB_has_6 : decode (mB M_TB_has) 6 = .ok (.iload_n 2, 1) := by decide +kernel
theorem d_TB_has_7 : decode (mB M_TB_has) 7 = .ok (.bipush 8, 2) := by decide +kernel
theorem d_TB_has_9 : decode (mB M_TB_has) 9 = .ok (.invokestatic 48, 3) := by decide +kernel
theorem d_TB_has_12 : decode (mB M_TB_has) 12 = .ok (.ifCond .ne 13, 3) := by decide +kernel
theorem d_TB_has_15 : decode (mB M_TB_has) 15 = .ok (.new 275, 3) := by decide +kernel
theorem d_TB_has_18 : decode (mB M_TB_has) 18 = .ok (.dup, 1) := by decide +kernel
theorem d_TB_has_19 : decode (mB M_TB_has) 19 = .ok (.ldc 166, 2) := by decide +kernel
theorem d_TB_has_21 : decode (mB M_TB_has) 21 = .ok (.invokespecial 279, 3) := by decide +kernel
theorem d_TB_has_24 : decode (mB M_TB_has) 24 = .ok (.athrow, 1) := by decide +kernel
theorem d_TB_has_25 : decode (mB M_TB_has) 25 = .ok (.aload_n 3, 1) := by decide +kernel
theorem d_TB_has_26 : decode (mB M_TB_has) 26 = .ok (.iload_n 2, 1) := by decide +kernel
theorem d_TB_has_27 : decode (mB M_TB_has) 27 = .ok (.invokevirtual 280, 3) := by decide +kernel
theorem d_TB_has_30 : decode (mB M_TB_has) 30 = .ok (.ireturn, 1) := by decide +kernel
theorem d_TB_who_0 : decode (mB M_TB_who) 0 = .ok (.aload_n 0, 1) := by decide +kernel
theorem d_TB_who_1 : decode (mB M_TB_who) 1 = .ok (.iload_n 1, 1) := by decide +kernel
theorem d_TB_who_2 : decode (mB M_TB_who) 2 = .ok (.invokevirtual 146, 3) := by decide +kernel
theorem d_TB_who_5 : decode (mB M_TB_who) 5 = .ok (.astore_n 3, 1) := by decide +kernel
theorem d_TB_who_6 : decode (mB M_TB_who) 6 = .ok (.iload_n 2, 1) := by decide +kernel
theorem d_TB_who_7 : decode (mB M_TB_who) 7 = .ok (.tableswitch 82 0 4 #[33, 38, 55, 72, 77], 33) := by decide +kernel
theorem d_TB_who_40 : decode (mB M_TB_who) 40 = .ok (.aload_n 3, 1) := by decide +kernel
theorem d_TB_who_41 : decode (mB M_TB_who) 41 = .ok (.getfield 152, 3) := by decide +kernel
theorem d_TB_who_44 : decode (mB M_TB_who) 44 = .ok (.ireturn, 1) := by decide +kernel
theorem d_TB_who_45 : decode (mB M_TB_who) 45 = .ok (.aload_n 3, 1) := by decide +kernel
theorem d_TB_who_46 : decode (mB M_TB_who) 46 = .ok (.getfield 152, 3) := by decide +kernel
theorem d_TB_who_49 : decode (mB M_TB_who) 49 = .ok (.iconst 1, 1) := by decide +kernel
theorem d_TB_who_50 : decode (mB M_TB_who) 50 = .ok (.if_icmp .ne 10, 3) := by decide +kernel
theorem d_TB_who_53 : decode (mB M_TB_who) 53 = .ok (.aload_n 3, 1) := by decide +kernel
theorem d_TB_who_54 : decode (mB M_TB_who) 54 = .ok (.getfield 283, 3) := by decide +kernel
theorem d_TB_who_57 : decode (mB M_TB_who) 57 = .ok (.goto 4, 3) := by decide +kernel
theorem d_TB_who_60 : decode (mB M_TB_who) 60 = .ok (.iconst (-1), 1) := by decide +kernel
theorem d_TB_who_61 : decode (mB M_TB_who) 61 = .ok (.ireturn, 1) := by decide +kernel
theorem d_TB_who_62 : decode (mB M_TB_who) 62 = .ok (.aload_n 3, 1) := by decide +kernel
theorem d_TB_who_63 : decode (mB M_TB_who) 63 = .ok (.getfield 152, 3) := by decide +kernel
theorem d_TB_who_66 : decode (mB M_TB_who) 66 = .ok (.iconst 1, 1) := by decide +kernel
theorem d_TB_who_67 : decode (mB M_TB_who) 67 = .ok (.if_icmp .ne 10, 3) := by decide +kernel
theorem d_TB_who_70 : decode (mB M_TB_who) 70 = .ok (.aload_n 3, 1) := by decide +kernel
theorem d_TB_who_71 : decode (mB M_TB_who) 71 = .ok (.getfield 284, 3) := by decide +kernel
theorem d_TB_who_74 : decode (mB M_TB_who) 74 = .ok (.goto 4, 3) := by decide +kernel
theorem d_TB_who_77 : decode (mB M_TB_who) 77 = .ok (.iconst (-1), 1) := by decide +kernel
theorem d_TB_who_78 : decode (mB M_TB_who) 78 = .ok (.ireturn, 1) := by decide +kernel
theorem d_TB_who_79 : decode (mB M_TB_who) 79 = .ok (.aload_n 3, 1) := by decide +kernel
theorem d_TB_who_80 : decode (mB M_TB_who) 80 = .ok (.getfield 168, 3) := by decide +kernel
theorem d_TB_who_83 : decode (mB M_TB_who) 83 = .ok (.ireturn, 1) := by decide +kernel
theorem d_TB_who_84 : decode (mB M_TB_who) 84 = .ok (.aload_n 3, 1) := by decide +kernel
theorem d_TB_who_85 : decode (mB M_TB_who) 85 = .ok (.getfield 179, 3) := by decide +kernel
theorem d_TB_who_88 : decode (mB M_TB_who) 88 = .ok (.ireturn, 1) := by decide +kernel
theorem d_TB_who_89 : decode (mB M_TB_who) 89 = .ok (.new 275, 3) := by decide +kernel
theorem d_TB_who_92 : decode (mB M_TB_who) 92 = .ok (.dup, 1) := by decide +kernel
theorem d_TB_who_93 : decode (mB M_TB_who) 93 = .ok (.ldc_w 277, 3) := by decide +kernel
theorem d_TB_who_96 : decode (mB M_TB_who) 96 = .ok (.invokespecial 279, 3) := by decide +kernel
theorem d_TB_who_99 : decode (mB M_TB_who) 99 = .ok (.athrow, 1) := by decide +kernel
theorem d_TB_why_0 : decode (mB M_TB_why) 0 = .ok (.aload_n 0, 1) := by decide +kernel
theorem d_TB_why_1 : decode (mB M_TB_why) 1 = .ok (.iload_n 1, 1) := by decide +kernel
theorem d_TB_why_2 : decode (mB M_TB_why) 2 = .ok (.invokevirtual 146, 3) := by decide +kernel
theorem d_TB_why_5 : decode (mB M_TB_why) 5 = .ok (.astore_n 3, 1) := by decide +kernel
theorem d_TB_why_6 : decode (mB M_TB_why) 6 = .ok (.aload_n 0, 1) := by decide +kernel
theorem d_TB_why_7 : decode (mB M_TB_why) 7 = .ok (.iload_n 2, 1) := by decide +kernel
theorem d_TB_why_8 : decode (mB M_TB_why) 8 = .ok (.invokevirtual 76, 3) := by decide +kernel
theorem d_TB_why_11 : decode (mB M_TB_why) 11 = .ok (.astore 4, 2) := by decide +kernel
theorem d_TB_why_13 : decode (mB M_TB_why) 13 = .ok (.aload_n 3, 1) := by decide +kernel
theorem d_TB_why_14 : decode (mB M_TB_why) 14 = .ok (.aload 4, 2) := by decide +kernel
theorem d_TB_why_16 : decode (mB M_TB_why) 16 = .ok (.invokestatic 233, 3) := by decide +kernel
theorem d_TB_why_19 : decode (mB M_TB_why) 19 = .ok (.ireturn, 1) := by decide +kernel
theorem d_TB_offer_0 : decode (mB M_TB_offer) 0 = .ok (.aload_n 0, 1) := by decide +kernel
theorem d_TB_offer_1 : decode (mB M_TB_offer) 1 = .ok (.iload_n 1, 1) := by decide +kernel
theorem d_TB_offer_2 : decode (mB M_TB_offer) 2 = .ok (.invokevirtual 146, 3) := by decide +kernel
theorem d_TB_offer_5 : decode (mB M_TB_offer) 5 = .ok (.astore 4, 2) := by decide +kernel
theorem d_TB_offer_7 : decode (mB M_TB_offer) 7 = .ok (.iload_n 2, 1) := by decide +kernel
theorem d_TB_offer_8 : decode (mB M_TB_offer) 8 = .ok (.iconst 4, 1) := by decide +kernel
theorem d_TB_offer_9 : decode (mB M_TB_offer) 9 = .ok (.invokestatic 48, 3) := by decide +kernel
theorem d_TB_offer_12 : decode (mB M_TB_offer) 12 = .ok (.ifCond .ne 14, 3) := by decide +kernel
theorem d_TB_offer_15 : decode (mB M_TB_offer) 15 = .ok (.new 31, 3) := by decide +kernel
theorem d_TB_offer_18 : decode (mB M_TB_offer) 18 = .ok (.dup, 1) := by decide +kernel
theorem d_TB_offer_19 : decode (mB M_TB_offer) 19 = .ok (.ldc_w 285, 3) := by decide +kernel
theorem d_TB_offer_22 : decode (mB M_TB_offer) 22 = .ok (.invokespecial 35, 3) := by decide +kernel
theorem d_TB_offer_25 : decode (mB M_TB_offer) 25 = .ok (.athrow, 1) := by decide +kernel
theorem d_TB_offer_26 : decode (mB M_TB_offer) 26 = .ok (.aload_n 0, 1) := by decide +kernel
theorem d_TB_offer_27 : decode (mB M_TB_offer) 27 = .ok (.getfield 26, 3) := by decide +kernel
theorem d_TB_offer_30 : decode (mB M_TB_offer) 30 = .ok (.invokevirtual 287, 3) := by decide +kernel
theorem d_TB_offer_33 : decode (mB M_TB_offer) 33 = .ok (.iconst 0, 1) := by decide +kernel
theorem d_TB_offer_34 : decode (mB M_TB_offer) 34 = .ok (.istore 5, 2) := by decide +kernel
theorem d_TB_offer_36 : decode (mB M_TB_offer) 36 = .ok (.iload 5, 2) := by decide +kernel
theorem d_TB_offer_38 : decode (mB M_TB_offer) 38 = .ok (.aload_n 0, 1) := by decide +kernel
theorem d_TB_offer_39 : decode (mB M_TB_offer) 39 = .ok (.getfield 42, 3) := by decide +kernel
theorem d_TB_offer_42 : decode (mB M_TB_offer) 42 = .ok (.if_icmp .ge 60, 3) := by decide +kernel
theorem d_TB_offer_45 : decode (mB M_TB_offer) 45 = .ok (.aload_n 0, 1) := by decide +kernel
theorem d_TB_offer_46 : decode (mB M_TB_offer) 46 = .ok (.getfield 11, 3) := by decide +kernel
theorem d_TB_offer_49 : decode (mB M_TB_offer) 49 = .ok (.iload 5, 2) := by decide +kernel
theorem d_TB_offer_51 : decode (mB M_TB_offer) 51 = .ok (.aaload, 1) := by decide +kernel
theorem d_TB_offer_52 : decode (mB M_TB_offer) 52 = .ok (.astore 6, 2) := by decide +kernel
theorem d_TB_offer_54 : decode (mB M_TB_offer) 54 = .ok (.aload 6, 2) := by decide +kernel
theorem d_TB_offer_56 : decode (mB M_TB_offer) 56 = .ok (.getfield 99, 3) := by decide +kernel
theorem d_TB_offer_59 : decode (mB M_TB_offer) 59 = .ok (.iload_n 2, 1) := by decide +kernel
theorem d_TB_offer_60 : decode (mB M_TB_offer) 60 = .ok (.if_icmp .ne 36, 3) := by decide +kernel
theorem d_TB_offer_63 : decode (mB M_TB_offer) 63 = .ok (.aload_n 0, 1) := by decide +kernel
theorem d_TB_offer_64 : decode (mB M_TB_offer) 64 = .ok (.aload 6, 2) := by decide +kernel
theorem d_TB_offer_66 : decode (mB M_TB_offer) 66 = .ok (.invokevirtual 93, 3) := by decide +kernel
theorem d_TB_offer_69 : decode (mB M_TB_offer) 69 = .ok (.ifCond .eq 27, 3) := by decide +kernel
theorem d_TB_offer_72 : decode (mB M_TB_offer) 72 = .ok (.aload 4, 2) := by decide +kernel
theorem d_TB_offer_74 : decode (mB M_TB_offer) 74 = .ok (.aload 6, 2) := by decide +kernel
theorem d_TB_offer_76 : decode (mB M_TB_offer) 76 = .ok (.invokestatic 233, 3) := by decide +kernel
theorem d_TB_offer_79 : decode (mB M_TB_offer) 79 = .ok (.ifCond .ne 17, 3) := by decide +kernel
theorem d_TB_offer_82 : decode (mB M_TB_offer) 82 = .ok (.aload_n 0, 1) := by decide +kernel
theorem d_TB_offer_83 : decode (mB M_TB_offer) 83 = .ok (.getfield 26, 3) := by decide +kernel
theorem d_TB_offer_86 : decode (mB M_TB_offer) 86 = .ok (.iload 5, 2) := by decide +kernel
theorem d_TB_offer_88 : decode (mB M_TB_offer) 88 = .ok (.aload 6, 2) := by decide +kernel
theorem d_TB_offer_90 : decode (mB M_TB_offer) 90 = .ok (.getfield 266, 3) := by decide +kernel
theorem d_TB_offer_93 : decode (mB M_TB_offer) 93 = .ok (.invokevirtual 290, 3) := by decide +kernel
theorem d_TB_offer_96 : decode (mB M_TB_offer) 96 = .ok (.iinc 5 1, 3) := by decide +kernel
theorem d_TB_offer_99 : decode (mB M_TB_offer) 99 = .ok (.goto (-63), 3) := by decide +kernel
theorem d_TB_offer_102 : decode (mB M_TB_offer) 102 = .ok (.aload_n 0, 1) := by decide +kernel
theorem d_TB_offer_103 : decode (mB M_TB_offer) 103 = .ok (.getfield 26, 3) := by decide +kernel
theorem d_TB_offer_106 : decode (mB M_TB_offer) 106 = .ok (.iload_n 3, 1) := by decide +kernel
theorem d_TB_offer_107 : decode (mB M_TB_offer) 107 = .ok (.invokevirtual 293, 3) := by decide +kernel
theorem d_TB_offer_110 : decode (mB M_TB_offer) 110 = .ok (.ireturn, 1) := by decide +kernel
theorem d_TB_stock_0 : decode (mB M_TB_stock) 0 = .ok (.iload_n 2, 1) := by decide +kernel
theorem d_TB_stock_1 : decode (mB M_TB_stock) 1 = .ok (.iconst (-1), 1) := by decide +kernel
theorem d_TB_stock_2 : decode (mB M_TB_stock) 2 = .ok (.if_icmp .ne 7, 3) := by decide +kernel
theorem d_TB_stock_5 : decode (mB M_TB_stock) 5 = .ok (.iconst 1, 1) := by decide +kernel
theorem d_TB_stock_6 : decode (mB M_TB_stock) 6 = .ok (.goto 4, 3) := by decide +kernel
theorem d_TB_stock_9 : decode (mB M_TB_stock) 9 = .ok (.iconst 0, 1) := by decide +kernel
theorem d_TB_stock_10 : decode (mB M_TB_stock) 10 = .ok (.istore 4, 2) := by decide +kernel
theorem d_TB_stock_12 : decode (mB M_TB_stock) 12 = .ok (.iload_n 3, 1) := by decide +kernel
theorem d_TB_stock_13 : decode (mB M_TB_stock) 13 = .ok (.iconst (-1), 1) := by decide +kernel
theorem d_TB_stock_14 : decode (mB M_TB_stock) 14 = .ok (.if_icmp .ne 7, 3) := by decide +kernel
theorem d_TB_stock_17 : decode (mB M_TB_stock) 17 = .ok (.iconst 1, 1) := by decide +kernel
theorem d_TB_stock_18 : decode (mB M_TB_stock) 18 = .ok (.goto 4, 3) := by decide +kernel
theorem d_TB_stock_21 : decode (mB M_TB_stock) 21 = .ok (.iconst 0, 1) := by decide +kernel
theorem d_TB_stock_22 : decode (mB M_TB_stock) 22 = .ok (.istore 5, 2) := by decide +kernel
theorem d_TB_stock_24 : decode (mB M_TB_stock) 24 = .ok (.iload_n 1, 1) := by decide +kernel
theorem d_TB_stock_25 : decode (mB M_TB_stock) 25 = .ok (.iconst 4, 1) := by decide +kernel
theorem d_TB_stock_26 : decode (mB M_TB_stock) 26 = .ok (.invokestatic 48, 3) := by decide +kernel
theorem d_TB_stock_29 : decode (mB M_TB_stock) 29 = .ok (.ifCond .eq 29, 3) := by decide +kernel
theorem d_TB_stock_32 : decode (mB M_TB_stock) 32 = .ok (.iload 4, 2) := by decide +kernel
theorem d_TB_stock_34 : decode (mB M_TB_stock) 34 = .ok (.ifCond .ne 11, 3) := by decide +kernel
theorem d_TB_stock_37 : decode (mB M_TB_stock) 37 = .ok (.iload_n 2, 1) := by decide +kernel
theorem d_TB_stock_38 : decode (mB M_TB_stock) 38 = .ok (.iconst 4, 1) := by decide +kernel
theorem d_TB_stock_39 : decode (mB M_TB_stock) 39 = .ok (.invokestatic 48, 3) := by decide +kernel
theorem d_TB_stock_42 : decode (mB M_TB_stock) 42 = .ok (.ifCond .eq 16, 3) := by decide +kernel
theorem d_TB_stock_45 : decode (mB M_TB_stock) 45 = .ok (.iload 5, 2) := by decide +kernel
theorem d_TB_stock_47 : decode (mB M_TB_stock) 47 = .ok (.ifCond .ne 22, 3) := by decide +kernel
theorem d_TB_stock_50 : decode (mB M_TB_stock) 50 = .ok (.iload_n 3, 1) := by decide +kernel
theorem d_TB_stock_51 : decode (mB M_TB_stock) 51 = .ok (.iconst 2, 1) := by decide +kernel
theorem d_TB_stock_52 : decode (mB M_TB_stock) 52 = .ok (.invokestatic 48, 3) := by decide +kernel
theorem d_TB_stock_55 : decode (mB M_TB_stock) 55 = .ok (.ifCond .ne 14, 3) := by decide +kernel
theorem d_TB_stock_58 : decode (mB M_TB_stock) 58 = .ok (.new 31, 3) := by decide +kernel
theorem d_TB_stock_61 : decode (mB M_TB_stock) 61 = .ok (.dup, 1) := by decide +kernel
theorem d_TB_stock_62 : decode (mB M_TB_stock) 62 = .ok (.ldc_w 296, 3) := by decide +kernel
theorem d_TB_stock_65 : decode (mB M_TB_stock) 65 = .ok (.invokespecial 35, 3) := by decide +kernel
theorem d_TB_stock_68 : decode (mB M_TB_stock) 68 = .ok (.athrow, 1) := by decide +kernel
theorem d_TB_stock_69 : decode (mB M_TB_stock) 69 = .ok (.iconst 0, 1) := by decide +kernel
theorem d_TB_stock_70 : decode (mB M_TB_stock) 70 = .ok (.istore 6, 2) := by decide +kernel
theorem d_TB_stock_72 : decode (mB M_TB_stock) 72 = .ok (.iconst 0, 1) := by decide +kernel
theorem d_TB_stock_73 : decode (mB M_TB_stock) 73 = .ok (.istore 7, 2) := by decide +kernel
theorem d_TB_stock_75 : decode (mB M_TB_stock) 75 = .ok (.iload 7, 2) := by decide +kernel
theorem d_TB_stock_77 : decode (mB M_TB_stock) 77 = .ok (.aload_n 0, 1) := by decide +kernel
theorem d_TB_stock_78 : decode (mB M_TB_stock) 78 = .ok (.getfield 42, 3) := by decide +kernel
theorem d_TB_stock_81 : decode (mB M_TB_stock) 81 = .ok (.if_icmp .ge 67, 3) := by decide +kernel
theorem d_TB_stock_84 : decode (mB M_TB_stock) 84 = .ok (.aload_n 0, 1) := by decide +kernel
theorem d_TB_stock_85 : decode (mB M_TB_stock) 85 = .ok (.getfield 11, 3) := by decide +kernel
theorem d_TB_stock_88 : decode (mB M_TB_stock) 88 = .ok (.iload 7, 2) := by decide +kernel
theorem d_TB_stock_90 : decode (mB M_TB_stock) 90 = .ok (.aaload, 1) := by decide +kernel
theorem d_TB_stock_91 : decode (mB M_TB_stock) 91 = .ok (.astore 8, 2) := by decide +kernel
theorem d_TB_stock_93 : decode (mB M_TB_stock) 93 = .ok (.aload 8, 2) := by decide +kernel
theorem d_TB_stock_95 : decode (mB M_TB_stock) 95 = .ok (.getfield 99, 3) := by decide +kernel
theorem d_TB_stock_98 : decode (mB M_TB_stock) 98 = .ok (.iload_n 1, 1) := by decide +kernel
theorem d_TB_stock_99 : decode (mB M_TB_stock) 99 = .ok (.if_icmp .ne 43, 3) := by decide +kernel
theorem d_TB_stock_102 : decode (mB M_TB_stock) 102 = .ok (.iload 4, 2) := by decide +kernel
theorem d_TB_stock_104 : decode (mB M_TB_stock) 104 = .ok (.ifCond .ne 12, 3) := by decide +kernel
theorem d_TB_stock_107 : decode (mB M_TB_stock) 107 = .ok (.aload 8, 2) := by decide +kernel
theorem d_TB_stock_109 : decode (mB M_TB_stock) 109 = .ok (.getfield 128, 3) := by decide +kernel
theorem d_TB_stock_112 : decode (mB M_TB_stock) 112 = .ok (.iload_n 2, 1) := by decide +kernel
theorem d_TB_stock_113 : decode (mB M_TB_stock) 113 = .ok (.if_icmp .ne 29, 3) := by decide +kernel
theorem d_TB_stock_116 : decode (mB M_TB_stock) 116 = .ok (.iload 5, 2) := by decide +kernel
theorem d_TB_stock_118 : decode (mB M_TB_stock) 118 = .ok (.ifCond .ne 12, 3) := by decide +kernel
theorem d_TB_stock_121 : decode (mB M_TB_stock) 121 = .ok (.aload 8, 2) := by decide +kernel
theorem d_TB_stock_123 : decode (mB M_TB_stock) 123 = .ok (.getfield 131, 3) := by decide +kernel
theorem d_TB_stock_126 : decode (mB M_TB_stock) 126 = .ok (.iload_n 3, 1) := by decide +kernel
theorem d_TB_stock_127 : decode (mB M_TB_stock) 127 = .ok (.if_icmp .ne 15, 3) := by decide +kernel
theorem d_TB_stock_130 : decode (mB M_TB_stock) 130 = .ok (.aload_n 0, 1) := by decide +kernel
theorem d_TB_stock_131 : decode (mB M_TB_stock) 131 = .ok (.aload 8, 2) := by decide +kernel
theorem d_TB_stock_133 : decode (mB M_TB_stock) 133 = .ok (.invokevirtual 93, 3) := by decide +kernel
theorem d_TB_stock_136 : decode (mB M_TB_stock) 136 = .ok (.ifCond .eq 6, 3) := by decide +kernel
theorem d_TB_stock_139 : decode (mB M_TB_stock) 139 = .ok (.iinc 6 1, 3) := by decide +kernel
theorem d_TB_stock_142 : decode (mB M_TB_stock) 142 = .ok (.iinc 7 1, 3) := by decide +kernel
theorem d_TB_stock_145 : decode (mB M_TB_stock) 145 = .ok (.goto (-70), 3) := by decide +kernel
theorem d_TB_stock_148 : decode (mB M_TB_stock) 148 = .ok (.iload 6, 2) := by decide +kernel
theorem d_TB_stock_150 : decode (mB M_TB_stock) 150 = .ok (.ireturn, 1) := by decide +kernel
theorem d_TB_expiring_0 : decode (mB M_TB_expiring) 0 = .ok (.iload_n 1, 1) := by decide +kernel
theorem d_TB_expiring_1 : decode (mB M_TB_expiring) 1 = .ok (.ifCond .lt 9, 3) := by decide +kernel
theorem d_TB_expiring_4 : decode (mB M_TB_expiring) 4 = .ok (.iload_n 1, 1) := by decide +kernel
theorem d_TB_expiring_5 : decode (mB M_TB_expiring) 5 = .ok (.ldc 57, 2) := by decide +kernel
theorem d_TB_expiring_7 : decode (mB M_TB_expiring) 7 = .ok (.if_icmp .le 14, 3) := by decide +kernel
theorem d_TB_expiring_10 : decode (mB M_TB_expiring) 10 = .ok (.new 31, 3) := by decide +kernel
theorem d_TB_expiring_13 : decode (mB M_TB_expiring) 13 = .ok (.dup, 1) := by decide +kernel
theorem d_TB_expiring_14 : decode (mB M_TB_expiring) 14 = .ok (.ldc_w 298, 3) := by decide +kernel
theorem d_TB_expiring_17 : decode (mB M_TB_expiring) 17 = .ok (.invokespecial 35, 3) := by decide +kernel
theorem d_TB_expiring_20 : decode (mB M_TB_expiring) 20 = .ok (.athrow, 1) := by decide +kernel
theorem d_TB_expiring_21 : decode (mB M_TB_expiring) 21 = .ok (.aload_n 0, 1) := by decide +kernel
theorem d_TB_expiring_22 : decode (mB M_TB_expiring) 22 = .ok (.getfield 26, 3) := by decide +kernel
theorem d_TB_expiring_25 : decode (mB M_TB_expiring) 25 = .ok (.invokevirtual 287, 3) := by decide +kernel
theorem d_TB_expiring_28 : decode (mB M_TB_expiring) 28 = .ok (.iconst 0, 1) := by decide +kernel
theorem d_TB_expiring_29 : decode (mB M_TB_expiring) 29 = .ok (.istore_n 3, 1) := by decide +kernel
theorem d_TB_expiring_30 : decode (mB M_TB_expiring) 30 = .ok (.iload_n 3, 1) := by decide +kernel
theorem d_TB_expiring_31 : decode (mB M_TB_expiring) 31 = .ok (.aload_n 0, 1) := by decide +kernel
theorem d_TB_expiring_32 : decode (mB M_TB_expiring) 32 = .ok (.getfield 42, 3) := by decide +kernel
theorem d_TB_expiring_35 : decode (mB M_TB_expiring) 35 = .ok (.if_icmp .ge 64, 3) := by decide +kernel
theorem d_TB_expiring_38 : decode (mB M_TB_expiring) 38 = .ok (.aload_n 0, 1) := by decide +kernel
theorem d_TB_expiring_39 : decode (mB M_TB_expiring) 39 = .ok (.getfield 11, 3) := by decide +kernel
theorem d_TB_expiring_42 : decode (mB M_TB_expiring) 42 = .ok (.iload_n 3, 1) := by decide +kernel
theorem d_TB_expiring_43 : decode (mB M_TB_expiring) 43 = .ok (.aaload, 1) := by decide +kernel
theorem d_TB_expiring_44 : decode (mB M_TB_expiring) 44 = .ok (.astore 4, 2) := by decide +kernel
theorem d_TB_expiring_46 : decode (mB M_TB_expiring) 46 = .ok (.aload 4, 2) := by decide +kernel
theorem d_TB_expiring_48 : decode (mB M_TB_expiring) 48 = .ok (.invokevirtual 182, 3) := by decide +kernel
theorem d_TB_expiring_51 : decode (mB M_TB_expiring) 51 = .ok (.ifCond .eq 42, 3) := by decide +kernel
theorem d_TB_expiring_54 : decode (mB M_TB_expiring) 54 = .ok (.aload 4, 2) := by decide +kernel
theorem d_TB_expiring_56 : decode (mB M_TB_expiring) 56 = .ok (.aload_n 0, 1) := by decide +kernel
theorem d_TB_expiring_57 : decode (mB M_TB_expiring) 57 = .ok (.getfield 38, 3) := by decide +kernel
theorem d_TB_expiring_60 : decode (mB M_TB_expiring) 60 = .ok (.invokevirtual 300, 3) := by decide +kernel
theorem d_TB_expiring_63 : decode (mB M_TB_expiring) 63 = .ok (.ifCond .ne 30, 3) := by decide +kernel
theorem d_TB_expiring_66 : decode (mB M_TB_expiring) 66 = .ok (.aload 4, 2) := by decide +kernel
theorem d_TB_expiring_68 : decode (mB M_TB_expiring) 68 = .ok (.aload_n 0, 1) := by decide +kernel
theorem d_TB_expiring_69 : decode (mB M_TB_expiring) 69 = .ok (.getfield 38, 3) := by decide +kernel
theorem d_TB_expiring_72 : decode (mB M_TB_expiring) 72 = .ok (.iload_n 1, 1) := by decide +kernel
theorem d_TB_expiring_73 : decode (mB M_TB_expiring) 73 = .ok (.iadd, 1) := by decide +kernel
theorem d_TB_expiring_74 : decode (mB M_TB_expiring) 74 = .ok (.invokevirtual 300, 3) := by decide +kernel
theorem d_TB_expiring_77 : decode (mB M_TB_expiring) 77 = .ok (.ifCond .eq 16, 3) := by decide +kernel
theorem d_TB_expiring_80 : decode (mB M_TB_expiring) 80 = .ok (.aload_n 0, 1) := by decide +kernel
theorem d_TB_expiring_81 : decode (mB M_TB_expiring) 81 = .ok (.getfield 26, 3) := by decide +kernel
theorem d_TB_expiring_84 : decode (mB M_TB_expiring) 84 = .ok (.iload_n 3, 1) := by decide +kernel
theorem d_TB_expiring_85 : decode (mB M_TB_expiring) 85 = .ok (.aload 4, 2) := by decide +kernel
theorem d_TB_expiring_87 : decode (mB M_TB_expiring) 87 = .ok (.getfield 266, 3) := by decide +kernel
theorem d_TB_expiring_90 : decode (mB M_TB_expiring) 90 = .ok (.invokevirtual 290, 3) := by decide +kernel
theorem d_TB_expiring_93 : decode (mB M_TB_expiring) 93 = .ok (.iinc 3 1, 3) := by decide +kernel
theorem d_TB_expiring_96 : decode (mB M_TB_expiring) 96 = .ok (.goto (-66), 3) := by decide +kernel
theorem d_TB_expiring_99 : decode (mB M_TB_expiring) 99 = .ok (.aload_n 0, 1) := by decide +kernel
theorem d_TB_expiring_100 : decode (mB M_TB_expiring) 100 = .ok (.getfield 26, 3) := by decide +kernel
theorem d_TB_expiring_103 : decode (mB M_TB_expiring) 103 = .ok (.iload_n 2, 1) := by decide +kernel
theorem d_TB_expiring_104 : decode (mB M_TB_expiring) 104 = .ok (.invokevirtual 293, 3) := by decide +kernel
theorem d_TB_expiring_107 : decode (mB M_TB_expiring) 107 = .ok (.ireturn, 1) := by decide +kernel
theorem d_TB_lookback_0 : decode (mB M_TB_lookback) 0 = .ok (.iload_n 1, 1) := by decide +kernel
theorem d_TB_lookback_1 : decode (mB M_TB_lookback) 1 = .ok (.bipush 16, 2) := by decide +kernel
theorem d_TB_lookback_3 : decode (mB M_TB_lookback) 3 = .ok (.invokestatic 48, 3) := by decide +kernel
theorem d_TB_lookback_6 : decode (mB M_TB_lookback) 6 = .ok (.ifCond .ne 13, 3) := by decide +kernel
theorem d_TB_lookback_9 : decode (mB M_TB_lookback) 9 = .ok (.new 31, 3) := by decide +kernel
theorem d_TB_lookback_12 : decode (mB M_TB_lookback) 12 = .ok (.dup, 1) := by decide +kernel
theorem d_TB_lookback_13 : decode (mB M_TB_lookback) 13 = .ok (.ldc 255, 2) := by decide +kernel
theorem d_TB_lookback_15 : decode (mB M_TB_lookback) 15 = .ok (.invokespecial 35, 3) := by decide +kernel
theorem d_TB_lookback_18 : decode (mB M_TB_lookback) 18 = .ok (.athrow, 1) := by decide +kernel
theorem d_TB_lookback_19 : decode (mB M_TB_lookback) 19 = .ok (.aload_n 0, 1) := by decide +kernel
theorem d_TB_lookback_20 : decode (mB M_TB_lookback) 20 = .ok (.getfield 26, 3) := by decide +kernel
theorem d_TB_lookback_23 : decode (mB M_TB_lookback) 23 = .ok (.invokevirtual 287, 3) := by decide +kernel
theorem d_TB_lookback_26 : decode (mB M_TB_lookback) 26 = .ok (.iconst 0, 1) := by decide +kernel
theorem d_TB_lookback_27 : decode (mB M_TB_lookback) 27 = .ok (.istore_n 3, 1) := by decide +kernel
theorem d_TB_lookback_28 : decode (mB M_TB_lookback) 28 = .ok (.iload_n 3, 1) := by decide +kernel
theorem d_TB_lookback_29 : decode (mB M_TB_lookback) 29 = .ok (.aload_n 0, 1) := by decide +kernel
theorem d_TB_lookback_30 : decode (mB M_TB_lookback) 30 = .ok (.getfield 140, 3) := by decide +kernel
theorem d_TB_lookback_33 : decode (mB M_TB_lookback) 33 = .ok (.if_icmp .ge 35, 3) := by decide +kernel
theorem d_TB_lookback_36 : decode (mB M_TB_lookback) 36 = .ok (.aload_n 0, 1) := by decide +kernel
theorem d_TB_lookback_37 : decode (mB M_TB_lookback) 37 = .ok (.iload_n 3, 1) := by decide +kernel
theorem d_TB_lookback_38 : decode (mB M_TB_lookback) 38 = .ok (.iconst 1, 1) := by decide +kernel
theorem d_TB_lookback_39 : decode (mB M_TB_lookback) 39 = .ok (.iload_n 1, 1) := by decide +kernel
theorem d_TB_lookback_40 : decode (mB M_TB_lookback) 40 = .ok (.ishl, 1) := by decide +kernel
theorem d_TB_lookback_41 : decode (mB M_TB_lookback) 41 = .ok (.invokevirtual 303, 3) := by decide +kernel
theorem d_TB_lookback_44 : decode (mB M_TB_lookback) 44 = .ok (.istore 4, 2) := by decide +kernel
theorem d_TB_lookback_46 : decode (mB M_TB_lookback) 46 = .ok (.iload 4, 2) := by decide +kernel
theorem d_TB_lookback_48 : decode (mB M_TB_lookback) 48 = .ok (.iconst (-1), 1) := by decide +kernel
theorem d_TB_lookback_49 : decode (mB M_TB_lookback) 49 = .ok (.if_icmp .eq 13, 3) := by decide +kernel
theorem d_TB_lookback_52 : decode (mB M_TB_lookback) 52 = .ok (.aload_n 0, 1) := by decide +kernel
theorem d_TB_lookback_53 : decode (mB M_TB_lookback) 53 = .ok (.getfield 26, 3) := by decide +kernel
theorem d_TB_lookback_56 : decode (mB M_TB_lookback) 56 = .ok (.iload_n 3, 1) := by decide +kernel
theorem d_TB_lookback_57 : decode (mB M_TB_lookback) 57 = .ok (.iload 4, 2) := by decide +kernel
theorem d_TB_lookback_59 : decode (mB M_TB_lookback) 59 = .ok (.invokevirtual 290, 3) := by decide +kernel
theorem d_TB_lookback_62 : decode (mB M_TB_lookback) 62 = .ok (.iinc 3 1, 3) := by decide +kernel
theorem d_TB_lookback_65 : decode (mB M_TB_lookback) 65 = .ok (.goto (-37), 3) := by decide +kernel
theorem d_TB_lookback_68 : decode (mB M_TB_lookback) 68 = .ok (.aload_n 0, 1) := by decide +kernel
theorem d_TB_lookback_69 : decode (mB M_TB_lookback) 69 = .ok (.getfield 26, 3) := by decide +kernel
theorem d_TB_lookback_72 : decode (mB M_TB_lookback) 72 = .ok (.iload_n 2, 1) := by decide +kernel
theorem d_TB_lookback_73 : decode (mB M_TB_lookback) 73 = .ok (.invokevirtual 293, 3) := by decide +kernel
theorem d_TB_lookback_76 : decode (mB M_TB_lookback) 76 = .ok (.ireturn, 1) := by decide +kernel
theorem d_TB_received_0 : decode (mB M_TB_received) 0 = .ok (.aload_n 0, 1) := by decide +kernel
theorem d_TB_received_1 : decode (mB M_TB_received) 1 = .ok (.iload_n 1, 1) := by decide +kernel
theorem d_TB_received_2 : decode (mB M_TB_received) 2 = .ok (.invokevirtual 146, 3) := by decide +kernel
theorem d_TB_received_5 : decode (mB M_TB_received) 5 = .ok (.pop, 1) := by decide +kernel
theorem d_TB_received_6 : decode (mB M_TB_received) 6 = .ok (.aload_n 0, 1) := by decide +kernel
theorem d_TB_received_7 : decode (mB M_TB_received) 7 = .ok (.getfield 26, 3) := by decide +kernel
theorem d_TB_received_10 : decode (mB M_TB_received) 10 = .ok (.invokevirtual 287, 3) := by decide +kernel
theorem d_TB_received_13 : decode (mB M_TB_received) 13 = .ok (.iconst 0, 1) := by decide +kernel
theorem d_TB_received_14 : decode (mB M_TB_received) 14 = .ok (.istore_n 3, 1) := by decide +kernel
theorem d_TB_received_15 : decode (mB M_TB_received) 15 = .ok (.iload_n 3, 1) := by decide +kernel
theorem d_TB_received_16 : decode (mB M_TB_received) 16 = .ok (.aload_n 0, 1) := by decide +kernel
theorem d_TB_received_17 : decode (mB M_TB_received) 17 = .ok (.getfield 42, 3) := by decide +kernel
theorem d_TB_received_20 : decode (mB M_TB_received) 20 = .ok (.if_icmp .ge 39, 3) := by decide +kernel
theorem d_TB_received_23 : decode (mB M_TB_received) 23 = .ok (.aload_n 0, 1) := by decide +kernel
theorem d_TB_received_24 : decode (mB M_TB_received) 24 = .ok (.getfield 11, 3) := by decide +kernel
theorem d_TB_received_27 : decode (mB M_TB_received) 27 = .ok (.iload_n 3, 1) := by decide +kernel
theorem d_TB_received_28 : decode (mB M_TB_received) 28 = .ok (.aaload, 1) := by decide +kernel
theorem d_TB_received_29 : decode (mB M_TB_received) 29 = .ok (.iload_n 1, 1) := by decide +kernel
theorem d_TB_received_30 : decode (mB M_TB_received) 30 = .ok (.invokevirtual 307, 3) := by decide +kernel
theorem d_TB_received_33 : decode (mB M_TB_received) 33 = .ok (.ifCond .eq 20, 3) := by decide +kernel
theorem d_TB_received_36 : decode (mB M_TB_received) 36 = .ok (.aload_n 0, 1) := by decide +kernel
theorem d_TB_received_37 : decode (mB M_TB_received) 37 = .ok (.getfield 26, 3) := by decide +kernel
theorem d_TB_received_40 : decode (mB M_TB_received) 40 = .ok (.iload_n 3, 1) := by decide +kernel
theorem d_TB_received_41 : decode (mB M_TB_received) 41 = .ok (.aload_n 0, 1) := by decide +kernel
theorem d_TB_received_42 : decode (mB M_TB_received) 42 = .ok (.getfield 11, 3) := by decide +kernel
theorem d_TB_received_45 : decode (mB M_TB_received) 45 = .ok (.iload_n 3, 1) := by decide +kernel
theorem d_TB_received_46 : decode (mB M_TB_received) 46 = .ok (.aaload, 1) := by decide +kernel
theorem d_TB_received_47 : decode (mB M_TB_received) 47 = .ok (.getfield 310, 3) := by decide +kernel
theorem d_TB_received_50 : decode (mB M_TB_received) 50 = .ok (.invokevirtual 290, 3) := by decide +kernel
theorem d_TB_received_53 : decode (mB M_TB_received) 53 = .ok (.iinc 3 1, 3) := by decide +kernel
theorem d_TB_received_56 : decode (mB M_TB_received) 56 = .ok (.goto (-41), 3) := by decide +kernel
theorem d_TB_received_59 : decode (mB M_TB_received) 59 = .ok (.aload_n 0, 1) := by decide +kernel
theorem d_TB_received_60 : decode (mB M_TB_received) 60 = .ok (.getfield 26, 3) := by decide +kernel
theorem d_TB_received_63 : decode (mB M_TB_received) 63 = .ok (.iload_n 2, 1) := by decide +kernel
theorem d_TB_received_64 : decode (mB M_TB_received) 64 = .ok (.invokevirtual 293, 3) := by decide +kernel
theorem d_TB_received_67 : decode (mB M_TB_received) 67 = .ok (.ireturn, 1) := by decide +kernel
theorem d_TB_count_0 : decode (mB M_TB_count) 0 = .ok (.iload_n 1, 1) := by decide +kernel
theorem d_TB_count_1 : decode (mB M_TB_count) 1 = .ok (.iconst 4, 1) := by decide +kernel
theorem d_TB_count_2 : decode (mB M_TB_count) 2 = .ok (.invokestatic 48, 3) := by decide +kernel
theorem d_TB_count_5 : decode (mB M_TB_count) 5 = .ok (.ifCond .eq 12, 3) := by decide +kernel
theorem d_TB_count_8 : decode (mB M_TB_count) 8 = .ok (.iload_n 2, 1) := by decide +kernel
theorem d_TB_count_9 : decode (mB M_TB_count) 9 = .ok (.bipush 6, 2) := by decide +kernel
theorem d_TB_count_11 : decode (mB M_TB_count) 11 = .ok (.invokestatic 48, 3) := by decide +kernel
theorem d_TB_count_14 : decode (mB M_TB_count) 14 = .ok (.ifCond .ne 14, 3) := by decide +kernel
theorem d_TB_count_17 : decode (mB M_TB_count) 17 = .ok (.new 31, 3) := by decide +kernel
theorem d_TB_count_20 : decode (mB M_TB_count) 20 = .ok (.dup, 1) := by decide +kernel
theorem d_TB_count_21 : decode (mB M_TB_count) 21 = .ok (.ldc_w 313, 3) := by decide +kernel
theorem d_TB_count_24 : decode (mB M_TB_count) 24 = .ok (.invokespecial 35, 3) := by decide +kernel
theorem d_TB_count_27 : decode (mB M_TB_count) 27 = .ok (.athrow, 1) := by decide +kernel
theorem d_TB_count_28 : decode (mB M_TB_count) 28 = .ok (.iconst 0, 1) := by decide +kernel
theorem d_TB_count_29 : decode (mB M_TB_count) 29 = .ok (.istore_n 3, 1) := by decide +kernel
theorem d_TB_count_30 : decode (mB M_TB_count) 30 = .ok (.iconst 0, 1) := by decide +kernel
theorem d_TB_count_31 : decode (mB M_TB_count) 31 = .ok (.istore 4, 2) := by decide +kernel
theorem d_TB_count_33 : decode (mB M_TB_count) 33 = .ok (.iload 4, 2) := by decide +kernel
theorem d_TB_count_35 : decode (mB M_TB_count) 35 = .ok (.aload_n 0, 1) := by decide +kernel
theorem d_TB_count_36 : decode (mB M_TB_count) 36 = .ok (.getfield 42, 3) := by decide +kernel
theorem d_TB_count_39 : decode (mB M_TB_count) 39 = .ok (.if_icmp .ge 40, 3) := by decide +kernel
theorem d_TB_count_42 : decode (mB M_TB_count) 42 = .ok (.aload_n 0, 1) := by decide +kernel
theorem d_TB_count_43 : decode (mB M_TB_count) 43 = .ok (.getfield 11, 3) := by decide +kernel
theorem d_TB_count_46 : decode (mB M_TB_count) 46 = .ok (.iload 4, 2) := by decide +kernel
theorem d_TB_count_48 : decode (mB M_TB_count) 48 = .ok (.aaload, 1) := by decide +kernel
theorem d_TB_count_49 : decode (mB M_TB_count) 49 = .ok (.getfield 99, 3) := by decide +kernel
theorem d_TB_count_52 : decode (mB M_TB_count) 52 = .ok (.iload_n 1, 1) := by decide +kernel
theorem d_TB_count_53 : decode (mB M_TB_count) 53 = .ok (.if_icmp .ne 20, 3) := by decide +kernel
theorem d_TB_count_56 : decode (mB M_TB_count) 56 = .ok (.aload_n 0, 1) := by decide +kernel
theorem d_TB_count_57 : decode (mB M_TB_count) 57 = .ok (.getfield 11, 3) := by decide +kernel
theorem d_TB_count_60 : decode (mB M_TB_count) 60 = .ok (.iload 4, 2) := by decide +kernel
theorem d_TB_count_62 : decode (mB M_TB_count) 62 = .ok (.aaload, 1) := by decide +kernel
theorem d_TB_count_63 : decode (mB M_TB_count) 63 = .ok (.getfield 82, 3) := by decide +kernel
theorem d_TB_count_66 : decode (mB M_TB_count) 66 = .ok (.iload_n 2, 1) := by decide +kernel
theorem d_TB_count_67 : decode (mB M_TB_count) 67 = .ok (.if_icmp .ne 6, 3) := by decide +kernel
theorem d_TB_count_70 : decode (mB M_TB_count) 70 = .ok (.iinc 3 1, 3) := by decide +kernel
theorem d_TB_count_73 : decode (mB M_TB_count) 73 = .ok (.iinc 4 1, 3) := by decide +kernel
theorem d_TB_count_76 : decode (mB M_TB_count) 76 = .ok (.goto (-43), 3) := by decide +kernel
theorem d_TB_count_79 : decode (mB M_TB_count) 79 = .ok (.iload_n 3, 1) := by decide +kernel
theorem d_TB_count_80 : decode (mB M_TB_count) 80 = .ok (.ireturn, 1) := by decide +kernel
theorem d_TB_unitAt_0 : decode (mB M_TB_unitAt) 0 = .ok (.iload_n 1, 1) := by decide +kernel
theorem d_TB_unitAt_1 : decode (mB M_TB_unitAt) 1 = .ok (.aload_n 0, 1) := by decide +kernel
theorem d_TB_unitAt_2 : decode (mB M_TB_unitAt) 2 = .ok (.getfield 42, 3) := by decide +kernel
theorem d_TB_unitAt_5 : decode (mB M_TB_unitAt) 5 = .ok (.invokestatic 48, 3) := by decide +kernel
theorem d_TB_unitAt_8 : decode (mB M_TB_unitAt) 8 = .ok (.ifCond .ne 14, 3) := by decide +kernel
theorem d_TB_unitAt_11 : decode (mB M_TB_unitAt) 11 = .ok (.new 315, 3) := by decide +kernel
theorem d_TB_unitAt_14 : decode (mB M_TB_unitAt) 14 = .ok (.dup, 1) := by decide +kernel
theorem d_TB_unitAt_15 : decode (mB M_TB_unitAt) 15 = .ok (.ldc_w 317, 3) := by decide +kernel
theorem d_TB_unitAt_18 : decode (mB M_TB_unitAt) 18 = .ok (.invokespecial 319, 3) := by decide +kernel
theorem d_TB_unitAt_21 : decode (mB M_TB_unitAt) 21 = .ok (.athrow, 1) := by decide +kernel
theorem d_TB_unitAt_22 : decode (mB M_TB_unitAt) 22 = .ok (.aload_n 0, 1) := by decide +kernel
theorem d_TB_unitAt_23 : decode (mB M_TB_unitAt) 23 = .ok (.getfield 11, 3) := by decide +kernel
theorem d_TB_unitAt_26 : decode (mB M_TB_unitAt) 26 = .ok (.iload_n 1, 1) := by decide +kernel
theorem d_TB_unitAt_27 : decode (mB M_TB_unitAt) 27 = .ok (.aaload, 1) := by decide +kernel
theorem d_TB_unitAt_28 : decode (mB M_TB_unitAt) 28 = .ok (.areturn, 1) := by decide +kernel
theorem d_TB_patientAt_0 : decode (mB M_TB_patientAt) 0 = .ok (.iload_n 1, 1) := by decide +kernel
theorem d_TB_patientAt_1 : decode (mB M_TB_patientAt) 1 = .ok (.aload_n 0, 1) := by decide +kernel
theorem d_TB_patientAt_2 : decode (mB M_TB_patientAt) 2 = .ok (.getfield 140, 3) := by decide +kernel
theorem d_TB_patientAt_5 : decode (mB M_TB_patientAt) 5 = .ok (.invokestatic 48, 3) := by decide +kernel
theorem d_TB_patientAt_8 : decode (mB M_TB_patientAt) 8 = .ok (.ifCond .ne 14, 3) := by decide +kernel
theorem d_TB_patientAt_11 : decode (mB M_TB_patientAt) 11 = .ok (.new 315, 3) := by decide +kernel
theorem d_TB_patientAt_14 : decode (mB M_TB_patientAt) 14 = .ok (.dup, 1) := by decide +kernel
theorem d_TB_patientAt_15 : decode (mB M_TB_patientAt) 15 = .ok (.ldc_w 320, 3) := by decide +kernel
theorem d_TB_patientAt_18 : decode (mB M_TB_patientAt) 18 = .ok (.invokespecial 319, 3) := by decide +kernel
theorem d_TB_patientAt_21 : decode (mB M_TB_patientAt) 21 = .ok (.athrow, 1) := by decide +kernel
theorem d_TB_patientAt_22 : decode (mB M_TB_patientAt) 22 = .ok (.aload_n 0, 1) := by decide +kernel
theorem d_TB_patientAt_23 : decode (mB M_TB_patientAt) 23 = .ok (.getfield 17, 3) := by decide +kernel
theorem d_TB_patientAt_26 : decode (mB M_TB_patientAt) 26 = .ok (.iload_n 1, 1) := by decide +kernel
theorem d_TB_patientAt_27 : decode (mB M_TB_patientAt) 27 = .ok (.aaload, 1) := by decide +kernel
theorem d_TB_patientAt_28 : decode (mB M_TB_patientAt) 28 = .ok (.areturn, 1) := by decide +kernel
theorem d_TB_hasRoomFor_0 : decode (mB M_TB_hasRoomFor) 0 = .ok (.aload_n 0, 1) := by decide +kernel
theorem d_TB_hasRoomFor_1 : decode (mB M_TB_hasRoomFor) 1 = .ok (.getfield 42, 3) := by decide +kernel
theorem d_TB_hasRoomFor_4 : decode (mB M_TB_hasRoomFor) 4 = .ok (.iload_n 1, 1) := by decide +kernel
theorem d_TB_hasRoomFor_5 : decode (mB M_TB_hasRoomFor) 5 = .ok (.iadd, 1) := by decide +kernel
theorem d_TB_hasRoomFor_6 : decode (mB M_TB_hasRoomFor) 6 = .ok (.bipush 48, 2) := by decide +kernel
theorem d_TB_hasRoomFor_8 : decode (mB M_TB_hasRoomFor) 8 = .ok (.if_icmp .gt 7, 3) := by decide +kernel
theorem d_TB_hasRoomFor_11 : decode (mB M_TB_hasRoomFor) 11 = .ok (.iconst 1, 1) := by decide +kernel
theorem d_TB_hasRoomFor_12 : decode (mB M_TB_hasRoomFor) 12 = .ok (.goto 4, 3) := by decide +kernel
theorem d_TB_hasRoomFor_15 : decode (mB M_TB_hasRoomFor) 15 = .ok (.iconst 0, 1) := by decide +kernel
theorem d_TB_hasRoomFor_16 : decode (mB M_TB_hasRoomFor) 16 = .ok (.ireturn, 1) := by decide +kernel
theorem d_TB_isReady_0 : decode (mB M_TB_isReady) 0 = .ok (.aload_n 1, 1) := by decide +kernel
theorem d_TB_isReady_1 : decode (mB M_TB_isReady) 1 = .ok (.getfield 82, 3) := by decide +kernel
theorem d_TB_isReady_4 : decode (mB M_TB_isReady) 4 = .ok (.ifCond .ne 15, 3) := by decide +kernel
theorem d_TB_isReady_7 : decode (mB M_TB_isReady) 7 = .ok (.aload_n 0, 1) := by decide +kernel
theorem d_TB_isReady_8 : decode (mB M_TB_isReady) 8 = .ok (.aload_n 1, 1) := by decide +kernel
theorem d_TB_isReady_9 : decode (mB M_TB_isReady) 9 = .ok (.invokevirtual 322, 3) := by decide +kernel
theorem d_TB_isReady_12 : decode (mB M_TB_isReady) 12 = .ok (.ifCond .eq 7, 3) := by decide +kernel
theorem d_TB_isReady_15 : decode (mB M_TB_isReady) 15 = .ok (.iconst 1, 1) := by decide +kernel
theorem d_TB_isReady_16 : decode (mB M_TB_isReady) 16 = .ok (.goto 4, 3) := by decide +kernel
theorem d_TB_isReady_19 : decode (mB M_TB_isReady) 19 = .ok (.iconst 0, 1) := by decide +kernel
theorem d_TB_isReady_20 : decode (mB M_TB_isReady) 20 = .ok (.ireturn, 1) := by decide +kernel
theorem d_TB_isUsable_0 : decode (mB M_TB_isUsable) 0 = .ok (.aload_n 1, 1) := by decide +kernel
theorem d_TB_isUsable_1 : decode (mB M_TB_isUsable) 1 = .ok (.aload_n 0, 1) := by decide +kernel
theorem d_TB_isUsable_2 : decode (mB M_TB_isUsable) 2 = .ok (.getfield 38, 3) := by decide +kernel
theorem d_TB_isUsable_5 : decode (mB M_TB_isUsable) 5 = .ok (.invokevirtual 300, 3) := by decide +kernel
theorem d_TB_isUsable_8 : decode (mB M_TB_isUsable) 8 = .ok (.ifCond .ne 18, 3) := by decide +kernel
theorem d_TB_isUsable_11 : decode (mB M_TB_isUsable) 11 = .ok (.aload_n 1, 1) := by decide +kernel
theorem d_TB_isUsable_12 : decode (mB M_TB_isUsable) 12 = .ok (.aload_n 0, 1) := by decide +kernel
theorem d_TB_isUsable_13 : decode (mB M_TB_isUsable) 13 = .ok (.getfield 257, 3) := by decide +kernel
theorem d_TB_isUsable_16 : decode (mB M_TB_isUsable) 16 = .ok (.invokevirtual 260, 3) := by decide +kernel
theorem d_TB_isUsable_19 : decode (mB M_TB_isUsable) 19 = .ok (.ifCond .ne 7, 3) := by decide +kernel
theorem d_TB_isUsable_22 : decode (mB M_TB_isUsable) 22 = .ok (.iconst 1, 1) := by decide +kernel
theorem d_TB_isUsable_23 : decode (mB M_TB_isUsable) 23 = .ok (.goto 4, 3) := by decide +kernel
theorem d_TB_isUsable_26 : decode (mB M_TB_isUsable) 26 = .ok (.iconst 0, 1) := by decide +kernel
theorem d_TB_isUsable_27 : decode (mB M_TB_isUsable) 27 = .ok (.ireturn, 1) := by decide +kernel
theorem d_TB_mayLeaveFor_0 : decode (mB M_TB_mayLeaveFor) 0 = .ok (.aload_n 2, 1) := by decide +kernel
theorem d_TB_mayLeaveFor_1 : decode (mB M_TB_mayLeaveFor) 1 = .ok (.getfield 82, 3) := by decide +kernel
theorem d_TB_mayLeaveFor_4 : decode (mB M_TB_mayLeaveFor) 4 = .ok (.iconst 1, 1) := by decide +kernel
theorem d_TB_mayLeaveFor_5 : decode (mB M_TB_mayLeaveFor) 5 = .ok (.if_icmp .ne 15, 3) := by decide +kernel
theorem d_TB_mayLeaveFor_8 : decode (mB M_TB_mayLeaveFor) 8 = .ok (.aload_n 2, 1) := by decide +kernel
theorem d_TB_mayLeaveFor_9 : decode (mB M_TB_mayLeaveFor) 9 = .ok (.getfield 209, 3) := by decide +kernel
theorem d_TB_mayLeaveFor_12 : decode (mB M_TB_mayLeaveFor) 12 = .ok (.iload_n 1, 1) := by decide +kernel
theorem d_TB_mayLeaveFor_13 : decode (mB M_TB_mayLeaveFor) 13 = .ok (.if_icmp .ne 7, 3) := by decide +kernel
theorem d_TB_mayLeaveFor_16 : decode (mB M_TB_mayLeaveFor) 16 = .ok (.iconst 1, 1) := by decide +kernel
theorem d_TB_mayLeaveFor_17 : decode (mB M_TB_mayLeaveFor) 17 = .ok (.goto 4, 3) := by decide +kernel
theorem d_TB_mayLeaveFor_20 : decode (mB M_TB_mayLeaveFor) 20 = .ok (.iconst 0, 1) := by decide +kernel
theorem d_TB_mayLeaveFor_21 : decode (mB M_TB_mayLeaveFor) 21 = .ok (.istore_n 3, 1) := by decide +kernel
theorem d_TB_mayLeaveFor_22 : decode (mB M_TB_mayLeaveFor) 22 = .ok (.aload_n 2, 1) := by decide +kernel
theorem d_TB_mayLeaveFor_23 : decode (mB M_TB_mayLeaveFor) 23 = .ok (.getfield 82, 3) := by decide +kernel
theorem d_TB_mayLeaveFor_26 : decode (mB M_TB_mayLeaveFor) 26 = .ok (.ifCond .eq 7, 3) := by decide +kernel
theorem d_TB_mayLeaveFor_29 : decode (mB M_TB_mayLeaveFor) 29 = .ok (.iload_n 3, 1) := by decide +kernel
theorem d_TB_mayLeaveFor_30 : decode (mB M_TB_mayLeaveFor) 30 = .ok (.ifCond .eq 15, 3) := by decide +kernel
theorem d_TB_mayLeaveFor_33 : decode (mB M_TB_mayLeaveFor) 33 = .ok (.aload_n 0, 1) := by decide +kernel
theorem d_TB_mayLeaveFor_34 : decode (mB M_TB_mayLeaveFor) 34 = .ok (.aload_n 2, 1) := by decide +kernel
theorem d_TB_mayLeaveFor_35 : decode (mB M_TB_mayLeaveFor) 35 = .ok (.invokevirtual 322, 3) := by decide +kernel
theorem d_TB_mayLeaveFor_38 : decode (mB M_TB_mayLeaveFor) 38 = .ok (.ifCond .eq 7, 3) := by decide +kernel
theorem d_TB_mayLeaveFor_41 : decode (mB M_TB_mayLeaveFor) 41 = .ok (.iconst 1, 1) := by decide +kernel
theorem d_TB_mayLeaveFor_42 : decode (mB M_TB_mayLeaveFor) 42 = .ok (.goto 4, 3) := by decide +kernel
theorem d_TB_mayLeaveFor_45 : decode (mB M_TB_mayLeaveFor) 45 = .ok (.iconst 0, 1) := by decide +kernel
theorem d_TB_mayLeaveFor_46 : decode (mB M_TB_mayLeaveFor) 46 = .ok (.ireturn, 1) := by decide +kernel
theorem d_TB_isCleared_0 : decode (mB M_TB_isCleared) 0 = .ok (.aload_n 2, 1) := by decide +kernel
theorem d_TB_isCleared_1 : decode (mB M_TB_isCleared) 1 = .ok (.getfield 99, 3) := by decide +kernel
theorem d_TB_isCleared_4 : decode (mB M_TB_isCleared) 4 = .ok (.ifCond .ne 15, 3) := by decide +kernel
theorem d_TB_isCleared_7 : decode (mB M_TB_isCleared) 7 = .ok (.aload_n 1, 1) := by decide +kernel
theorem d_TB_isCleared_8 : decode (mB M_TB_isCleared) 8 = .ok (.iload_n 3, 1) := by decide +kernel
theorem d_TB_isCleared_9 : decode (mB M_TB_isCleared) 9 = .ok (.aload_n 0, 1) := by decide +kernel
theorem d_TB_isCleared_10 : decode (mB M_TB_isCleared) 10 = .ok (.getfield 38, 3) := by decide +kernel
theorem d_TB_isCleared_13 : decode (mB M_TB_isCleared) 13 = .ok (.invokevirtual 325, 3) := by decide +kernel
theorem d_TB_isCleared_16 : decode (mB M_TB_isCleared) 16 = .ok (.ifCond .eq 7, 3) := by decide +kernel
theorem d_TB_isCleared_19 : decode (mB M_TB_isCleared) 19 = .ok (.iconst 1, 1) := by decide +kernel
theorem d_TB_isCleared_20 : decode (mB M_TB_isCleared) 20 = .ok (.goto 4, 3) := by decide +kernel
theorem d_TB_isCleared_23 : decode (mB M_TB_isCleared) 23 = .ok (.iconst 0, 1) := by decide +kernel
theorem d_TB_isCleared_24 : decode (mB M_TB_isCleared) 24 = .ok (.istore 4, 2) := by decide +kernel
theorem d_TB_isCleared_26 : decode (mB M_TB_isCleared) 26 = .ok (.iload 4, 2) := by decide +kernel
theorem d_TB_isCleared_28 : decode (mB M_TB_isCleared) 28 = .ok (.ifCond .eq 15, 3) := by decide +kernel
theorem d_TB_isCleared_31 : decode (mB M_TB_isCleared) 31 = .ok (.aload_n 1, 1) := by decide +kernel
theorem d_TB_isCleared_32 : decode (mB M_TB_isCleared) 32 = .ok (.aload_n 2, 1) := by decide +kernel
theorem d_TB_isCleared_33 : decode (mB M_TB_isCleared) 33 = .ok (.invokestatic 233, 3) := by decide +kernel
theorem d_TB_isCleared_36 : decode (mB M_TB_isCleared) 36 = .ok (.ifCond .ne 7, 3) := by decide +kernel
theorem d_TB_isCleared_39 : decode (mB M_TB_isCleared) 39 = .ok (.iconst 1, 1) := by decide +kernel
theorem d_TB_isCleared_40 : decode (mB M_TB_isCleared) 40 = .ok (.goto 4, 3) := by decide +kernel
theorem d_TB_isCleared_43 : decode (mB M_TB_isCleared) 43 = .ok (.iconst 0, 1) := by decide +kernel
theorem d_TB_isCleared_44 : decode (mB M_TB_isCleared) 44 = .ok (.ireturn, 1) := by decide +kernel
theorem d_TB_handOver_0 : decode (mB M_TB_handOver) 0 = .ok (.aload_n 1, 1) := by decide +kernel
theorem d_TB_handOver_1 : decode (mB M_TB_handOver) 1 = .ok (.iload_n 2, 1) := by decide +kernel
theorem d_TB_handOver_2 : decode (mB M_TB_handOver) 2 = .ok (.aload_n 0, 1) := by decide +kernel
theorem d_TB_handOver_3 : decode (mB M_TB_handOver) 3 = .ok (.getfield 38, 3) := by decide +kernel
theorem d_TB_handOver_6 : decode (mB M_TB_handOver) 6 = .ok (.aload_n 0, 1) := by decide +kernel
theorem d_TB_handOver_7 : decode (mB M_TB_handOver) 7 = .ok (.getfield 328, 3) := by decide +kernel
theorem d_TB_handOver_10 : decode (mB M_TB_handOver) 10 = .ok (.iload_n 3, 1) := by decide +kernel
theorem d_TB_handOver_11 : decode (mB M_TB_handOver) 11 = .ok (.invokevirtual 331, 3) := by decide +kernel
theorem d_TB_handOver_14 : decode (mB M_TB_handOver) 14 = .ok (.aload_n 0, 1) := by decide +kernel
theorem d_TB_handOver_15 : decode (mB M_TB_handOver) 15 = .ok (.dup, 1) := by decide +kernel
theorem d_TB_handOver_16 : decode (mB M_TB_handOver) 16 = .ok (.getfield 328, 3) := by decide +kernel
theorem d_TB_handOver_19 : decode (mB M_TB_handOver) 19 = .ok (.iconst 1, 1) := by decide +kernel
theorem d_TB_handOver_20 : decode (mB M_TB_handOver) 20 = .ok (.iadd, 1) := by decide +kernel
theorem d_TB_handOver_21 : decode (mB M_TB_handOver) 21 = .ok (.putfield 328, 3) := by decide +kernel
theorem d_TB_handOver_24 : decode (mB M_TB_handOver) 24 = .ok (.iconst 0, 1) := by decide +kernel
theorem d_TB_handOver_25 : decode (mB M_TB_handOver) 25 = .ok (.istore 4, 2) := by decide +kernel
theorem d_TB_handOver_27 : decode (mB M_TB_handOver) 27 = .ok (.iconst 0, 1) := by decide +kernel
theorem d_TB_handOver_28 : decode (mB M_TB_handOver) 28 = .ok (.istore 5, 2) := by decide +kernel
theorem d_TB_handOver_30 : decode (mB M_TB_handOver) 30 = .ok (.iload 5, 2) := by decide +kernel
theorem d_TB_handOver_32 : decode (mB M_TB_handOver) 32 = .ok (.aload_n 0, 1) := by decide +kernel
theorem d_TB_handOver_33 : decode (mB M_TB_handOver) 33 = .ok (.getfield 42, 3) := by decide +kernel
theorem d_TB_handOver_36 : decode (mB M_TB_handOver) 36 = .ok (.if_icmp .ge 26, 3) := by decide +kernel
theorem d_TB_handOver_39 : decode (mB M_TB_handOver) 39 = .ok (.aload_n 0, 1) := by decide +kernel
theorem d_TB_handOver_40 : decode (mB M_TB_handOver) 40 = .ok (.getfield 11, 3) := by decide +kernel
theorem d_TB_handOver_43 : decode (mB M_TB_handOver) 43 = .ok (.iload 5, 2) := by decide +kernel
theorem d_TB_handOver_45 : decode (mB M_TB_handOver) 45 = .ok (.aaload, 1) := by decide +kernel
theorem d_TB_handOver_46 : decode (mB M_TB_handOver) 46 = .ok (.iload_n 2, 1) := by decide +kernel
theorem d_TB_handOver_47 : decode (mB M_TB_handOver) 47 = .ok (.invokevirtual 307, 3) := by decide +kernel
theorem d_TB_handOver_50 : decode (mB M_TB_handOver) 50 = .ok (.ifCond .eq 6, 3) := by decide +kernel
theorem d_TB_handOver_53 : decode (mB M_TB_handOver) 53 = .ok (.iinc 4 1, 3) := by decide +kernel
theorem d_TB_handOver_56 : decode (mB M_TB_handOver) 56 = .ok (.iinc 5 1, 3) := by decide +kernel
theorem d_TB_handOver_59 : decode (mB M_TB_handOver) 59 = .ok (.goto (-29), 3) := by decide +kernel
theorem d_TB_handOver_62 : decode (mB M_TB_handOver) 62 = .ok (.iload 4, 2) := by decide +kernel
theorem d_TB_handOver_64 : decode (mB M_TB_handOver) 64 = .ok (.ireturn, 1) := by decide +kernel
theorem d_TB_firstIssue_0 : decode (mB M_TB_firstIssue) 0 = .ok (.iconst (-1), 1) := by decide +kernel
theorem d_TB_firstIssue_1 : decode (mB M_TB_firstIssue) 1 = .ok (.istore_n 3, 1) := by decide +kernel
theorem d_TB_firstIssue_2 : decode (mB M_TB_firstIssue) 2 = .ok (.iconst 0, 1) := by decide +kernel
theorem d_TB_firstIssue_3 : decode (mB M_TB_firstIssue) 3 = .ok (.istore 4, 2) := by decide +kernel
theorem d_TB_firstIssue_5 : decode (mB M_TB_firstIssue) 5 = .ok (.iload 4, 2) := by decide +kernel
theorem d_TB_firstIssue_7 : decode (mB M_TB_firstIssue) 7 = .ok (.aload_n 0, 1) := by decide +kernel
theorem d_TB_firstIssue_8 : decode (mB M_TB_firstIssue) 8 = .ok (.getfield 42, 3) := by decide +kernel
theorem d_TB_firstIssue_11 : decode (mB M_TB_firstIssue) 11 = .ok (.if_icmp .ge 57, 3) := by decide +kernel
theorem d_TB_firstIssue_14 : decode (mB M_TB_firstIssue) 14 = .ok (.aload_n 0, 1) := by decide +kernel
theorem d_TB_firstIssue_15 : decode (mB M_TB_firstIssue) 15 = .ok (.getfield 11, 3) := by decide +kernel
theorem d_TB_firstIssue_18 : decode (mB M_TB_firstIssue) 18 = .ok (.iload 4, 2) := by decide +kernel
theorem d_TB_firstIssue_20 : decode (mB M_TB_firstIssue) 20 = .ok (.aaload, 1) := by decide +kernel
theorem d_TB_firstIssue_21 : decode (mB M_TB_firstIssue) 21 = .ok (.astore 5, 2) := by decide +kernel
theorem d_TB_firstIssue_23 : decode (mB M_TB_firstIssue) 23 = .ok (.aload 5, 2) := by decide +kernel
theorem d_TB_firstIssue_25 : decode (mB M_TB_firstIssue) 25 = .ok (.iload_n 1, 1) := by decide +kernel
theorem d_TB_firstIssue_26 : decode (mB M_TB_firstIssue) 26 = .ok (.invokevirtual 307, 3) := by decide +kernel
theorem d_TB_firstIssue_29 : decode (mB M_TB_firstIssue) 29 = .ok (.ifCond .eq 33, 3) := by decide +kernel
theorem d_TB_firstIssue_32 : decode (mB M_TB_firstIssue) 32 = .ok (.aload 5, 2) := by decide +kernel
theorem d_TB_firstIssue_34 : decode (mB M_TB_firstIssue) 34 = .ok (.getfield 335, 3) := by decide +kernel
theorem d_TB_firstIssue_37 : decode (mB M_TB_firstIssue) 37 = .ok (.iload_n 2, 1) := by decide +kernel
theorem d_TB_firstIssue_38 : decode (mB M_TB_firstIssue) 38 = .ok (.iand, 1) := by decide +kernel
theorem d_TB_firstIssue_39 : decode (mB M_TB_firstIssue) 39 = .ok (.ifCond .eq 23, 3) := by decide +kernel
theorem d_TB_firstIssue_42 : decode (mB M_TB_firstIssue) 42 = .ok (.iload_n 3, 1) := by decide +kernel
theorem d_TB_firstIssue_43 : decode (mB M_TB_firstIssue) 43 = .ok (.iconst (-1), 1) := by decide +kernel
theorem d_TB_firstIssue_44 : decode (mB M_TB_firstIssue) 44 = .ok (.if_icmp .eq 12, 3) := by decide +kernel
theorem d_TB_firstIssue_47 : decode (mB M_TB_firstIssue) 47 = .ok (.aload 5, 2) := by decide +kernel
theorem d_TB_firstIssue_49 : decode (mB M_TB_firstIssue) 49 = .ok (.getfield 310, 3) := by decide +kernel
theorem d_TB_firstIssue_52 : decode (mB M_TB_firstIssue) 52 = .ok (.iload_n 3, 1) := by decide +kernel
theorem d_TB_firstIssue_53 : decode (mB M_TB_firstIssue) 53 = .ok (.if_icmp .ge 9, 3) := by decide +kernel
theorem d_TB_firstIssue_56 : decode (mB M_TB_firstIssue) 56 = .ok (.aload 5, 2) := by decide +kernel
theorem d_TB_firstIssue_58 : decode (mB M_TB_firstIssue) 58 = .ok (.getfield 310, 3) := by decide +kernel
theorem d_TB_firstIssue_61 : decode (mB M_TB_firstIssue) 61 = .ok (.istore_n 3, 1) := by decide +kernel
theorem d_TB_firstIssue_62 : decode (mB M_TB_firstIssue) 62 = .ok (.iinc 4 1, 3) := by decide +kernel
theorem d_TB_firstIssue_65 : decode (mB M_TB_firstIssue) 65 = .ok (.goto (-60), 3) := by decide +kernel
theorem d_TB_firstIssue_68 : decode (mB M_TB_firstIssue) 68 = .ok (.iload_n 3, 1) := by decide +kernel
theorem d_TB_firstIssue_69 : decode (mB M_TB_firstIssue) 69 = .ok (.ireturn, 1) := by decide +kernel
theorem d_TB_suits_0 : decode (mB M_TB_suits) 0 = .ok (.iload_n 0, 1) := by decide +kernel
theorem d_TB_suits_1 : decode (mB M_TB_suits) 1 = .ok (.tableswitch 63 0 2 #[27, 38, 48], 27) := by decide +kernel
theorem d_TB_suits_28 : decode (mB M_TB_suits) 28 = .ok (.iload_n 1, 1) := by decide +kernel
theorem d_TB_suits_29 : decode (mB M_TB_suits) 29 = .ok (.iconst 3, 1) := by decide +kernel
theorem d_TB_suits_30 : decode (mB M_TB_suits) 30 = .ok (.if_icmp .ne 7, 3) := by decide +kernel
theorem d_TB_suits_33 : decode (mB M_TB_suits) 33 = .ok (.iconst 1, 1) := by decide +kernel
theorem d_TB_suits_34 : decode (mB M_TB_suits) 34 = .ok (.goto 4, 3) := by decide +kernel
theorem d_TB_suits_37 : decode (mB M_TB_suits) 37 = .ok (.iconst 0, 1) := by decide +kernel
theorem d_TB_suits_38 : decode (mB M_TB_suits) 38 = .ok (.ireturn, 1) := by decide +kernel
theorem d_TB_suits_39 : decode (mB M_TB_suits) 39 = .ok (.iload_n 1, 1) := by decide +kernel
theorem d_TB_suits_40 : decode (mB M_TB_suits) 40 = .ok (.ifCond .ne 7, 3) := by decide +kernel
theorem d_TB_suits_43 : decode (mB M_TB_suits) 43 = .ok (.iconst 1, 1) := by decide +kernel
theorem d_TB_suits_44 : decode (mB M_TB_suits) 44 = .ok (.goto 4, 3) := by decide +kernel
theorem d_TB_suits_47 : decode (mB M_TB_suits) 47 = .ok (.iconst 0, 1) := by decide +kernel
theorem d_TB_suits_48 : decode (mB M_TB_suits) 48 = .ok (.ireturn, 1) := by decide +kernel
theorem d_TB_suits_49 : decode (mB M_TB_suits) 49 = .ok (.iload_n 1, 1) := by decide +kernel
theorem d_TB_suits_50 : decode (mB M_TB_suits) 50 = .ok (.ifCond .eq 8, 3) := by decide +kernel
theorem d_TB_suits_53 : decode (mB M_TB_suits) 53 = .ok (.iload_n 1, 1) := by decide +kernel
theorem d_TB_suits_54 : decode (mB M_TB_suits) 54 = .ok (.iconst 2, 1) := by decide +kernel
theorem d_TB_suits_55 : decode (mB M_TB_suits) 55 = .ok (.if_icmp .ne 7, 3) := by decide +kernel
theorem d_TB_suits_58 : decode (mB M_TB_suits) 58 = .ok (.iconst 1, 1) := by decide +kernel
theorem d_TB_suits_59 : decode (mB M_TB_suits) 59 = .ok (.goto 4, 3) := by decide +kernel
theorem d_TB_suits_62 : decode (mB M_TB_suits) 62 = .ok (.iconst 0, 1) := by decide +kernel
theorem d_TB_suits_63 : decode (mB M_TB_suits) 63 = .ok (.ireturn, 1) := by decide +kernel
theorem d_TB_suits_64 : decode (mB M_TB_suits) 64 = .ok (.iload_n 1, 1) := by decide +kernel
theorem d_TB_suits_65 : decode (mB M_TB_suits) 65 = .ok (.iconst 1, 1) := by decide +kernel
theorem d_TB_suits_66 : decode (mB M_TB_suits) 66 = .ok (.if_icmp .ne 7, 3) := by decide +kernel
theorem d_TB_suits_69 : decode (mB M_TB_suits) 69 = .ok (.iconst 1, 1) := by decide +kernel
theorem d_TB_suits_70 : decode (mB M_TB_suits) 70 = .ok (.goto 4, 3) := by decide +kernel
theorem d_TB_suits_73 : decode (mB M_TB_suits) 73 = .ok (.iconst 0, 1) := by decide +kernel
theorem d_TB_suits_74 : decode (mB M_TB_suits) 74 = .ok (.ireturn, 1) := by decide +kernel
theorem d_TB_keepSplitProducts_0 : decode (mB M_TB_keepSplitProducts) 0 = .ok (.aload_n 0, 1) := by decide +kernel
theorem d_TB_keepSplitProducts_1 : decode (mB M_TB_keepSplitProducts) 1 = .ok (.aload_n 1, 1) := by decide +kernel
theorem d_TB_keepSplitProducts_2 : decode (mB M_TB_keepSplitProducts) 2 = .ok (.iconst 0, 1) := by decide +kernel
theorem d_TB_keepSplitProducts_3 : decode (mB M_TB_keepSplitProducts) 3 = .ok (.iconst 0, 1) := by decide +kernel
theorem d_TB_keepSplitProducts_4 : decode (mB M_TB_keepSplitProducts) 4 = .ok (.aload_n 1, 1) := by decide +kernel
theorem d_TB_keepSplitProducts_5 : decode (mB M_TB_keepSplitProducts) 5 = .ok (.getfield 266, 3) := by decide +kernel
theorem d_TB_keepSplitProducts_8 : decode (mB M_TB_keepSplitProducts) 8 = .ok (.invokevirtual 120, 3) := by decide +kernel
theorem d_TB_keepSplitProducts_11 : decode (mB M_TB_keepSplitProducts) 11 = .ok (.istore_n 2, 1) := by decide +kernel
theorem d_TB_keepSplitProducts_12 : decode (mB M_TB_keepSplitProducts) 12 = .ok (.aload_n 0, 1) := by decide +kernel
theorem d_TB_keepSplitProducts_13 : decode (mB M_TB_keepSplitProducts) 13 = .ok (.aload_n 1, 1) := by decide +kernel
theorem d_TB_keepSplitProducts_14 : decode (mB M_TB_keepSplitProducts) 14 = .ok (.iconst 1, 1) := by decide +kernel
theorem d_TB_keepSplitProducts_15 : decode (mB M_TB_keepSplitProducts) 15 = .ok (.iconst 0, 1) := by decide +kernel
theorem d_TB_keepSplitProducts_16 : decode (mB M_TB_keepSplitProducts) 16 = .ok (.aload_n 1, 1) := by decide +kernel
theorem d_TB_keepSplitProducts_17 : decode (mB M_TB_keepSplitProducts) 17 = .ok (.getfield 266, 3) := by decide +kernel
theorem d_TB_keepSplitProducts_20 : decode (mB M_TB_keepSplitProducts) 20 = .ok (.invokevirtual 120, 3) := by decide +kernel
theorem d_TB_keepSplitProducts_23 : decode (mB M_TB_keepSplitProducts) 23 = .ok (.pop, 1) := by decide +kernel
theorem d_TB_keepSplitProducts_24 : decode (mB M_TB_keepSplitProducts) 24 = .ok (.aload_n 0, 1) := by decide +kernel
theorem d_TB_keepSplitProducts_25 : decode (mB M_TB_keepSplitProducts) 25 = .ok (.aload_n 1, 1) := by decide +kernel
theorem d_TB_keepSplitProducts_26 : decode (mB M_TB_keepSplitProducts) 26 = .ok (.iconst 2, 1) := by decide +kernel
theorem d_TB_keepSplitProducts_27 : decode (mB M_TB_keepSplitProducts) 27 = .ok (.iconst 0, 1) := by decide +kernel
theorem d_TB_keepSplitProducts_28 : decode (mB M_TB_keepSplitProducts) 28 = .ok (.aload_n 0, 1) := by decide +kernel
theorem d_TB_keepSplitProducts_29 : decode (mB M_TB_keepSplitProducts) 29 = .ok (.getfield 38, 3) := by decide +kernel
theorem d_TB_keepSplitProducts_32 : decode (mB M_TB_keepSplitProducts) 32 = .ok (.getstatic 117, 3) := by decide +kernel
theorem d_TB_keepSplitProducts_35 : decode (mB M_TB_keepSplitProducts) 35 = .ok (.iconst 0, 1) := by decide +kernel
theorem d_TB_keepSplitProducts_36 : decode (mB M_TB_keepSplitProducts) 36 = .ok (.iaload, 1) := by decide +kernel
theorem d_TB_keepSplitProducts_37 : decode (mB M_TB_keepSplitProducts) 37 = .ok (.iadd, 1) := by decide +kernel
theorem d_TB_keepSplitProducts_38 : decode (mB M_TB_keepSplitProducts) 38 = .ok (.invokevirtual 120, 3) := by decide +kernel
theorem d_TB_keepSplitProducts_41 : decode (mB M_TB_keepSplitProducts) 41 = .ok (.pop, 1) := by decide +kernel
theorem d_TB_keepSplitProducts_42 : decode (mB M_TB_keepSplitProducts) 42 = .ok (.iload_n 2, 1) := by decide +kernel
theorem d_TB_keepSplitProducts_43 : decode (mB M_TB_keepSplitProducts) 43 = .ok (.ireturn, 1) := by decide +kernel
theorem d_TB_keepProduct_0 : decode (mB M_TB_keepProduct) 0 = .ok (.aload_n 1, 1) := by decide +kernel
theorem d_TB_keepProduct_1 : decode (mB M_TB_keepProduct) 1 = .ok (.getfield 266, 3) := by decide +kernel
theorem d_TB_keepProduct_4 : decode (mB M_TB_keepProduct) 4 = .ok (.iload 4, 2) := by decide +kernel
theorem d_TB_keepProduct_6 : decode (mB M_TB_keepProduct) 6 = .ok (.invokestatic 338, 3) := by decide +kernel
theorem d_TB_keepProduct_9 : decode (mB M_TB_keepProduct) 9 = .ok (.istore 5, 2) := by decide +kernel
theorem d_TB_keepProduct_11 : decode (mB M_TB_keepProduct) 11 = .ok (.new 9, 3) := by decide +kernel
theorem d_TB_keepProduct_14 : decode (mB M_TB_keepProduct) 14 = .ok (.dup, 1) := by decide +kernel
theorem d_TB_keepProduct_15 : decode (mB M_TB_keepProduct) 15 = .ok (.iload_n 2, 1) := by decide +kernel
theorem d_TB_keepProduct_16 : decode (mB M_TB_keepProduct) 16 = .ok (.aload_n 1, 1) := by decide +kernel
theorem d_TB_keepProduct_17 : decode (mB M_TB_keepProduct) 17 = .ok (.getfield 128, 3) := by decide +kernel
theorem d_TB_keepProduct_20 : decode (mB M_TB_keepProduct) 20 = .ok (.aload_n 1, 1) := by decide +kernel
theorem d_TB_keepProduct_21 : decode (mB M_TB_keepProduct) 21 = .ok (.getfield 131, 3) := by decide +kernel
theorem d_TB_keepProduct_24 : decode (mB M_TB_keepProduct) 24 = .ok (.aload_n 1, 1) := by decide +kernel
theorem d_TB_keepProduct_25 : decode (mB M_TB_keepProduct) 25 = .ok (.getfield 335, 3) := by decide +kernel
theorem d_TB_keepProduct_28 : decode (mB M_TB_keepProduct) 28 = .ok (.iload 5, 2) := by decide +kernel
theorem d_TB_keepProduct_30 : decode (mB M_TB_keepProduct) 30 = .ok (.invokespecial 69, 3) := by decide +kernel
theorem d_TB_keepProduct_33 : decode (mB M_TB_keepProduct) 33 = .ok (.astore 6, 2) := by decide +kernel
theorem d_TB_keepProduct_35 : decode (mB M_TB_keepProduct) 35 = .ok (.aload 6, 2) := by decide +kernel
theorem d_TB_keepProduct_37 : decode (mB M_TB_keepProduct) 37 = .ok (.aload_n 1, 1) := by decide +kernel
theorem d_TB_keepProduct_38 : decode (mB M_TB_keepProduct) 38 = .ok (.getfield 263, 3) := by decide +kernel
theorem d_TB_keepProduct_41 : decode (mB M_TB_keepProduct) 41 = .ok (.iload_n 3, 1) := by decide +kernel
theorem d_TB_keepProduct_42 : decode (mB M_TB_keepProduct) 42 = .ok (.ior, 1) := by decide +kernel
theorem d_TB_keepProduct_43 : decode (mB M_TB_keepProduct) 43 = .ok (.putfield 263, 3) := by decide +kernel
theorem d_TB_keepProduct_46 : decode (mB M_TB_keepProduct) 46 = .ok (.aload 6, 2) := by decide +kernel
theorem d_TB_keepProduct_48 : decode (mB M_TB_keepProduct) 48 = .ok (.aload_n 1, 1) := by decide +kernel
theorem d_TB_keepProduct_49 : decode (mB M_TB_keepProduct) 49 = .ok (.getfield 343, 3) := by decide +kernel
theorem d_TB_keepProduct_52 : decode (mB M_TB_keepProduct) 52 = .ok (.putfield 343, 3) := by decide +kernel
theorem d_TB_keepProduct_55 : decode (mB M_TB_keepProduct) 55 = .ok (.aload 6, 2) := by decide +kernel
theorem d_TB_keepProduct_57 : decode (mB M_TB_keepProduct) 57 = .ok (.aload_n 1, 1) := by decide +kernel
theorem d_TB_keepProduct_58 : decode (mB M_TB_keepProduct) 58 = .ok (.getfield 346, 3) := by decide +kernel
theorem d_TB_keepProduct_61 : decode (mB M_TB_keepProduct) 61 = .ok (.putfield 346, 3) := by decide +kernel
theorem d_TB_keepProduct_64 : decode (mB M_TB_keepProduct) 64 = .ok (.aload_n 0, 1) := by decide +kernel
theorem d_TB_keepProduct_65 : decode (mB M_TB_keepProduct) 65 = .ok (.aload 6, 2) := by decide +kernel
theorem d_TB_keepProduct_67 : decode (mB M_TB_keepProduct) 67 = .ok (.invokevirtual 72, 3) := by decide +kernel
theorem d_TB_keepProduct_70 : decode (mB M_TB_keepProduct) 70 = .ok (.ireturn, 1) := by decide +kernel
theorem d_TB_keepPooled_0 : decode (mB M_TB_keepPooled) 0 = .ok (.aload_n 1, 1) := by decide +kernel
theorem d_TB_keepPooled_1 : decode (mB M_TB_keepPooled) 1 = .ok (.getfield 266, 3) := by decide +kernel
theorem d_TB_keepPooled_4 : decode (mB M_TB_keepPooled) 4 = .ok (.aload_n 2, 1) := by decide +kernel
theorem d_TB_keepPooled_5 : decode (mB M_TB_keepPooled) 5 = .ok (.getfield 266, 3) := by decide +kernel
theorem d_TB_keepPooled_8 : decode (mB M_TB_keepPooled) 8 = .ok (.invokestatic 338, 3) := by decide +kernel
theorem d_TB_keepPooled_11 : decode (mB M_TB_keepPooled) 11 = .ok (.istore_n 3, 1) := by decide +kernel
theorem d_TB_keepPooled_12 : decode (mB M_TB_keepPooled) 12 = .ok (.new 9, 3) := by decide +kernel
theorem d_TB_keepPooled_15 : decode (mB M_TB_keepPooled) 15 = .ok (.dup, 1) := by decide +kernel
theorem d_TB_keepPooled_16 : decode (mB M_TB_keepPooled) 16 = .ok (.iconst 2, 1) := by decide +kernel
theorem d_TB_keepPooled_17 : decode (mB M_TB_keepPooled) 17 = .ok (.aload_n 1, 1) := by decide +kernel
theorem d_TB_keepPooled_18 : decode (mB M_TB_keepPooled) 18 = .ok (.getfield 128, 3) := by decide +kernel
theorem d_TB_keepPooled_21 : decode (mB M_TB_keepPooled) 21 = .ok (.aload_n 1, 1) := by decide +kernel
theorem d_TB_keepPooled_22 : decode (mB M_TB_keepPooled) 22 = .ok (.getfield 131, 3) := by decide +kernel
theorem d_TB_keepPooled_25 : decode (mB M_TB_keepPooled) 25 = .ok (.aload_n 1, 1) := by decide +kernel
theorem d_TB_keepPooled_26 : decode (mB M_TB_keepPooled) 26 = .ok (.getfield 335, 3) := by decide +kernel
theorem d_TB_keepPooled_29 : decode (mB M_TB_keepPooled) 29 = .ok (.aload_n 2, 1) := by decide +kernel
theorem d_TB_keepPooled_30 : decode (mB M_TB_keepPooled) 30 = .ok (.getfield 335, 3) := by decide +kernel
theorem d_TB_keepPooled_33 : decode (mB M_TB_keepPooled) 33 = .ok (.ior, 1) := by decide +kernel
theorem d_TB_keepPooled_34 : decode (mB M_TB_keepPooled) 34 = .ok (.iload_n 3, 1) := by decide +kernel
theorem d_TB_keepPooled_35 : decode (mB M_TB_keepPooled) 35 = .ok (.invokespecial 69, 3) := by decide +kernel
theorem d_TB_keepPooled_38 : decode (mB M_TB_keepPooled) 38 = .ok (.astore 4, 2) := by decide +kernel
theorem d_TB_keepPooled_40 : decode (mB M_TB_keepPooled) 40 = .ok (.aload 4, 2) := by decide +kernel
theorem d_TB_keepPooled_42 : decode (mB M_TB_keepPooled) 42 = .ok (.aload_n 1, 1) := by decide +kernel
theorem d_TB_keepPooled_43 : decode (mB M_TB_keepPooled) 43 = .ok (.getfield 263, 3) := by decide +kernel
theorem d_TB_keepPooled_46 : decode (mB M_TB_keepPooled) 46 = .ok (.aload_n 2, 1) := by decide +kernel
theorem d_TB_keepPooled_47 : decode (mB M_TB_keepPooled) 47 = .ok (.getfield 263, 3) := by decide +kernel
theorem d_TB_keepPooled_50 : decode (mB M_TB_keepPooled) 50 = .ok (.iand, 1) := by decide +kernel
theorem d_TB_keepPooled_51 : decode (mB M_TB_keepPooled) 51 = .ok (.putfield 263, 3) := by decide +kernel
theorem d_TB_keepPooled_54 : decode (mB M_TB_keepPooled) 54 = .ok (.aload 4, 2) := by decide +kernel
theorem d_TB_keepPooled_56 : decode (mB M_TB_keepPooled) 56 = .ok (.aload_n 1, 1) := by decide +kernel
theorem d_TB_keepPooled_57 : decode (mB M_TB_keepPooled) 57 = .ok (.getfield 343, 3) := by decide +kernel
theorem d_TB_keepPooled_60 : decode (mB M_TB_keepPooled) 60 = .ok (.aload_n 2, 1) := by decide +kernel
theorem d_TB_keepPooled_61 : decode (mB M_TB_keepPooled) 61 = .ok (.getfield 343, 3) := by decide +kernel
theorem d_TB_keepPooled_64 : decode (mB M_TB_keepPooled) 64 = .ok (.ior, 1) := by decide +kernel
theorem d_TB_keepPooled_65 : decode (mB M_TB_keepPooled) 65 = .ok (.putfield 343, 3) := by decide +kernel
theorem d_TB_keepPooled_68 : decode (mB M_TB_keepPooled) 68 = .ok (.aload 4, 2) := by decide +kernel
theorem d_TB_keepPooled_70 : decode (mB M_TB_keepPooled) 70 = .ok (.aload_n 1, 1) := by decide +kernel
theorem d_TB_keepPooled_71 : decode (mB M_TB_keepPooled) 71 = .ok (.getfield 346, 3) := by decide +kernel
theorem d_TB_keepPooled_74 : decode (mB M_TB_keepPooled) 74 = .ok (.aload_n 2, 1) := by decide +kernel
theorem d_TB_keepPooled_75 : decode (mB M_TB_keepPooled) 75 = .ok (.getfield 346, 3) := by decide +kernel
theorem d_TB_keepPooled_78 : decode (mB M_TB_keepPooled) 78 = .ok (.iand, 1) := by decide +kernel
theorem d_TB_keepPooled_79 : decode (mB M_TB_keepPooled) 79 = .ok (.putfield 346, 3) := by decide +kernel
theorem d_TB_keepPooled_82 : decode (mB M_TB_keepPooled) 82 = .ok (.aload_n 0, 1) := by decide +kernel
theorem d_TB_keepPooled_83 : decode (mB M_TB_keepPooled) 83 = .ok (.aload 4, 2) := by decide +kernel
theorem d_TB_keepPooled_85 : decode (mB M_TB_keepPooled) 85 = .ok (.invokevirtual 72, 3) := by decide +kernel
theorem d_TB_keepPooled_88 : decode (mB M_TB_keepPooled) 88 = .ok (.ireturn, 1) := by decide +kernel
theorem d_TB_keep_0 : decode (mB M_TB_keep) 0 = .ok (.aload_n 0, 1) := by decide +kernel
theorem d_TB_keep_1 : decode (mB M_TB_keep) 1 = .ok (.getfield 11, 3) := by decide +kernel
theorem d_TB_keep_4 : decode (mB M_TB_keep) 4 = .ok (.aload_n 0, 1) := by decide +kernel
theorem d_TB_keep_5 : decode (mB M_TB_keep) 5 = .ok (.getfield 42, 3) := by decide +kernel
theorem d_TB_keep_8 : decode (mB M_TB_keep) 8 = .ok (.aload_n 1, 1) := by decide +kernel
theorem d_TB_keep_9 : decode (mB M_TB_keep) 9 = .ok (.aastore, 1) := by decide +kernel
theorem d_TB_keep_10 : decode (mB M_TB_keep) 10 = .ok (.aload_n 0, 1) := by decide +kernel
theorem d_TB_keep_11 : decode (mB M_TB_keep) 11 = .ok (.dup, 1) := by decide +kernel
theorem d_TB_keep_12 : decode (mB M_TB_keep) 12 = .ok (.getfield 42, 3) := by decide +kernel
theorem d_TB_keep_15 : decode (mB M_TB_keep) 15 = .ok (.iconst 1, 1) := by decide +kernel
theorem d_TB_keep_16 : decode (mB M_TB_keep) 16 = .ok (.iadd, 1) := by decide +kernel
theorem d_TB_keep_17 : decode (mB M_TB_keep) 17 = .ok (.putfield 42, 3) := by decide +kernel
theorem d_TB_keep_20 : decode (mB M_TB_keep) 20 = .ok (.aload_n 0, 1) := by decide +kernel
theorem d_TB_keep_21 : decode (mB M_TB_keep) 21 = .ok (.getfield 42, 3) := by decide +kernel
theorem d_TB_keep_24 : decode (mB M_TB_keep) 24 = .ok (.iconst 1, 1) := by decide +kernel
theorem d_TB_keep_25 : decode (mB M_TB_keep) 25 = .ok (.isub, 1) := by decide +kernel
theorem d_TB_keep_26 : decode (mB M_TB_keep) 26 = .ok (.ireturn, 1) := by decide +kernel
