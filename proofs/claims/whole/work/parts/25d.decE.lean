/-! what the bytes of the methods are (by program) -/
theorem d_LW_pass_0 : decode (mB M_LW_pass) 0 = .ok (.aload_n 2, 1) := by decide +kernel
theorem d_LW_pass_1 : decode (mB M_LW_pass) 1 = .ok (.iconst 0, 1) := by decide +kernel
theorem d_LW_pass_2 : decode (mB M_LW_pass) 2 = .ok (.aload_n 0, 1) := by decide +kernel
theorem d_LW_pass_3 : decode (mB M_LW_pass) 3 = .ok (.iload_n 1, 1) := by decide +kernel
theorem d_LW_pass_4 : decode (mB M_LW_pass) 4 = .ok (.invokevirtual 7, 3) := by decide +kernel
theorem d_LW_pass_7 : decode (mB M_LW_pass) 7 = .ok (.i2l, 1) := by decide +kernel
theorem d_LW_pass_8 : decode (mB M_LW_pass) 8 = .ok (.lastore, 1) := by decide +kernel
theorem d_LW_pass_9 : decode (mB M_LW_pass) 9 = .ok (.goto 6, 3) := by decide +kernel
theorem d_LW_pass_12 : decode (mB M_LW_pass) 12 = .ok (.astore_n 3, 1) := by decide +kernel
theorem d_LW_pass_13 : decode (mB M_LW_pass) 13 = .ok (.iconst 1, 1) := by decide +kernel
theorem d_LW_pass_14 : decode (mB M_LW_pass) 14 = .ok (.ireturn, 1) := by decide +kernel
theorem d_LW_pass_15 : decode (mB M_LW_pass) 15 = .ok (.iconst 0, 1) := by decide +kernel
theorem d_LW_pass_16 : decode (mB M_LW_pass) 16 = .ok (.ireturn, 1) := by decide +kernel
theorem d_LW_unit_0 : decode (mB M_LW_unit) 0 = .ok (.aload 6, 2) := by decide +kernel
theorem d_LW_unit_2 : decode (mB M_LW_unit) 2 = .ok (.iconst 0, 1) := by decide +kernel
theorem d_LW_unit_3 : decode (mB M_LW_unit) 3 = .ok (.aload_n 0, 1) := by decide +kernel
theorem d_LW_unit_4 : decode (mB M_LW_unit) 4 = .ok (.iload_n 1, 1) := by decide +kernel
theorem d_LW_unit_5 : decode (mB M_LW_unit) 5 = .ok (.iload_n 2, 1) := by decide +kernel
theorem d_LW_unit_6 : decode (mB M_LW_unit) 6 = .ok (.iload_n 3, 1) := by decide +kernel
theorem d_LW_unit_7 : decode (mB M_LW_unit) 7 = .ok (.iload 4, 2) := by decide +kernel
theorem d_LW_unit_9 : decode (mB M_LW_unit) 9 = .ok (.iload 5, 2) := by decide +kernel
theorem d_LW_unit_11 : decode (mB M_LW_unit) 11 = .ok (.invokevirtual 15, 3) := by decide +kernel
theorem d_LW_unit_14 : decode (mB M_LW_unit) 14 = .ok (.i2l, 1) := by decide +kernel
theorem d_LW_unit_15 : decode (mB M_LW_unit) 15 = .ok (.lastore, 1) := by decide +kernel
theorem d_LW_unit_16 : decode (mB M_LW_unit) 16 = .ok (.goto 11, 3) := by decide +kernel
theorem d_LW_unit_19 : decode (mB M_LW_unit) 19 = .ok (.astore 7, 2) := by decide +kernel
theorem d_LW_unit_21 : decode (mB M_LW_unit) 21 = .ok (.iconst 1, 1) := by decide +kernel
theorem d_LW_unit_22 : decode (mB M_LW_unit) 22 = .ok (.ireturn, 1) := by decide +kernel
theorem d_LW_unit_23 : decode (mB M_LW_unit) 23 = .ok (.astore 7, 2) := by decide +kernel
theorem d_LW_unit_25 : decode (mB M_LW_unit) 25 = .ok (.iconst 2, 1) := by decide +kernel
theorem d_LW_unit_26 : decode (mB M_LW_unit) 26 = .ok (.ireturn, 1) := by decide +kernel
theorem d_LW_unit_27 : decode (mB M_LW_unit) 27 = .ok (.iconst 0, 1) := by decide +kernel
theorem d_LW_unit_28 : decode (mB M_LW_unit) 28 = .ok (.ireturn, 1) := by decide +kernel
theorem d_LW_antigen_0 : decode (mB M_LW_antigen) 0 = .ok (.aload_n 0, 1) := by decide +kernel
theorem d_LW_antigen_1 : decode (mB M_LW_antigen) 1 = .ok (.iload_n 1, 1) := by decide +kernel
theorem d_LW_antigen_2 : decode (mB M_LW_antigen) 2 = .ok (.iload_n 2, 1) := by decide +kernel
theorem d_LW_antigen_3 : decode (mB M_LW_antigen) 3 = .ok (.iload_n 3, 1) := by decide +kernel
theorem d_LW_antigen_4 : decode (mB M_LW_antigen) 4 = .ok (.invokevirtual 21, 3) := by decide +kernel
theorem d_LW_antigen_7 : decode (mB M_LW_antigen) 7 = .ok (.goto 15, 3) := by decide +kernel
theorem d_LW_antigen_10 : decode (mB M_LW_antigen) 10 = .ok (.astore 4, 2) := by decide +kernel
theorem d_LW_antigen_12 : decode (mB M_LW_antigen) 12 = .ok (.iconst 1, 1) := by decide +kernel
theorem d_LW_antigen_13 : decode (mB M_LW_antigen) 13 = .ok (.ireturn, 1) := by decide +kernel
theorem d_LW_antigen_14 : decode (mB M_LW_antigen) 14 = .ok (.astore 4, 2) := by decide +kernel
theorem d_LW_antigen_16 : decode (mB M_LW_antigen) 16 = .ok (.iconst 2, 1) := by decide +kernel
theorem d_LW_antigen_17 : decode (mB M_LW_antigen) 17 = .ok (.ireturn, 1) := by decide +kernel
theorem d_LW_antigen_18 : decode (mB M_LW_antigen) 18 = .ok (.astore 4, 2) := by decide +kernel
theorem d_LW_antigen_20 : decode (mB M_LW_antigen) 20 = .ok (.iconst 3, 1) := by decide +kernel
theorem d_LW_antigen_21 : decode (mB M_LW_antigen) 21 = .ok (.ireturn, 1) := by decide +kernel
theorem d_LW_antigen_22 : decode (mB M_LW_antigen) 22 = .ok (.iconst 0, 1) := by decide +kernel
theorem d_LW_antigen_23 : decode (mB M_LW_antigen) 23 = .ok (.ireturn, 1) := by decide +kernel
theorem d_LW_process_0 : decode (mB M_LW_process) 0 = .ok (.aload_n 3, 1) := by decide +kernel
theorem d_LW_process_1 : decode (mB M_LW_process) 1 = .ok (.iconst 0, 1) := by decide +kernel
theorem d_LW_process_2 : decode (mB M_LW_process) 2 = .ok (.aload_n 0, 1) := by decide +kernel
theorem d_LW_process_3 : decode (mB M_LW_process) 3 = .ok (.iload_n 1, 1) := by decide +kernel
theorem d_LW_process_4 : decode (mB M_LW_process) 4 = .ok (.iload_n 2, 1) := by decide +kernel
theorem d_LW_process_5 : decode (mB M_LW_process) 5 = .ok (.invokevirtual 27, 3) := by decide +kernel
theorem d_LW_process_8 : decode (mB M_LW_process) 8 = .ok (.i2l, 1) := by decide +kernel
theorem d_LW_process_9 : decode (mB M_LW_process) 9 = .ok (.lastore, 1) := by decide +kernel
theorem d_LW_process_10 : decode (mB M_LW_process) 10 = .ok (.goto 19, 3) := by decide +kernel
theorem d_LW_process_13 : decode (mB M_LW_process) 13 = .ok (.astore 4, 2) := by decide +kernel
theorem d_LW_process_15 : decode (mB M_LW_process) 15 = .ok (.iconst 1, 1) := by decide +kernel
theorem d_LW_process_16 : decode (mB M_LW_process) 16 = .ok (.ireturn, 1) := by decide +kernel
theorem d_LW_process_17 : decode (mB M_LW_process) 17 = .ok (.astore 4, 2) := by decide +kernel
theorem d_LW_process_19 : decode (mB M_LW_process) 19 = .ok (.iconst 2, 1) := by decide +kernel
theorem d_LW_process_20 : decode (mB M_LW_process) 20 = .ok (.ireturn, 1) := by decide +kernel
theorem d_LW_process_21 : decode (mB M_LW_process) 21 = .ok (.astore 4, 2) := by decide +kernel
theorem d_LW_process_23 : decode (mB M_LW_process) 23 = .ok (.iconst 3, 1) := by decide +kernel
theorem d_LW_process_24 : decode (mB M_LW_process) 24 = .ok (.ireturn, 1) := by decide +kernel
theorem d_LW_process_25 : decode (mB M_LW_process) 25 = .ok (.astore 4, 2) := by decide +kernel
theorem d_LW_process_27 : decode (mB M_LW_process) 27 = .ok (.iconst 4, 1) := by decide +kernel
theorem d_LW_process_28 : decode (mB M_LW_process) 28 = .ok (.ireturn, 1) := by decide +kernel
theorem d_LW_process_29 : decode (mB M_LW_process) 29 = .ok (.iconst 0, 1) := by decide +kernel
theorem d_LW_process_30 : decode (mB M_LW_process) 30 = .ok (.ireturn, 1) := by decide +kernel
theorem d_LW_pool_0 : decode (mB M_LW_pool) 0 = .ok (.aload_n 3, 1) := by decide +kernel
theorem d_LW_pool_1 : decode (mB M_LW_pool) 1 = .ok (.iconst 0, 1) := by decide +kernel
theorem d_LW_pool_2 : decode (mB M_LW_pool) 2 = .ok (.aload_n 0, 1) := by decide +kernel
theorem d_LW_pool_3 : decode (mB M_LW_pool) 3 = .ok (.iload_n 1, 1) := by decide +kernel
theorem d_LW_pool_4 : decode (mB M_LW_pool) 4 = .ok (.iload_n 2, 1) := by decide +kernel
theorem d_LW_pool_5 : decode (mB M_LW_pool) 5 = .ok (.invokevirtual 33, 3) := by decide +kernel
theorem d_LW_pool_8 : decode (mB M_LW_pool) 8 = .ok (.i2l, 1) := by decide +kernel
theorem d_LW_pool_9 : decode (mB M_LW_pool) 9 = .ok (.lastore, 1) := by decide +kernel
theorem d_LW_pool_10 : decode (mB M_LW_pool) 10 = .ok (.goto 19, 3) := by decide +kernel
theorem d_LW_pool_13 : decode (mB M_LW_pool) 13 = .ok (.astore 4, 2) := by decide +kernel
theorem d_LW_pool_15 : decode (mB M_LW_pool) 15 = .ok (.iconst 1, 1) := by decide +kernel
theorem d_LW_pool_16 : decode (mB M_LW_pool) 16 = .ok (.ireturn, 1) := by decide +kernel
theorem d_LW_pool_17 : decode (mB M_LW_pool) 17 = .ok (.astore 4, 2) := by decide +kernel
theorem d_LW_pool_19 : decode (mB M_LW_pool) 19 = .ok (.iconst 2, 1) := by decide +kernel
theorem d_LW_pool_20 : decode (mB M_LW_pool) 20 = .ok (.ireturn, 1) := by decide +kernel
theorem d_LW_pool_21 : decode (mB M_LW_pool) 21 = .ok (.astore 4, 2) := by decide +kernel
theorem d_LW_pool_23 : decode (mB M_LW_pool) 23 = .ok (.iconst 3, 1) := by decide +kernel
theorem d_LW_pool_24 : decode (mB M_LW_pool) 24 = .ok (.ireturn, 1) := by decide +kernel
theorem d_LW_pool_25 : decode (mB M_LW_pool) 25 = .ok (.astore 4, 2) := by decide +kernel
theorem d_LW_pool_27 : decode (mB M_LW_pool) 27 = .ok (.iconst 4, 1) := by decide +kernel
theorem d_LW_pool_28 : decode (mB M_LW_pool) 28 = .ok (.ireturn, 1) := by decide +kernel
theorem d_LW_pool_29 : decode (mB M_LW_pool) 29 = .ok (.iconst 0, 1) := by decide +kernel
theorem d_LW_pool_30 : decode (mB M_LW_pool) 30 = .ok (.ireturn, 1) := by decide +kernel
theorem d_LW_patient_0 : decode (mB M_LW_patient) 0 = .ok (.aload_n 1, 1) := by decide +kernel
theorem d_LW_patient_1 : decode (mB M_LW_patient) 1 = .ok (.iconst 0, 1) := by decide +kernel
theorem d_LW_patient_2 : decode (mB M_LW_patient) 2 = .ok (.aload_n 0, 1) := by decide +kernel
theorem d_LW_patient_3 : decode (mB M_LW_patient) 3 = .ok (.invokevirtual 36, 3) := by decide +kernel
theorem d_LW_patient_6 : decode (mB M_LW_patient) 6 = .ok (.i2l, 1) := by decide +kernel
theorem d_LW_patient_7 : decode (mB M_LW_patient) 7 = .ok (.lastore, 1) := by decide +kernel
theorem d_LW_patient_8 : decode (mB M_LW_patient) 8 = .ok (.goto 6, 3) := by decide +kernel
theorem d_LW_patient_11 : decode (mB M_LW_patient) 11 = .ok (.astore_n 2, 1) := by decide +kernel
theorem d_LW_patient_12 : decode (mB M_LW_patient) 12 = .ok (.iconst 1, 1) := by decide +kernel
theorem d_LW_patient_13 : decode (mB M_LW_patient) 13 = .ok (.ireturn, 1) := by decide +kernel
theorem d_LW_patient_14 : decode (mB M_LW_patient) 14 = .ok (.iconst 0, 1) := by decide +kernel
theorem d_LW_patient_15 : decode (mB M_LW_patient) 15 = .ok (.ireturn, 1) := by decide +kernel
theorem d_LW_sample_0 : decode (mB M_LW_sample) 0 = .ok (.aload 4, 2) := by decide +kernel
theorem d_LW_sample_2 : decode (mB M_LW_sample) 2 = .ok (.iconst 0, 1) := by decide +kernel
theorem d_LW_sample_3 : decode (mB M_LW_sample) 3 = .ok (.aload_n 0, 1) := by decide +kernel
theorem d_LW_sample_4 : decode (mB M_LW_sample) 4 = .ok (.iload_n 1, 1) := by decide +kernel
theorem d_LW_sample_5 : decode (mB M_LW_sample) 5 = .ok (.iload_n 2, 1) := by decide +kernel
theorem d_LW_sample_6 : decode (mB M_LW_sample) 6 = .ok (.iload_n 3, 1) := by decide +kernel
theorem d_LW_sample_7 : decode (mB M_LW_sample) 7 = .ok (.invokevirtual 40, 3) := by decide +kernel
theorem d_LW_sample_10 : decode (mB M_LW_sample) 10 = .ok (.i2l, 1) := by decide +kernel
theorem d_LW_sample_11 : decode (mB M_LW_sample) 11 = .ok (.lastore, 1) := by decide +kernel
theorem d_LW_sample_12 : decode (mB M_LW_sample) 12 = .ok (.goto 15, 3) := by decide +kernel
theorem d_LW_sample_15 : decode (mB M_LW_sample) 15 = .ok (.astore 5, 2) := by decide +kernel
theorem d_LW_sample_17 : decode (mB M_LW_sample) 17 = .ok (.iconst 1, 1) := by decide +kernel
theorem d_LW_sample_18 : decode (mB M_LW_sample) 18 = .ok (.ireturn, 1) := by decide +kernel
theorem d_LW_sample_19 : decode (mB M_LW_sample) 19 = .ok (.astore 5, 2) := by decide +kernel
theorem d_LW_sample_21 : decode (mB M_LW_sample) 21 = .ok (.iconst 2, 1) := by decide +kernel
theorem d_LW_sample_22 : decode (mB M_LW_sample) 22 = .ok (.ireturn, 1) := by decide +kernel
theorem d_LW_sample_23 : decode (mB M_LW_sample) 23 = .ok (.astore 5, 2) := by decide +kernel
theorem d_LW_sample_25 : decode (mB M_LW_sample) 25 = .ok (.iconst 3, 1) := by decide +kernel
theorem d_LW_sample_26 : decode (mB M_LW_sample) 26 = .ok (.ireturn, 1) := by decide +kernel
theorem d_LW_sample_27 : decode (mB M_LW_sample) 27 = .ok (.iconst 0, 1) := by decide +kernel
theorem d_LW_sample_28 : decode (mB M_LW_sample) 28 = .ok (.ireturn, 1) := by decide +kernel
theorem d_LW_unlock_0 : decode (mB M_LW_unlock) 0 = .ok (.aload_n 0, 1) := by decide +kernel
theorem d_LW_unlock_1 : decode (mB M_LW_unlock) 1 = .ok (.iload_n 1, 1) := by decide +kernel
theorem d_LW_unlock_2 : decode (mB M_LW_unlock) 2 = .ok (.iload_n 2, 1) := by decide +kernel
theorem d_LW_unlock_3 : decode (mB M_LW_unlock) 3 = .ok (.iload_n 3, 1) := by decide +kernel
theorem d_LW_unlock_4 : decode (mB M_LW_unlock) 4 = .ok (.invokevirtual 44, 3) := by decide +kernel
theorem d_LW_unlock_7 : decode (mB M_LW_unlock) 7 = .ok (.goto 15, 3) := by decide +kernel
theorem d_LW_unlock_10 : decode (mB M_LW_unlock) 10 = .ok (.astore 4, 2) := by decide +kernel
theorem d_LW_unlock_12 : decode (mB M_LW_unlock) 12 = .ok (.iconst 1, 1) := by decide +kernel
theorem d_LW_unlock_13 : decode (mB M_LW_unlock) 13 = .ok (.ireturn, 1) := by decide +kernel
theorem d_LW_unlock_14 : decode (mB M_LW_unlock) 14 = .ok (.astore 4, 2) := by decide +kernel
theorem d_LW_unlock_16 : decode (mB M_LW_unlock) 16 = .ok (.iconst 2, 1) := by decide +kernel
theorem d_LW_unlock_17 : decode (mB M_LW_unlock) 17 = .ok (.ireturn, 1) := by decide +kernel
theorem d_LW_unlock_18 : decode (mB M_LW_unlock) 18 = .ok (.astore 4, 2) := by decide +kernel
theorem d_LW_unlock_20 : decode (mB M_LW_unlock) 20 = .ok (.iconst 3, 1) := by decide +kernel
theorem d_LW_unlock_21 : decode (mB M_LW_unlock) 21 = .ok (.ireturn, 1) := by decide +kernel
theorem d_LW_unlock_22 : decode (mB M_LW_unlock) 22 = .ok (.iconst 0, 1) := by decide +kernel
theorem d_LW_unlock_23 : decode (mB M_LW_unlock) 23 = .ok (.ireturn, 1) := by decide +kernel
theorem d_LW_antibody_0 : decode (mB M_LW_antibody) 0 = .ok (.aload_n 3, 1) := by decide +kernel
theorem d_LW_antibody_1 : decode (mB M_LW_antibody) 1 = .ok (.iconst 0, 1) := by decide +kernel
theorem d_LW_antibody_2 : decode (mB M_LW_antibody) 2 = .ok (.aload_n 0, 1) := by decide +kernel
theorem d_LW_antibody_3 : decode (mB M_LW_antibody) 3 = .ok (.iload_n 1, 1) := by decide +kernel
theorem d_LW_antibody_4 : decode (mB M_LW_antibody) 4 = .ok (.iload_n 2, 1) := by decide +kernel
theorem d_LW_antibody_5 : decode (mB M_LW_antibody) 5 = .ok (.invokevirtual 47, 3) := by decide +kernel
theorem d_LW_antibody_8 : decode (mB M_LW_antibody) 8 = .ok (.i2l, 1) := by decide +kernel
theorem d_LW_antibody_9 : decode (mB M_LW_antibody) 9 = .ok (.lastore, 1) := by decide +kernel
theorem d_LW_antibody_10 : decode (mB M_LW_antibody) 10 = .ok (.goto 11, 3) := by decide +kernel
theorem d_LW_antibody_13 : decode (mB M_LW_antibody) 13 = .ok (.astore 4, 2) := by decide +kernel
theorem d_LW_antibody_15 : decode (mB M_LW_antibody) 15 = .ok (.iconst 1, 1) := by decide +kernel
theorem d_LW_antibody_16 : decode (mB M_LW_antibody) 16 = .ok (.ireturn, 1) := by decide +kernel
theorem d_LW_antibody_17 : decode (mB M_LW_antibody) 17 = .ok (.astore 4, 2) := by decide +kernel
theorem d_LW_antibody_19 : decode (mB M_LW_antibody) 19 = .ok (.iconst 2, 1) := by decide +kernel
theorem d_LW_antibody_20 : decode (mB M_LW_antibody) 20 = .ok (.ireturn, 1) := by decide +kernel
theorem d_LW_antibody_21 : decode (mB M_LW_antibody) 21 = .ok (.iconst 0, 1) := by decide +kernel
theorem d_LW_antibody_22 : decode (mB M_LW_antibody) 22 = .ok (.ireturn, 1) := by decide +kernel
theorem d_LW_need_0 : decode (mB M_LW_need) 0 = .ok (.aload_n 3, 1) := by decide +kernel
theorem d_LW_need_1 : decode (mB M_LW_need) 1 = .ok (.iconst 0, 1) := by decide +kernel
theorem d_LW_need_2 : decode (mB M_LW_need) 2 = .ok (.aload_n 0, 1) := by decide +kernel
theorem d_LW_need_3 : decode (mB M_LW_need) 3 = .ok (.iload_n 1, 1) := by decide +kernel
theorem d_LW_need_4 : decode (mB M_LW_need) 4 = .ok (.iload_n 2, 1) := by decide +kernel
theorem d_LW_need_5 : decode (mB M_LW_need) 5 = .ok (.invokevirtual 50, 3) := by decide +kernel
theorem d_LW_need_8 : decode (mB M_LW_need) 8 = .ok (.i2l, 1) := by decide +kernel
theorem d_LW_need_9 : decode (mB M_LW_need) 9 = .ok (.lastore, 1) := by decide +kernel
theorem d_LW_need_10 : decode (mB M_LW_need) 10 = .ok (.goto 11, 3) := by decide +kernel
theorem d_LW_need_13 : decode (mB M_LW_need) 13 = .ok (.astore 4, 2) := by decide +kernel
theorem d_LW_need_15 : decode (mB M_LW_need) 15 = .ok (.iconst 1, 1) := by decide +kernel
theorem d_LW_need_16 : decode (mB M_LW_need) 16 = .ok (.ireturn, 1) := by decide +kernel
theorem d_LW_need_17 : decode (mB M_LW_need) 17 = .ok (.astore 4, 2) := by decide +kernel
theorem d_LW_need_19 : decode (mB M_LW_need) 19 = .ok (.iconst 2, 1) := by decide +kernel
theorem d_LW_need_20 : decode (mB M_LW_need) 20 = .ok (.ireturn, 1) := by decide +kernel
theorem d_LW_need_21 : decode (mB M_LW_need) 21 = .ok (.iconst 0, 1) := by decide +kernel
theorem d_LW_need_22 : decode (mB M_LW_need) 22 = .ok (.ireturn, 1) := by decide +kernel
theorem d_LW_crossmatch_0 : decode (mB M_LW_crossmatch) 0 = .ok (.aload_n 0, 1) := by decide +kernel
theorem d_LW_crossmatch_1 : decode (mB M_LW_crossmatch) 1 = .ok (.iload_n 1, 1) := by decide +kernel
theorem d_LW_crossmatch_2 : decode (mB M_LW_crossmatch) 2 = .ok (.iload_n 2, 1) := by decide +kernel
theorem d_LW_crossmatch_3 : decode (mB M_LW_crossmatch) 3 = .ok (.iload_n 3, 1) := by decide +kernel
theorem d_LW_crossmatch_4 : decode (mB M_LW_crossmatch) 4 = .ok (.invokevirtual 53, 3) := by decide +kernel
theorem d_LW_crossmatch_7 : decode (mB M_LW_crossmatch) 7 = .ok (.goto 15, 3) := by decide +kernel
theorem d_LW_crossmatch_10 : decode (mB M_LW_crossmatch) 10 = .ok (.astore 4, 2) := by decide +kernel
theorem d_LW_crossmatch_12 : decode (mB M_LW_crossmatch) 12 = .ok (.iconst 1, 1) := by decide +kernel
theorem d_LW_crossmatch_13 : decode (mB M_LW_crossmatch) 13 = .ok (.ireturn, 1) := by decide +kernel
theorem d_LW_crossmatch_14 : decode (mB M_LW_crossmatch) 14 = .ok (.astore 4, 2) := by decide +kernel
theorem d_LW_crossmatch_16 : decode (mB M_LW_crossmatch) 16 = .ok (.iconst 2, 1) := by decide +kernel
theorem d_LW_crossmatch_17 : decode (mB M_LW_crossmatch) 17 = .ok (.ireturn, 1) := by decide +kernel
theorem d_LW_crossmatch_18 : decode (mB M_LW_crossmatch) 18 = .ok (.astore 4, 2) := by decide +kernel
theorem d_LW_crossmatch_20 : decode (mB M_LW_crossmatch) 20 = .ok (.iconst 3, 1) := by decide +kernel
theorem d_LW_crossmatch_21 : decode (mB M_LW_crossmatch) 21 = .ok (.ireturn, 1) := by decide +kernel
theorem d_LW_crossmatch_22 : decode (mB M_LW_crossmatch) 22 = .ok (.iconst 0, 1) := by decide +kernel
theorem d_LW_crossmatch_23 : decode (mB M_LW_crossmatch) 23 = .ok (.ireturn, 1) := by decide +kernel
theorem d_LW_reserve_0 : decode (mB M_LW_reserve) 0 = .ok (.aload_n 3, 1) := by decide +kernel
theorem d_LW_reserve_1 : decode (mB M_LW_reserve) 1 = .ok (.iconst 0, 1) := by decide +kernel
theorem d_LW_reserve_2 : decode (mB M_LW_reserve) 2 = .ok (.aload_n 0, 1) := by decide +kernel
theorem d_LW_reserve_3 : decode (mB M_LW_reserve) 3 = .ok (.iload_n 1, 1) := by decide +kernel
theorem d_LW_reserve_4 : decode (mB M_LW_reserve) 4 = .ok (.iload_n 2, 1) := by decide +kernel
theorem d_LW_reserve_5 : decode (mB M_LW_reserve) 5 = .ok (.invokevirtual 57, 3) := by decide +kernel
theorem d_LW_reserve_8 : decode (mB M_LW_reserve) 8 = .ok (.i2l, 1) := by decide +kernel
theorem d_LW_reserve_9 : decode (mB M_LW_reserve) 9 = .ok (.lastore, 1) := by decide +kernel
theorem d_LW_reserve_10 : decode (mB M_LW_reserve) 10 = .ok (.goto 15, 3) := by decide +kernel
theorem d_LW_reserve_13 : decode (mB M_LW_reserve) 13 = .ok (.astore 4, 2) := by decide +kernel
theorem d_LW_reserve_15 : decode (mB M_LW_reserve) 15 = .ok (.iconst 1, 1) := by decide +kernel
theorem d_LW_reserve_16 : decode (mB M_LW_reserve) 16 = .ok (.ireturn, 1) := by decide +kernel
theorem d_LW_reserve_17 : decode (mB M_LW_reserve) 17 = .ok (.astore 4, 2) := by decide +kernel
theorem d_LW_reserve_19 : decode (mB M_LW_reserve) 19 = .ok (.iconst 2, 1) := by decide +kernel
theorem d_LW_reserve_20 : decode (mB M_LW_reserve) 20 = .ok (.ireturn, 1) := by decide +kernel
theorem d_LW_reserve_21 : decode (mB M_LW_reserve) 21 = .ok (.astore 4, 2) := by decide +kernel
theorem d_LW_reserve_23 : decode (mB M_LW_reserve) 23 = .ok (.iconst 3, 1) := by decide +kernel
theorem d_LW_reserve_24 : decode (mB M_LW_reserve) 24 = .ok (.ireturn, 1) := by decide +kernel
theorem d_LW_reserve_25 : decode (mB M_LW_reserve) 25 = .ok (.iconst 0, 1) := by decide +kernel
theorem d_LW_reserve_26 : decode (mB M_LW_reserve) 26 = .ok (.ireturn, 1) := by decide +kernel
theorem d_LW_release_0 : decode (mB M_LW_release) 0 = .ok (.aload_n 2, 1) := by decide +kernel
theorem d_LW_release_1 : decode (mB M_LW_release) 1 = .ok (.iconst 0, 1) := by decide +kernel
theorem d_LW_release_2 : decode (mB M_LW_release) 2 = .ok (.aload_n 0, 1) := by decide +kernel
theorem d_LW_release_3 : decode (mB M_LW_release) 3 = .ok (.iload_n 1, 1) := by decide +kernel
theorem d_LW_release_4 : decode (mB M_LW_release) 4 = .ok (.invokevirtual 60, 3) := by decide +kernel
theorem d_LW_release_7 : decode (mB M_LW_release) 7 = .ok (.i2l, 1) := by decide +kernel
theorem d_LW_release_8 : decode (mB M_LW_release) 8 = .ok (.lastore, 1) := by decide +kernel
theorem d_LW_release_9 : decode (mB M_LW_release) 9 = .ok (.goto 9, 3) := by decide +kernel
theorem d_LW_release_12 : decode (mB M_LW_release) 12 = .ok (.astore_n 3, 1) := by decide +kernel
theorem d_LW_release_13 : decode (mB M_LW_release) 13 = .ok (.iconst 1, 1) := by decide +kernel
theorem d_LW_release_14 : decode (mB M_LW_release) 14 = .ok (.ireturn, 1) := by decide +kernel
theorem d_LW_release_15 : decode (mB M_LW_release) 15 = .ok (.astore_n 3, 1) := by decide +kernel
theorem d_LW_release_16 : decode (mB M_LW_release) 16 = .ok (.iconst 2, 1) := by decide +kernel
theorem d_LW_release_17 : decode (mB M_LW_release) 17 = .ok (.ireturn, 1) := by decide +kernel
theorem d_LW_release_18 : decode (mB M_LW_release) 18 = .ok (.iconst 0, 1) := by decide +kernel
theorem d_LW_release_19 : decode (mB M_LW_release) 19 = .ok (.ireturn, 1) := by decide +kernel
theorem d_LW_issue_0 : decode (mB M_LW_issue) 0 = .ok (.aload_n 3, 1) := by decide +kernel
theorem d_LW_issue_1 : decode (mB M_LW_issue) 1 = .ok (.iconst 0, 1) := by decide +kernel
theorem d_LW_issue_2 : decode (mB M_LW_issue) 2 = .ok (.aload_n 0, 1) := by decide +kernel
theorem d_LW_issue_3 : decode (mB M_LW_issue) 3 = .ok (.iload_n 1, 1) := by decide +kernel
theorem d_LW_issue_4 : decode (mB M_LW_issue) 4 = .ok (.iload_n 2, 1) := by decide +kernel
theorem d_LW_issue_5 : decode (mB M_LW_issue) 5 = .ok (.invokevirtual 63, 3) := by decide +kernel
theorem d_LW_issue_8 : decode (mB M_LW_issue) 8 = .ok (.i2l, 1) := by decide +kernel
theorem d_LW_issue_9 : decode (mB M_LW_issue) 9 = .ok (.lastore, 1) := by decide +kernel
theorem d_LW_issue_10 : decode (mB M_LW_issue) 10 = .ok (.goto 15, 3) := by decide +kernel
theorem d_LW_issue_13 : decode (mB M_LW_issue) 13 = .ok (.astore 4, 2) := by decide +kernel
theorem d_LW_issue_15 : decode (mB M_LW_issue) 15 = .ok (.iconst 1, 1) := by decide +kernel
theorem d_LW_issue_16 : decode (mB M_LW_issue) 16 = .ok (.ireturn, 1) := by decide +kernel
theorem d_LW_issue_17 : decode (mB M_LW_issue) 17 = .ok (.astore 4, 2) := by decide +kernel
theorem d_LW_issue_19 : decode (mB M_LW_issue) 19 = .ok (.iconst 2, 1) := by decide +kernel
theorem d_LW_issue_20 : decode (mB M_LW_issue) 20 = .ok (.ireturn, 1) := by decide +kernel
theorem d_LW_issue_21 : decode (mB M_LW_issue) 21 = .ok (.astore 4, 2) := by decide +kernel
theorem d_LW_issue_23 : decode (mB M_LW_issue) 23 = .ok (.iconst 3, 1) := by decide +kernel
theorem d_LW_issue_24 : decode (mB M_LW_issue) 24 = .ok (.ireturn, 1) := by decide +kernel
theorem d_LW_issue_25 : decode (mB M_LW_issue) 25 = .ok (.iconst 0, 1) := by decide +kernel
theorem d_LW_issue_26 : decode (mB M_LW_issue) 26 = .ok (.ireturn, 1) := by decide +kernel
theorem d_LW_emergency_0 : decode (mB M_LW_emergency) 0 = .ok (.aload 4, 2) := by decide +kernel
theorem d_LW_emergency_2 : decode (mB M_LW_emergency) 2 = .ok (.iconst 0, 1) := by decide +kernel
theorem d_LW_emergency_3 : decode (mB M_LW_emergency) 3 = .ok (.aload_n 0, 1) := by decide +kernel
theorem d_LW_emergency_4 : decode (mB M_LW_emergency) 4 = .ok (.iload_n 1, 1) := by decide +kernel
theorem d_LW_emergency_5 : decode (mB M_LW_emergency) 5 = .ok (.iload_n 2, 1) := by decide +kernel
theorem d_LW_emergency_6 : decode (mB M_LW_emergency) 6 = .ok (.iload_n 3, 1) := by decide +kernel
theorem d_LW_emergency_7 : decode (mB M_LW_emergency) 7 = .ok (.invokevirtual 66, 3) := by decide +kernel
theorem d_LW_emergency_10 : decode (mB M_LW_emergency) 10 = .ok (.i2l, 1) := by decide +kernel
theorem d_LW_emergency_11 : decode (mB M_LW_emergency) 11 = .ok (.lastore, 1) := by decide +kernel
theorem d_LW_emergency_12 : decode (mB M_LW_emergency) 12 = .ok (.goto 19, 3) := by decide +kernel
theorem d_LW_emergency_15 : decode (mB M_LW_emergency) 15 = .ok (.astore 5, 2) := by decide +kernel
theorem d_LW_emergency_17 : decode (mB M_LW_emergency) 17 = .ok (.iconst 1, 1) := by decide +kernel
theorem d_LW_emergency_18 : decode (mB M_LW_emergency) 18 = .ok (.ireturn, 1) := by decide +kernel
theorem d_LW_emergency_19 : decode (mB M_LW_emergency) 19 = .ok (.astore 5, 2) := by decide +kernel
theorem d_LW_emergency_21 : decode (mB M_LW_emergency) 21 = .ok (.iconst 2, 1) := by decide +kernel
theorem d_LW_emergency_22 : decode (mB M_LW_emergency) 22 = .ok (.ireturn, 1) := by decide +kernel
theorem d_LW_emergency_23 : decode (mB M_LW_emergency) 23 = .ok (.astore 5, 2) := by decide +kernel
theorem d_LW_emergency_25 : decode (mB M_LW_emergency) 25 = .ok (.iconst 3, 1) := by decide +kernel
theorem d_LW_emergency_26 : decode (mB M_LW_emergency) 26 = .ok (.ireturn, 1) := by decide +kernel
theorem d_LW_emergency_27 : decode (mB M_LW_emergency) 27 = .ok (.astore 5, 2) := by decide +kernel
theorem d_LW_emergency_29 : decode (mB M_LW_emergency) 29 = .ok (.iconst 4, 1) := by decide +kernel
theorem d_LW_emergency_30 : decode (mB M_LW_emergency) 30 = .ok (.ireturn, 1) := by decide +kernel
theorem d_LW_emergency_31 : decode (mB M_LW_emergency) 31 = .ok (.iconst 0, 1) := by decide +kernel
theorem d_LW_emergency_32 : decode (mB M_LW_emergency) 32 = .ok (.ireturn, 1) := by decide +kernel
theorem d_LW_giveBack_0 : decode (mB M_LW_giveBack) 0 = .ok (.aload_n 2, 1) := by decide +kernel
theorem d_LW_giveBack_1 : decode (mB M_LW_giveBack) 1 = .ok (.iconst 0, 1) := by decide +kernel
theorem d_LW_giveBack_2 : decode (mB M_LW_giveBack) 2 = .ok (.aload_n 0, 1) := by decide +kernel
theorem d_LW_giveBack_3 : decode (mB M_LW_giveBack) 3 = .ok (.iload_n 1, 1) := by decide +kernel
theorem d_LW_giveBack_4 : decode (mB M_LW_giveBack) 4 = .ok (.invokevirtual 69, 3) := by decide +kernel
theorem d_LW_giveBack_7 : decode (mB M_LW_giveBack) 7 = .ok (.i2l, 1) := by decide +kernel
theorem d_LW_giveBack_8 : decode (mB M_LW_giveBack) 8 = .ok (.lastore, 1) := by decide +kernel
theorem d_LW_giveBack_9 : decode (mB M_LW_giveBack) 9 = .ok (.goto 9, 3) := by decide +kernel
theorem d_LW_giveBack_12 : decode (mB M_LW_giveBack) 12 = .ok (.astore_n 3, 1) := by decide +kernel
theorem d_LW_giveBack_13 : decode (mB M_LW_giveBack) 13 = .ok (.iconst 1, 1) := by decide +kernel
theorem d_LW_giveBack_14 : decode (mB M_LW_giveBack) 14 = .ok (.ireturn, 1) := by decide +kernel
theorem d_LW_giveBack_15 : decode (mB M_LW_giveBack) 15 = .ok (.astore_n 3, 1) := by decide +kernel
theorem d_LW_giveBack_16 : decode (mB M_LW_giveBack) 16 = .ok (.iconst 2, 1) := by decide +kernel
theorem d_LW_giveBack_17 : decode (mB M_LW_giveBack) 17 = .ok (.ireturn, 1) := by decide +kernel
theorem d_LW_giveBack_18 : decode (mB M_LW_giveBack) 18 = .ok (.iconst 0, 1) := by decide +kernel
theorem d_LW_giveBack_19 : decode (mB M_LW_giveBack) 19 = .ok (.ireturn, 1) := by decide +kernel
theorem d_LW_transfused_0 : decode (mB M_LW_transfused) 0 = .ok (.aload_n 2, 1) := by decide +kernel
theorem d_LW_transfused_1 : decode (mB M_LW_transfused) 1 = .ok (.iconst 0, 1) := by decide +kernel
theorem d_LW_transfused_2 : decode (mB M_LW_transfused) 2 = .ok (.aload_n 0, 1) := by decide +kernel
theorem d_LW_transfused_3 : decode (mB M_LW_transfused) 3 = .ok (.iload_n 1, 1) := by decide +kernel
theorem d_LW_transfused_4 : decode (mB M_LW_transfused) 4 = .ok (.invokevirtual 72, 3) := by decide +kernel
theorem d_LW_transfused_7 : decode (mB M_LW_transfused) 7 = .ok (.i2l, 1) := by decide +kernel
theorem d_LW_transfused_8 : decode (mB M_LW_transfused) 8 = .ok (.lastore, 1) := by decide +kernel
theorem d_LW_transfused_9 : decode (mB M_LW_transfused) 9 = .ok (.goto 9, 3) := by decide +kernel
theorem d_LW_transfused_12 : decode (mB M_LW_transfused) 12 = .ok (.astore_n 3, 1) := by decide +kernel
theorem d_LW_transfused_13 : decode (mB M_LW_transfused) 13 = .ok (.iconst 1, 1) := by decide +kernel
theorem d_LW_transfused_14 : decode (mB M_LW_transfused) 14 = .ok (.ireturn, 1) := by decide +kernel
theorem d_LW_transfused_15 : decode (mB M_LW_transfused) 15 = .ok (.astore_n 3, 1) := by decide +kernel
theorem d_LW_transfused_16 : decode (mB M_LW_transfused) 16 = .ok (.iconst 2, 1) := by decide +kernel
theorem d_LW_transfused_17 : decode (mB M_LW_transfused) 17 = .ok (.ireturn, 1) := by decide +kernel
theorem d_LW_transfused_18 : decode (mB M_LW_transfused) 18 = .ok (.iconst 0, 1) := by decide +kernel
theorem d_LW_transfused_19 : decode (mB M_LW_transfused) 19 = .ok (.ireturn, 1) := by decide +kernel
theorem d_LW_discard_0 : decode (mB M_LW_discard) 0 = .ok (.aload_n 3, 1) := by decide +kernel
theorem d_LW_discard_1 : decode (mB M_LW_discard) 1 = .ok (.iconst 0, 1) := by decide +kernel
theorem d_LW_discard_2 : decode (mB M_LW_discard) 2 = .ok (.aload_n 0, 1) := by decide +kernel
theorem d_LW_discard_3 : decode (mB M_LW_discard) 3 = .ok (.iload_n 1, 1) := by decide +kernel
theorem d_LW_discard_4 : decode (mB M_LW_discard) 4 = .ok (.iload_n 2, 1) := by decide +kernel
theorem d_LW_discard_5 : decode (mB M_LW_discard) 5 = .ok (.invokevirtual 75, 3) := by decide +kernel
theorem d_LW_discard_8 : decode (mB M_LW_discard) 8 = .ok (.i2l, 1) := by decide +kernel
theorem d_LW_discard_9 : decode (mB M_LW_discard) 9 = .ok (.lastore, 1) := by decide +kernel
theorem d_LW_discard_10 : decode (mB M_LW_discard) 10 = .ok (.goto 15, 3) := by decide +kernel
theorem d_LW_discard_13 : decode (mB M_LW_discard) 13 = .ok (.astore 4, 2) := by decide +kernel
theorem d_LW_discard_15 : decode (mB M_LW_discard) 15 = .ok (.iconst 1, 1) := by decide +kernel
theorem d_LW_discard_16 : decode (mB M_LW_discard) 16 = .ok (.ireturn, 1) := by decide +kernel
theorem d_LW_discard_17 : decode (mB M_LW_discard) 17 = .ok (.astore 4, 2) := by decide +kernel
theorem d_LW_discard_19 : decode (mB M_LW_discard) 19 = .ok (.iconst 2, 1) := by decide +kernel
theorem d_LW_discard_20 : decode (mB M_LW_discard) 20 = .ok (.ireturn, 1) := by decide +kernel
theorem d_LW_discard_21 : decode (mB M_LW_discard) 21 = .ok (.astore 4, 2) := by decide +kernel
theorem d_LW_discard_23 : decode (mB M_LW_discard) 23 = .ok (.iconst 3, 1) := by decide +kernel
theorem d_LW_discard_24 : decode (mB M_LW_discard) 24 = .ok (.ireturn, 1) := by decide +kernel
theorem d_LW_discard_25 : decode (mB M_LW_discard) 25 = .ok (.iconst 0, 1) := by decide +kernel
theorem d_LW_discard_26 : decode (mB M_LW_discard) 26 = .ok (.ireturn, 1) := by decide +kernel
theorem d_LW_quarantine_0 : decode (mB M_LW_quarantine) 0 = .ok (.aload_n 3, 1) := by decide +kernel
theorem d_LW_quarantine_1 : decode (mB M_LW_quarantine) 1 = .ok (.iconst 0, 1) := by decide +kernel
theorem d_LW_quarantine_2 : decode (mB M_LW_quarantine) 2 = .ok (.aload_n 0, 1) := by decide +kernel
theorem d_LW_quarantine_3 : decode (mB M_LW_quarantine) 3 = .ok (.iload_n 1, 1) := by decide +kernel
theorem d_LW_quarantine_4 : decode (mB M_LW_quarantine) 4 = .ok (.iload_n 2, 1) := by decide +kernel
theorem d_LW_quarantine_5 : decode (mB M_LW_quarantine) 5 = .ok (.invokevirtual 78, 3) := by decide +kernel
theorem d_LW_quarantine_8 : decode (mB M_LW_quarantine) 8 = .ok (.i2l, 1) := by decide +kernel
theorem d_LW_quarantine_9 : decode (mB M_LW_quarantine) 9 = .ok (.lastore, 1) := by decide +kernel
theorem d_LW_quarantine_10 : decode (mB M_LW_quarantine) 10 = .ok (.goto 7, 3) := by decide +kernel
theorem d_LW_quarantine_13 : decode (mB M_LW_quarantine) 13 = .ok (.astore 4, 2) := by decide +kernel
theorem d_LW_quarantine_15 : decode (mB M_LW_quarantine) 15 = .ok (.iconst 1, 1) := by decide +kernel
theorem d_LW_quarantine_16 : decode (mB M_LW_quarantine) 16 = .ok (.ireturn, 1) := by decide +kernel
theorem d_LW_quarantine_17 : decode (mB M_LW_quarantine) 17 = .ok (.iconst 0, 1) := by decide +kernel
theorem d_LW_quarantine_18 : decode (mB M_LW_quarantine) 18 = .ok (.ireturn, 1) := by decide +kernel
theorem d_LW_of_0 : decode (mB M_LW_of) 0 = .ok (.aload_n 3, 1) := by decide +kernel
theorem d_LW_of_1 : decode (mB M_LW_of) 1 = .ok (.iconst 0, 1) := by decide +kernel
theorem d_LW_of_2 : decode (mB M_LW_of) 2 = .ok (.aload_n 0, 1) := by decide +kernel
theorem d_LW_of_3 : decode (mB M_LW_of) 3 = .ok (.iload_n 1, 1) := by decide +kernel
theorem d_LW_of_4 : decode (mB M_LW_of) 4 = .ok (.iload_n 2, 1) := by decide +kernel
theorem d_LW_of_5 : decode (mB M_LW_of) 5 = .ok (.invokevirtual 82, 3) := by decide +kernel
theorem d_LW_of_8 : decode (mB M_LW_of) 8 = .ok (.i2l, 1) := by decide +kernel
theorem d_LW_of_9 : decode (mB M_LW_of) 9 = .ok (.lastore, 1) := by decide +kernel
theorem d_LW_of_10 : decode (mB M_LW_of) 10 = .ok (.goto 11, 3) := by decide +kernel
theorem d_LW_of_13 : decode (mB M_LW_of) 13 = .ok (.astore 4, 2) := by decide +kernel
theorem d_LW_of_15 : decode (mB M_LW_of) 15 = .ok (.iconst 1, 1) := by decide +kernel
theorem d_LW_of_16 : decode (mB M_LW_of) 16 = .ok (.ireturn, 1) := by decide +kernel
theorem d_LW_of_17 : decode (mB M_LW_of) 17 = .ok (.astore 4, 2) := by decide +kernel
theorem d_LW_of_19 : decode (mB M_LW_of) 19 = .ok (.iconst 2, 1) := by decide +kernel
theorem d_LW_of_20 : decode (mB M_LW_of) 20 = .ok (.ireturn, 1) := by decide +kernel
theorem d_LW_of_21 : decode (mB M_LW_of) 21 = .ok (.iconst 0, 1) := by decide +kernel
theorem d_LW_of_22 : decode (mB M_LW_of) 22 = .ok (.ireturn, 1) := by decide +kernel
theorem d_LW_has_0 : decode (mB M_LW_has) 0 = .ok (.aload_n 3, 1) := by decide +kernel
theorem d_LW_has_1 : decode (mB M_LW_has) 1 = .ok (.iconst 0, 1) := by decide +kernel
theorem d_LW_has_2 : decode (mB M_LW_has) 2 = .ok (.aload_n 0, 1) := by decide +kernel
theorem d_LW_has_3 : decode (mB M_LW_has) 3 = .ok (.iload_n 1, 1) := by decide +kernel
theorem d_LW_has_4 : decode (mB M_LW_has) 4 = .ok (.iload_n 2, 1) := by decide +kernel
theorem d_LW_has_5 : decode (mB M_LW_has) 5 = .ok (.invokevirtual 87, 3) := by decide +kernel
theorem d_LW_has_8 : decode (mB M_LW_has) 8 = .ok (.i2l, 1) := by decide +kernel
theorem d_LW_has_9 : decode (mB M_LW_has) 9 = .ok (.lastore, 1) := by decide +kernel
theorem d_LW_has_10 : decode (mB M_LW_has) 10 = .ok (.goto 11, 3) := by decide +kernel
theorem d_LW_has_13 : decode (mB M_LW_has) 13 = .ok (.astore 4, 2) := by decide +kernel
theorem d_LW_has_15 : decode (mB M_LW_has) 15 = .ok (.iconst 1, 1) := by decide +kernel
theorem d_LW_has_16 : decode (mB M_LW_has) 16 = .ok (.ireturn, 1) := by decide +kernel
theorem d_LW_has_17 : decode (mB M_LW_has) 17 = .ok (.astore 4, 2) := by decide +kernel
theorem d_LW_has_19 : decode (mB M_LW_has) 19 = .ok (.iconst 2, 1) := by decide +kernel
theorem d_LW_has_20 : decode (mB M_LW_has) 20 = .ok (.ireturn, 1) := by decide +kernel
theorem d_LW_has_21 : decode (mB M_LW_has) 21 = .ok (.iconst 0, 1) := by decide +kernel
theorem d_LW_has_22 : decode (mB M_LW_has) 22 = .ok (.ireturn, 1) := by decide +kernel
theorem d_LW_who_0 : decode (mB M_LW_who) 0 = .ok (.aload_n 3, 1) := by decide +kernel
theorem d_LW_who_1 : decode (mB M_LW_who) 1 = .ok (.iconst 0, 1) := by decide +kernel
theorem d_LW_who_2 : decode (mB M_LW_who) 2 = .ok (.aload_n 0, 1) := by decide +kernel
theorem d_LW_who_3 : decode (mB M_LW_who) 3 = .ok (.iload_n 1, 1) := by decide +kernel
theorem d_LW_who_4 : decode (mB M_LW_who) 4 = .ok (.iload_n 2, 1) := by decide +kernel
theorem d_LW_who_5 : decode (mB M_LW_who) 5 = .ok (.invokevirtual 90, 3) := by decide +kernel
theorem d_LW_who_8 : decode (mB M_LW_who) 8 = .ok (.i2l, 1) := by decide +kernel
theorem d_LW_who_9 : decode (mB M_LW_who) 9 = .ok (.lastore, 1) := by decide +kernel
theorem d_LW_who_10 : decode (mB M_LW_who) 10 = .ok (.goto 11, 3) := by decide +kernel
theorem d_LW_who_13 : decode (mB M_LW_who) 13 = .ok (.astore 4, 2) := by decide +kernel
theorem d_LW_who_15 : decode (mB M_LW_who) 15 = .ok (.iconst 1, 1) := by decide +kernel
theorem d_LW_who_16 : decode (mB M_LW_who) 16 = .ok (.ireturn, 1) := by decide +kernel
theorem d_LW_who_17 : decode (mB M_LW_who) 17 = .ok (.astore 4, 2) := by decide +kernel
theorem d_LW_who_19 : decode (mB M_LW_who) 19 = .ok (.iconst 2, 1) := by decide +kernel
theorem d_LW_who_20 : decode (mB M_LW_who) 20 = .ok (.ireturn, 1) := by decide +kernel
theorem d_LW_who_21 : decode (mB M_LW_who) 21 = .ok (.iconst 0, 1) := by decide +kernel
theorem d_LW_who_22 : decode (mB M_LW_who) 22 = .ok (.ireturn, 1) := by decide +kernel
theorem d_LW_why_0 : decode (mB M_LW_why) 0 = .ok (.aload_n 3, 1) := by decide +kernel
theorem d_LW_why_1 : decode (mB M_LW_why) 1 = .ok (.iconst 0, 1) := by decide +kernel
theorem d_LW_why_2 : decode (mB M_LW_why) 2 = .ok (.aload_n 0, 1) := by decide +kernel
theorem d_LW_why_3 : decode (mB M_LW_why) 3 = .ok (.iload_n 1, 1) := by decide +kernel
theorem d_LW_why_4 : decode (mB M_LW_why) 4 = .ok (.iload_n 2, 1) := by decide +kernel
theorem d_LW_why_5 : decode (mB M_LW_why) 5 = .ok (.invokevirtual 93, 3) := by decide +kernel
theorem d_LW_why_8 : decode (mB M_LW_why) 8 = .ok (.i2l, 1) := by decide +kernel
theorem d_LW_why_9 : decode (mB M_LW_why) 9 = .ok (.lastore, 1) := by decide +kernel
theorem d_LW_why_10 : decode (mB M_LW_why) 10 = .ok (.goto 7, 3) := by decide +kernel
theorem d_LW_why_13 : decode (mB M_LW_why) 13 = .ok (.astore 4, 2) := by decide +kernel
theorem d_LW_why_15 : decode (mB M_LW_why) 15 = .ok (.iconst 1, 1) := by decide +kernel
theorem d_LW_why_16 : decode (mB M_LW_why) 16 = .ok (.ireturn, 1) := by decide +kernel
theorem d_LW_why_17 : decode (mB M_LW_why) 17 = .ok (.iconst 0, 1) := by decide +kernel
theorem d_LW_why_18 : decode (mB M_LW_why) 18 = .ok (.ireturn, 1) := by decide +kernel
theorem d_LW_offer_0 : decode (mB M_LW_offer) 0 = .ok (.aload 4, 2) := by decide +kernel
theorem d_LW_offer_2 : decode (mB M_LW_offer) 2 = .ok (.iconst 0, 1) := by decide +kernel
theorem d_LW_offer_3 : decode (mB M_LW_offer) 3 = .ok (.aload_n 0, 1) := by decide +kernel
theorem d_LW_offer_4 : decode (mB M_LW_offer) 4 = .ok (.iload_n 1, 1) := by decide +kernel
theorem d_LW_offer_5 : decode (mB M_LW_offer) 5 = .ok (.iload_n 2, 1) := by decide +kernel
theorem d_LW_offer_6 : decode (mB M_LW_offer) 6 = .ok (.iload_n 3, 1) := by decide +kernel
theorem d_LW_offer_7 : decode (mB M_LW_offer) 7 = .ok (.invokevirtual 96, 3) := by decide +kernel
theorem d_LW_offer_10 : decode (mB M_LW_offer) 10 = .ok (.i2l, 1) := by decide +kernel
theorem d_LW_offer_11 : decode (mB M_LW_offer) 11 = .ok (.lastore, 1) := by decide +kernel
theorem d_LW_offer_12 : decode (mB M_LW_offer) 12 = .ok (.goto 11, 3) := by decide +kernel
theorem d_LW_offer_15 : decode (mB M_LW_offer) 15 = .ok (.astore 5, 2) := by decide +kernel
theorem d_LW_offer_17 : decode (mB M_LW_offer) 17 = .ok (.iconst 1, 1) := by decide +kernel
theorem d_LW_offer_18 : decode (mB M_LW_offer) 18 = .ok (.ireturn, 1) := by decide +kernel
theorem d_LW_offer_19 : decode (mB M_LW_offer) 19 = .ok (.astore 5, 2) := by decide +kernel
theorem d_LW_offer_21 : decode (mB M_LW_offer) 21 = .ok (.iconst 2, 1) := by decide +kernel
theorem d_LW_offer_22 : decode (mB M_LW_offer) 22 = .ok (.ireturn, 1) := by decide +kernel
theorem d_LW_offer_23 : decode (mB M_LW_offer) 23 = .ok (.iconst 0, 1) := by decide +kernel
theorem d_LW_offer_24 : decode (mB M_LW_offer) 24 = .ok (.ireturn, 1) := by decide +kernel
theorem d_LW_stock_0 : decode (mB M_LW_stock) 0 = .ok (.aload 4, 2) := by decide +kernel
theorem d_LW_stock_2 : decode (mB M_LW_stock) 2 = .ok (.iconst 0, 1) := by decide +kernel
theorem d_LW_stock_3 : decode (mB M_LW_stock) 3 = .ok (.aload_n 0, 1) := by decide +kernel
theorem d_LW_stock_4 : decode (mB M_LW_stock) 4 = .ok (.iload_n 1, 1) := by decide +kernel
theorem d_LW_stock_5 : decode (mB M_LW_stock) 5 = .ok (.iload_n 2, 1) := by decide +kernel
theorem d_LW_stock_6 : decode (mB M_LW_stock) 6 = .ok (.iload_n 3, 1) := by decide +kernel
theorem d_LW_stock_7 : decode (mB M_LW_stock) 7 = .ok (.invokevirtual 99, 3) := by decide +kernel
theorem d_LW_stock_10 : decode (mB M_LW_stock) 10 = .ok (.i2l, 1) := by decide +kernel
theorem d_LW_stock_11 : decode (mB M_LW_stock) 11 = .ok (.lastore, 1) := by decide +kernel
theorem d_LW_stock_12 : decode (mB M_LW_stock) 12 = .ok (.goto 7, 3) := by decide +kernel
theorem d_LW_stock_15 : decode (mB M_LW_stock) 15 = .ok (.astore 5, 2) := by decide +kernel
theorem d_LW_stock_17 : decode (mB M_LW_stock) 17 = .ok (.iconst 1, 1) := by decide +kernel
theorem d_LW_stock_18 : decode (mB M_LW_stock) 18 = .ok (.ireturn, 1) := by decide +kernel
theorem d_LW_stock_19 : decode (mB M_LW_stock) 19 = .ok (.iconst 0, 1) := by decide +kernel
theorem d_LW_stock_20 : decode (mB M_LW_stock) 20 = .ok (.ireturn, 1) := by decide +kernel
theorem d_LW_expiring_0 : decode (mB M_LW_expiring) 0 = .ok (.aload_n 3, 1) := by decide +kernel
theorem d_LW_expiring_1 : decode (mB M_LW_expiring) 1 = .ok (.iconst 0, 1) := by decide +kernel
theorem d_LW_expiring_2 : decode (mB M_LW_expiring) 2 = .ok (.aload_n 0, 1) := by decide +kernel
theorem d_LW_expiring_3 : decode (mB M_LW_expiring) 3 = .ok (.iload_n 1, 1) := by decide +kernel
theorem d_LW_expiring_4 : decode (mB M_LW_expiring) 4 = .ok (.iload_n 2, 1) := by decide +kernel
theorem d_LW_expiring_5 : decode (mB M_LW_expiring) 5 = .ok (.invokevirtual 102, 3) := by decide +kernel
theorem d_LW_expiring_8 : decode (mB M_LW_expiring) 8 = .ok (.i2l, 1) := by decide +kernel
theorem d_LW_expiring_9 : decode (mB M_LW_expiring) 9 = .ok (.lastore, 1) := by decide +kernel
theorem d_LW_expiring_10 : decode (mB M_LW_expiring) 10 = .ok (.goto 7, 3) := by decide +kernel
theorem d_LW_expiring_13 : decode (mB M_LW_expiring) 13 = .ok (.astore 4, 2) := by decide +kernel
theorem d_LW_expiring_15 : decode (mB M_LW_expiring) 15 = .ok (.iconst 1, 1) := by decide +kernel
theorem d_LW_expiring_16 : decode (mB M_LW_expiring) 16 = .ok (.ireturn, 1) := by decide +kernel
theorem d_LW_expiring_17 : decode (mB M_LW_expiring) 17 = .ok (.iconst 0, 1) := by decide +kernel
theorem d_LW_expiring_18 : decode (mB M_LW_expiring) 18 = .ok (.ireturn, 1) := by decide +kernel
theorem d_LW_lookback_0 : decode (mB M_LW_lookback) 0 = .ok (.aload_n 3, 1) := by decide +kernel
theorem d_LW_lookback_1 : decode (mB M_LW_lookback) 1 = .ok (.iconst 0, 1) := by decide +kernel
theorem d_LW_lookback_2 : decode (mB M_LW_lookback) 2 = .ok (.aload_n 0, 1) := by decide +kernel
theorem d_LW_lookback_3 : decode (mB M_LW_lookback) 3 = .ok (.iload_n 1, 1) := by decide +kernel
theorem d_LW_lookback_4 : decode (mB M_LW_lookback) 4 = .ok (.iload_n 2, 1) := by decide +kernel
theorem d_LW_lookback_5 : decode (mB M_LW_lookback) 5 = .ok (.invokevirtual 105, 3) := by decide +kernel
theorem d_LW_lookback_8 : decode (mB M_LW_lookback) 8 = .ok (.i2l, 1) := by decide +kernel
theorem d_LW_lookback_9 : decode (mB M_LW_lookback) 9 = .ok (.lastore, 1) := by decide +kernel
theorem d_LW_lookback_10 : decode (mB M_LW_lookback) 10 = .ok (.goto 7, 3) := by decide +kernel
theorem d_LW_lookback_13 : decode (mB M_LW_lookback) 13 = .ok (.astore 4, 2) := by decide +kernel
theorem d_LW_lookback_15 : decode (mB M_LW_lookback) 15 = .ok (.iconst 1, 1) := by decide +kernel
theorem d_LW_lookback_16 : decode (mB M_LW_lookback) 16 = .ok (.ireturn, 1) := by decide +kernel
theorem d_LW_lookback_17 : decode (mB M_LW_lookback) 17 = .ok (.iconst 0, 1) := by decide +kernel
theorem d_LW_lookback_18 : decode (mB M_LW_lookback) 18 = .ok (.ireturn, 1) := by decide +kernel
theorem d_LW_received_0 : decode (mB M_LW_received) 0 = .ok (.aload_n 3, 1) := by decide +kernel
theorem d_LW_received_1 : decode (mB M_LW_received) 1 = .ok (.iconst 0, 1) := by decide +kernel
theorem d_LW_received_2 : decode (mB M_LW_received) 2 = .ok (.aload_n 0, 1) := by decide +kernel
theorem d_LW_received_3 : decode (mB M_LW_received) 3 = .ok (.iload_n 1, 1) := by decide +kernel
theorem d_LW_received_4 : decode (mB M_LW_received) 4 = .ok (.iload_n 2, 1) := by decide +kernel
theorem d_LW_received_5 : decode (mB M_LW_received) 5 = .ok (.invokevirtual 108, 3) := by decide +kernel
theorem d_LW_received_8 : decode (mB M_LW_received) 8 = .ok (.i2l, 1) := by decide +kernel
theorem d_LW_received_9 : decode (mB M_LW_received) 9 = .ok (.lastore, 1) := by decide +kernel
theorem d_LW_received_10 : decode (mB M_LW_received) 10 = .ok (.goto 7, 3) := by decide +kernel
theorem d_LW_received_13 : decode (mB M_LW_received) 13 = .ok (.astore 4, 2) := by decide +kernel
theorem d_LW_received_15 : decode (mB M_LW_received) 15 = .ok (.iconst 1, 1) := by decide +kernel
theorem d_LW_received_16 : decode (mB M_LW_received) 16 = .ok (.ireturn, 1) := by decide +kernel
theorem d_LW_received_17 : decode (mB M_LW_received) 17 = .ok (.iconst 0, 1) := by decide +kernel
theorem d_LW_received_18 : decode (mB M_LW_received) 18 = .ok (.ireturn, 1) := by decide +kernel
theorem d_LW_count_0 : decode (mB M_LW_count) 0 = .ok (.aload_n 3, 1) := by decide +kernel
theorem d_LW_count_1 : decode (mB M_LW_count) 1 = .ok (.iconst 0, 1) := by decide +kernel
theorem d_LW_count_2 : decode (mB M_LW_count) 2 = .ok (.aload_n 0, 1) := by decide +kernel
theorem d_LW_count_3 : decode (mB M_LW_count) 3 = .ok (.iload_n 1, 1) := by decide +kernel
theorem d_LW_count_4 : decode (mB M_LW_count) 4 = .ok (.iload_n 2, 1) := by decide +kernel
theorem d_LW_count_5 : decode (mB M_LW_count) 5 = .ok (.invokevirtual 111, 3) := by decide +kernel
theorem d_LW_count_8 : decode (mB M_LW_count) 8 = .ok (.i2l, 1) := by decide +kernel
theorem d_LW_count_9 : decode (mB M_LW_count) 9 = .ok (.lastore, 1) := by decide +kernel
theorem d_LW_count_10 : decode (mB M_LW_count) 10 = .ok (.goto 7, 3) := by decide +kernel
theorem d_LW_count_13 : decode (mB M_LW_count) 13 = .ok (.astore 4, 2) := by decide +kernel
theorem d_LW_count_15 : decode (mB M_LW_count) 15 = .ok (.iconst 1, 1) := by decide +kernel
theorem d_LW_count_16 : decode (mB M_LW_count) 16 = .ok (.ireturn, 1) := by decide +kernel
theorem d_LW_count_17 : decode (mB M_LW_count) 17 = .ok (.iconst 0, 1) := by decide +kernel
theorem d_LW_count_18 : decode (mB M_LW_count) 18 = .ok (.ireturn, 1) := by decide +kernel
