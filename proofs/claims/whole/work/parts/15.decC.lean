/-! what the bytes of the methods are (by program) -/
theorem d_MO_init_0 : decode (mB M_MO_init) 0 = .ok (.aload_n 0, 1) := by decide +kernel
theorem d_MO_init_1 : decode (mB M_MO_init) 1 = .ok (.invokespecial 1, 3) := by decide +kernel
theorem d_MO_init_4 : decode (mB M_MO_init) 4 = .ok (.aload_n 0, 1) := by decide +kernel
theorem d_MO_init_5 : decode (mB M_MO_init) 5 = .ok (.bipush 48, 2) := by decide +kernel
theorem d_MO_init_7 : decode (mB M_MO_init) 7 = .ok (.newarray .int, 2) := by decide +kernel
theorem d_MO_init_9 : decode (mB M_MO_init) 9 = .ok (.putfield 7, 3) := by decide +kernel
theorem d_MO_init_12 : decode (mB M_MO_init) 12 = .ok (.aload_n 0, 1) := by decide +kernel
theorem d_MO_init_13 : decode (mB M_MO_init) 13 = .ok (.bipush 48, 2) := by decide +kernel
theorem d_MO_init_15 : decode (mB M_MO_init) 15 = .ok (.newarray .int, 2) := by decide +kernel
theorem d_MO_init_17 : decode (mB M_MO_init) 17 = .ok (.putfield 13, 3) := by decide +kernel
theorem d_MO_init_20 : decode (mB M_MO_init) 20 = .ok (.aload_n 0, 1) := by decide +kernel
theorem d_MO_init_21 : decode (mB M_MO_init) 21 = .ok (.bipush 48, 2) := by decide +kernel
theorem d_MO_init_23 : decode (mB M_MO_init) 23 = .ok (.newarray .int, 2) := by decide +kernel
theorem d_MO_init_25 : decode (mB M_MO_init) 25 = .ok (.putfield 16, 3) := by decide +kernel
theorem d_MO_init_28 : decode (mB M_MO_init) 28 = .ok (.aload_n 0, 1) := by decide +kernel
theorem d_MO_init_29 : decode (mB M_MO_init) 29 = .ok (.bipush 48, 2) := by decide +kernel
theorem d_MO_init_31 : decode (mB M_MO_init) 31 = .ok (.newarray .int, 2) := by decide +kernel
theorem d_MO_init_33 : decode (mB M_MO_init) 33 = .ok (.putfield 19, 3) := by decide +kernel
theorem d_MO_init_36 : decode (mB M_MO_init) 36 = .ok (.aload_n 0, 1) := by decide +kernel
theorem d_MO_init_37 : decode (mB M_MO_init) 37 = .ok (.bipush 48, 2) := by decide +kernel
theorem d_MO_init_39 : decode (mB M_MO_init) 39 = .ok (.newarray .int, 2) := by decide +kernel
theorem d_MO_init_41 : decode (mB M_MO_init) 41 = .ok (.putfield 22, 3) := by decide +kernel
theorem d_MO_init_44 : decode (mB M_MO_init) 44 = .ok (.aload_n 0, 1) := by decide +kernel
theorem d_MO_init_45 : decode (mB M_MO_init) 45 = .ok (.bipush 48, 2) := by decide +kernel
theorem d_MO_init_47 : decode (mB M_MO_init) 47 = .ok (.newarray .int, 2) := by decide +kernel
theorem d_MO_init_49 : decode (mB M_MO_init) 49 = .ok (.putfield 25, 3) := by decide +kernel
theorem d_MO_init_52 : decode (mB M_MO_init) 52 = .ok (.aload_n 0, 1) := by decide +kernel
theorem d_MO_init_53 : decode (mB M_MO_init) 53 = .ok (.bipush 48, 2) := by decide +kernel
theorem d_MO_init_55 : decode (mB M_MO_init) 55 = .ok (.newarray .int, 2) := by decide +kernel
theorem d_MO_init_57 : decode (mB M_MO_init) 57 = .ok (.putfield 28, 3) := by decide +kernel
theorem d_MO_init_60 : decode (mB M_MO_init) 60 = .ok (.aload_n 0, 1) := by decide +kernel
theorem d_MO_init_61 : decode (mB M_MO_init) 61 = .ok (.bipush 48, 2) := by decide +kernel
theorem d_MO_init_63 : decode (mB M_MO_init) 63 = .ok (.newarray .int, 2) := by decide +kernel
theorem d_MO_init_65 : decode (mB M_MO_init) 65 = .ok (.putfield 31, 3) := by decide +kernel
theorem d_MO_init_68 : decode (mB M_MO_init) 68 = .ok (.aload_n 0, 1) := by decide +kernel
theorem d_MO_init_69 : decode (mB M_MO_init) 69 = .ok (.bipush 48, 2) := by decide +kernel
theorem d_MO_init_71 : decode (mB M_MO_init) 71 = .ok (.newarray .int, 2) := by decide +kernel
theorem d_MO_init_73 : decode (mB M_MO_init) 73 = .ok (.putfield 34, 3) := by decide +kernel
theorem d_MO_init_76 : decode (mB M_MO_init) 76 = .ok (.aload_n 0, 1) := by decide +kernel
theorem d_MO_init_77 : decode (mB M_MO_init) 77 = .ok (.bipush 48, 2) := by decide +kernel
theorem d_MO_init_79 : decode (mB M_MO_init) 79 = .ok (.newarray .int, 2) := by decide +kernel
theorem d_MO_init_81 : decode (mB M_MO_init) 81 = .ok (.putfield 37, 3) := by decide +kernel
theorem d_MO_init_84 : decode (mB M_MO_init) 84 = .ok (.aload_n 0, 1) := by decide +kernel
theorem d_MO_init_85 : decode (mB M_MO_init) 85 = .ok (.bipush 48, 2) := by decide +kernel
theorem d_MO_init_87 : decode (mB M_MO_init) 87 = .ok (.newarray .int, 2) := by decide +kernel
theorem d_MO_init_89 : decode (mB M_MO_init) 89 = .ok (.putfield 40, 3) := by decide +kernel
theorem d_MO_init_92 : decode (mB M_MO_init) 92 = .ok (.aload_n 0, 1) := by decide +kernel
theorem d_MO_init_93 : decode (mB M_MO_init) 93 = .ok (.bipush 48, 2) := by decide +kernel
theorem d_MO_init_95 : decode (mB M_MO_init) 95 = .ok (.newarray .int, 2) := by decide +kernel
theorem d_MO_init_97 : decode (mB M_MO_init) 97 = .ok (.putfield 43, 3) := by decide +kernel
theorem d_MO_init_100 : decode (mB M_MO_init) 100 = .ok (.aload_n 0, 1) := by decide +kernel
theorem d_MO_init_101 : decode (mB M_MO_init) 101 = .ok (.bipush 48, 2) := by decide +kernel
theorem d_MO_init_103 : decode (mB M_MO_init) 103 = .ok (.newarray .int, 2) := by decide +kernel
theorem d_MO_init_105 : decode (mB M_MO_init) 105 = .ok (.putfield 46, 3) := by decide +kernel
theorem d_MO_init_108 : decode (mB M_MO_init) 108 = .ok (.aload_n 0, 1) := by decide +kernel
theorem d_MO_init_109 : decode (mB M_MO_init) 109 = .ok (.bipush 48, 2) := by decide +kernel
theorem d_MO_init_111 : decode (mB M_MO_init) 111 = .ok (.newarray .int, 2) := by decide +kernel
theorem d_MO_init_113 : decode (mB M_MO_init) 113 = .ok (.putfield 49, 3) := by decide +kernel
theorem d_MO_init_116 : decode (mB M_MO_init) 116 = .ok (.aload_n 0, 1) := by decide +kernel
theorem d_MO_init_117 : decode (mB M_MO_init) 117 = .ok (.bipush 10, 2) := by decide +kernel
theorem d_MO_init_119 : decode (mB M_MO_init) 119 = .ok (.newarray .int, 2) := by decide +kernel
theorem d_MO_init_121 : decode (mB M_MO_init) 121 = .ok (.putfield 52, 3) := by decide +kernel
theorem d_MO_init_124 : decode (mB M_MO_init) 124 = .ok (.aload_n 0, 1) := by decide +kernel
theorem d_MO_init_125 : decode (mB M_MO_init) 125 = .ok (.bipush 10, 2) := by decide +kernel
theorem d_MO_init_127 : decode (mB M_MO_init) 127 = .ok (.newarray .int, 2) := by decide +kernel
theorem d_MO_init_129 : decode (mB M_MO_init) 129 = .ok (.putfield 55, 3) := by decide +kernel
theorem d_MO_init_132 : decode (mB M_MO_init) 132 = .ok (.aload_n 0, 1) := by decide +kernel
theorem d_MO_init_133 : decode (mB M_MO_init) 133 = .ok (.bipush 10, 2) := by decide +kernel
theorem d_MO_init_135 : decode (mB M_MO_init) 135 = .ok (.newarray .int, 2) := by decide +kernel
theorem d_MO_init_137 : decode (mB M_MO_init) 137 = .ok (.putfield 58, 3) := by decide +kernel
theorem d_MO_init_140 : decode (mB M_MO_init) 140 = .ok (.aload_n 0, 1) := by decide +kernel
theorem d_MO_init_141 : decode (mB M_MO_init) 141 = .ok (.bipush 10, 2) := by decide +kernel
theorem d_MO_init_143 : decode (mB M_MO_init) 143 = .ok (.newarray .int, 2) := by decide +kernel
theorem d_MO_init_145 : decode (mB M_MO_init) 145 = .ok (.putfield 61, 3) := by decide +kernel
theorem d_MO_init_148 : decode (mB M_MO_init) 148 = .ok (.aload_n 0, 1) := by decide +kernel
theorem d_MO_init_149 : decode (mB M_MO_init) 149 = .ok (.bipush 10, 2) := by decide +kernel
theorem d_MO_init_151 : decode (mB M_MO_init) 151 = .ok (.newarray .int, 2) := by decide +kernel
theorem d_MO_init_153 : decode (mB M_MO_init) 153 = .ok (.putfield 64, 3) := by decide +kernel
theorem d_MO_init_156 : decode (mB M_MO_init) 156 = .ok (.aload_n 0, 1) := by decide +kernel
theorem d_MO_init_157 : decode (mB M_MO_init) 157 = .ok (.sipush 480, 3) := by decide +kernel
theorem d_MO_init_160 : decode (mB M_MO_init) 160 = .ok (.newarray .int, 2) := by decide +kernel
theorem d_MO_init_162 : decode (mB M_MO_init) 162 = .ok (.putfield 67, 3) := by decide +kernel
theorem d_MO_init_165 : decode (mB M_MO_init) 165 = .ok (.iconst 0, 1) := by decide +kernel
theorem d_MO_init_166 : decode (mB M_MO_init) 166 = .ok (.istore_n 1, 1) := by decide +kernel
theorem d_MO_init_167 : decode (mB M_MO_init) 167 = .ok (.iload_n 1, 1) := by decide +kernel
theorem d_MO_init_168 : decode (mB M_MO_init) 168 = .ok (.sipush 480, 3) := by decide +kernel
theorem d_MO_init_171 : decode (mB M_MO_init) 171 = .ok (.if_icmp .ge 16, 3) := by decide +kernel
theorem d_MO_init_174 : decode (mB M_MO_init) 174 = .ok (.aload_n 0, 1) := by decide +kernel
theorem d_MO_init_175 : decode (mB M_MO_init) 175 = .ok (.getfield 67, 3) := by decide +kernel
theorem d_MO_init_178 : decode (mB M_MO_init) 178 = .ok (.iload_n 1, 1) := by decide +kernel
theorem d_MO_init_179 : decode (mB M_MO_init) 179 = .ok (.iconst (-1), 1) := by decide +kernel
theorem d_MO_init_180 : decode (mB M_MO_init) 180 = .ok (.iastore, 1) := by decide +kernel
theorem d_MO_init_181 : decode (mB M_MO_init) 181 = .ok (.iinc 1 1, 3) := by decide +kernel
theorem d_MO_init_184 : decode (mB M_MO_init) 184 = .ok (.goto (-17), 3) := by decide +kernel
theorem d_MO_init_187 : decode (mB M_MO_init) 187 = .ok (.return_, 1) := by decide +kernel
theorem d_MO_thrown_0 : decode (mB M_MO_thrown) 0 = .ok (.aload_n 0, 1) := by decide +kernel
theorem d_MO_thrown_1 : decode (mB M_MO_thrown) 1 = .ok (.getfield 70, 3) := by decide +kernel
theorem d_MO_thrown_4 : decode (mB M_MO_thrown) 4 = .ok (.ireturn, 1) := by decide +kernel
theorem d_MO_refused_0 : decode (mB M_MO_refused) 0 = .ok (.aload_n 0, 1) := by decide +kernel
theorem d_MO_refused_1 : decode (mB M_MO_refused) 1 = .ok (.iload_n 1, 1) := by decide +kernel
theorem d_MO_refused_2 : decode (mB M_MO_refused) 2 = .ok (.ifCond .eq 7, 3) := by decide +kernel
theorem d_MO_refused_5 : decode (mB M_MO_refused) 5 = .ok (.iconst 1, 1) := by decide +kernel
theorem d_MO_refused_6 : decode (mB M_MO_refused) 6 = .ok (.goto 29, 3) := by decide +kernel
theorem d_MO_refused_9 : decode (mB M_MO_refused) 9 = .ok (.iload_n 2, 1) := by decide +kernel
theorem d_MO_refused_10 : decode (mB M_MO_refused) 10 = .ok (.ifCond .eq 7, 3) := by decide +kernel
theorem d_MO_refused_13 : decode (mB M_MO_refused) 13 = .ok (.iconst 2, 1) := by decide +kernel
theorem d_MO_refused_14 : decode (mB M_MO_refused) 14 = .ok (.goto 21, 3) := by decide +kernel
theorem d_MO_refused_17 : decode (mB M_MO_refused) 17 = .ok (.iload_n 3, 1) := by decide +kernel
theorem d_MO_refused_18 : decode (mB M_MO_refused) 18 = .ok (.ifCond .eq 7, 3) := by decide +kernel
theorem d_MO_refused_21 : decode (mB M_MO_refused) 21 = .ok (.iconst 3, 1) := by decide +kernel
theorem d_MO_refused_22 : decode (mB M_MO_refused) 22 = .ok (.goto 13, 3) := by decide +kernel
theorem d_MO_refused_25 : decode (mB M_MO_refused) 25 = .ok (.iload 4, 2) := by decide +kernel
theorem d_MO_refused_27 : decode (mB M_MO_refused) 27 = .ok (.ifCond .eq 7, 3) := by decide +kernel
theorem d_MO_refused_30 : decode (mB M_MO_refused) 30 = .ok (.iconst 4, 1) := by decide +kernel
theorem d_MO_refused_31 : decode (mB M_MO_refused) 31 = .ok (.goto 4, 3) := by decide +kernel
theorem d_MO_refused_34 : decode (mB M_MO_refused) 34 = .ok (.iconst 0, 1) := by decide +kernel
theorem d_MO_refused_35 : decode (mB M_MO_refused) 35 = .ok (.putfield 70, 3) := by decide +kernel
theorem d_MO_refused_38 : decode (mB M_MO_refused) 38 = .ok (.aload_n 0, 1) := by decide +kernel
theorem d_MO_refused_39 : decode (mB M_MO_refused) 39 = .ok (.getfield 70, 3) := by decide +kernel
theorem d_MO_refused_42 : decode (mB M_MO_refused) 42 = .ok (.ifCond .le 7, 3) := by decide +kernel
theorem d_MO_refused_45 : decode (mB M_MO_refused) 45 = .ok (.iconst 1, 1) := by decide +kernel
theorem d_MO_refused_46 : decode (mB M_MO_refused) 46 = .ok (.goto 4, 3) := by decide +kernel
theorem d_MO_refused_49 : decode (mB M_MO_refused) 49 = .ok (.iconst 0, 1) := by decide +kernel
theorem d_MO_refused_50 : decode (mB M_MO_refused) 50 = .ok (.ireturn, 1) := by decide +kernel
theorem d_MO_in_0 : decode (mB M_MO_in) 0 = .ok (.iload_n 0, 1) := by decide +kernel
theorem d_MO_in_1 : decode (mB M_MO_in) 1 = .ok (.iload_n 1, 1) := by decide +kernel
theorem d_MO_in_2 : decode (mB M_MO_in) 2 = .ok (.if_icmp .lt 12, 3) := by decide +kernel
theorem d_MO_in_5 : decode (mB M_MO_in) 5 = .ok (.iload_n 0, 1) := by decide +kernel
theorem d_MO_in_6 : decode (mB M_MO_in) 6 = .ok (.iload_n 2, 1) := by decide +kernel
theorem d_MO_in_7 : decode (mB M_MO_in) 7 = .ok (.if_icmp .gt 7, 3) := by decide +kernel
theorem d_MO_in_10 : decode (mB M_MO_in) 10 = .ok (.iconst 1, 1) := by decide +kernel
theorem d_MO_in_11 : decode (mB M_MO_in) 11 = .ok (.goto 4, 3) := by decide +kernel
theorem d_MO_in_14 : decode (mB M_MO_in) 14 = .ok (.iconst 0, 1) := by decide +kernel
theorem d_MO_in_15 : decode (mB M_MO_in) 15 = .ok (.ireturn, 1) := by decide +kernel
theorem d_MO_isUnit_0 : decode (mB M_MO_isUnit) 0 = .ok (.iload_n 1, 1) := by decide +kernel
theorem d_MO_isUnit_1 : decode (mB M_MO_isUnit) 1 = .ok (.iconst 0, 1) := by decide +kernel
theorem d_MO_isUnit_2 : decode (mB M_MO_isUnit) 2 = .ok (.aload_n 0, 1) := by decide +kernel
theorem d_MO_isUnit_3 : decode (mB M_MO_isUnit) 3 = .ok (.getfield 74, 3) := by decide +kernel
theorem d_MO_isUnit_6 : decode (mB M_MO_isUnit) 6 = .ok (.iconst 1, 1) := by decide +kernel
theorem d_MO_isUnit_7 : decode (mB M_MO_isUnit) 7 = .ok (.isub, 1) := by decide +kernel
theorem d_MO_isUnit_8 : decode (mB M_MO_isUnit) 8 = .ok (.invokestatic 77, 3) := by decide +kernel
theorem d_MO_isUnit_11 : decode (mB M_MO_isUnit) 11 = .ok (.ireturn, 1) := by decide +kernel
theorem d_MO_isPatient_0 : decode (mB M_MO_isPatient) 0 = .ok (.iload_n 1, 1) := by decide +kernel
theorem d_MO_isPatient_1 : decode (mB M_MO_isPatient) 1 = .ok (.iconst 0, 1) := by decide +kernel
theorem d_MO_isPatient_2 : decode (mB M_MO_isPatient) 2 = .ok (.aload_n 0, 1) := by decide +kernel
theorem d_MO_isPatient_3 : decode (mB M_MO_isPatient) 3 = .ok (.getfield 81, 3) := by decide +kernel
theorem d_MO_isPatient_6 : decode (mB M_MO_isPatient) 6 = .ok (.iconst 1, 1) := by decide +kernel
theorem d_MO_isPatient_7 : decode (mB M_MO_isPatient) 7 = .ok (.isub, 1) := by decide +kernel
theorem d_MO_isPatient_8 : decode (mB M_MO_isPatient) 8 = .ok (.invokestatic 77, 3) := by decide +kernel
theorem d_MO_isPatient_11 : decode (mB M_MO_isPatient) 11 = .ok (.ireturn, 1) := by decide +kernel
theorem d_MO_pass_0 : decode (mB M_MO_pass) 0 = .ok (.aload_n 0, 1) := by decide +kernel
theorem d_MO_pass_1 : decode (mB M_MO_pass) 1 = .ok (.iload_n 1, 1) := by decide +kernel
theorem d_MO_pass_2 : decode (mB M_MO_pass) 2 = .ok (.iconst 0, 1) := by decide +kernel
theorem d_MO_pass_3 : decode (mB M_MO_pass) 3 = .ok (.ldc 84, 2) := by decide +kernel
theorem d_MO_pass_5 : decode (mB M_MO_pass) 5 = .ok (.invokestatic 77, 3) := by decide +kernel
theorem d_MO_pass_8 : decode (mB M_MO_pass) 8 = .ok (.ifCond .ne 7, 3) := by decide +kernel
theorem d_MO_pass_11 : decode (mB M_MO_pass) 11 = .ok (.iconst 1, 1) := by decide +kernel
theorem d_MO_pass_12 : decode (mB M_MO_pass) 12 = .ok (.goto 4, 3) := by decide +kernel
theorem d_MO_pass_15 : decode (mB M_MO_pass) 15 = .ok (.iconst 0, 1) := by decide +kernel
theorem d_MO_pass_16 : decode (mB M_MO_pass) 16 = .ok (.iconst 0, 1) := by decide +kernel
theorem d_MO_pass_17 : decode (mB M_MO_pass) 17 = .ok (.iconst 0, 1) := by decide +kernel
theorem d_MO_pass_18 : decode (mB M_MO_pass) 18 = .ok (.iconst 0, 1) := by decide +kernel
theorem d_MO_pass_19 : decode (mB M_MO_pass) 19 = .ok (.invokevirtual 85, 3) := by decide +kernel
theorem d_MO_pass_22 : decode (mB M_MO_pass) 22 = .ok (.ifCond .eq 5, 3) := by decide +kernel
theorem d_MO_pass_25 : decode (mB M_MO_pass) 25 = .ok (.iconst 0, 1) := by decide +kernel
theorem d_MO_pass_26 : decode (mB M_MO_pass) 26 = .ok (.ireturn, 1) := by decide +kernel
theorem d_MO_pass_27 : decode (mB M_MO_pass) 27 = .ok (.aload_n 0, 1) := by decide +kernel
theorem d_MO_pass_28 : decode (mB M_MO_pass) 28 = .ok (.aload_n 0, 1) := by decide +kernel
theorem d_MO_pass_29 : decode (mB M_MO_pass) 29 = .ok (.getfield 89, 3) := by decide +kernel
theorem d_MO_pass_32 : decode (mB M_MO_pass) 32 = .ok (.iload_n 1, 1) := by decide +kernel
theorem d_MO_pass_33 : decode (mB M_MO_pass) 33 = .ok (.iadd, 1) := by decide +kernel
theorem d_MO_pass_34 : decode (mB M_MO_pass) 34 = .ok (.putfield 89, 3) := by decide +kernel
theorem d_MO_pass_37 : decode (mB M_MO_pass) 37 = .ok (.aload_n 0, 1) := by decide +kernel
theorem d_MO_pass_38 : decode (mB M_MO_pass) 38 = .ok (.getfield 89, 3) := by decide +kernel
theorem d_MO_pass_41 : decode (mB M_MO_pass) 41 = .ok (.ireturn, 1) := by decide +kernel
theorem d_MO_stateOf_0 : decode (mB M_MO_stateOf) 0 = .ok (.aload_n 0, 1) := by decide +kernel
theorem d_MO_stateOf_1 : decode (mB M_MO_stateOf) 1 = .ok (.getfield 34, 3) := by decide +kernel
theorem d_MO_stateOf_4 : decode (mB M_MO_stateOf) 4 = .ok (.iload_n 1, 1) := by decide +kernel
theorem d_MO_stateOf_5 : decode (mB M_MO_stateOf) 5 = .ok (.iaload, 1) := by decide +kernel
theorem d_MO_stateOf_6 : decode (mB M_MO_stateOf) 6 = .ok (.iconst 1, 1) := by decide +kernel
theorem d_MO_stateOf_7 : decode (mB M_MO_stateOf) 7 = .ok (.if_icmp .ne 24, 3) := by decide +kernel
theorem d_MO_stateOf_10 : decode (mB M_MO_stateOf) 10 = .ok (.aload_n 0, 1) := by decide +kernel
theorem d_MO_stateOf_11 : decode (mB M_MO_stateOf) 11 = .ok (.getfield 89, 3) := by decide +kernel
theorem d_MO_stateOf_14 : decode (mB M_MO_stateOf) 14 = .ok (.aload_n 0, 1) := by decide +kernel
theorem d_MO_stateOf_15 : decode (mB M_MO_stateOf) 15 = .ok (.getfield 40, 3) := by decide +kernel
theorem d_MO_stateOf_18 : decode (mB M_MO_stateOf) 18 = .ok (.iload_n 1, 1) := by decide +kernel
theorem d_MO_stateOf_19 : decode (mB M_MO_stateOf) 19 = .ok (.iaload, 1) := by decide +kernel
theorem d_MO_stateOf_20 : decode (mB M_MO_stateOf) 20 = .ok (.isub, 1) := by decide +kernel
theorem d_MO_stateOf_21 : decode (mB M_MO_stateOf) 21 = .ok (.sipush 4320, 3) := by decide +kernel
theorem d_MO_stateOf_24 : decode (mB M_MO_stateOf) 24 = .ok (.if_icmp .lt 7, 3) := by decide +kernel
theorem d_MO_stateOf_27 : decode (mB M_MO_stateOf) 27 = .ok (.iconst 0, 1) := by decide +kernel
theorem d_MO_stateOf_28 : decode (mB M_MO_stateOf) 28 = .ok (.goto 9, 3) := by decide +kernel
theorem d_MO_stateOf_31 : decode (mB M_MO_stateOf) 31 = .ok (.aload_n 0, 1) := by decide +kernel
theorem d_MO_stateOf_32 : decode (mB M_MO_stateOf) 32 = .ok (.getfield 34, 3) := by decide +kernel
theorem d_MO_stateOf_35 : decode (mB M_MO_stateOf) 35 = .ok (.iload_n 1, 1) := by decide +kernel
theorem d_MO_stateOf_36 : decode (mB M_MO_stateOf) 36 = .ok (.iaload, 1) := by decide +kernel
theorem d_MO_stateOf_37 : decode (mB M_MO_stateOf) 37 = .ok (.ireturn, 1) := by decide +kernel
theorem d_MO_isExpired_0 : decode (mB M_MO_isExpired) 0 = .ok (.aload_n 0, 1) := by decide +kernel
theorem d_MO_isExpired_1 : decode (mB M_MO_isExpired) 1 = .ok (.getfield 89, 3) := by decide +kernel
theorem d_MO_isExpired_4 : decode (mB M_MO_isExpired) 4 = .ok (.aload_n 0, 1) := by decide +kernel
theorem d_MO_isExpired_5 : decode (mB M_MO_isExpired) 5 = .ok (.getfield 28, 3) := by decide +kernel
theorem d_MO_isExpired_8 : decode (mB M_MO_isExpired) 8 = .ok (.iload_n 1, 1) := by decide +kernel
theorem d_MO_isExpired_9 : decode (mB M_MO_isExpired) 9 = .ok (.iaload, 1) := by decide +kernel
theorem d_MO_isExpired_10 : decode (mB M_MO_isExpired) 10 = .ok (.if_icmp .lt 7, 3) := by decide +kernel
theorem d_MO_isExpired_13 : decode (mB M_MO_isExpired) 13 = .ok (.iconst 1, 1) := by decide +kernel
theorem d_MO_isExpired_14 : decode (mB M_MO_isExpired) 14 = .ok (.goto 4, 3) := by decide +kernel
theorem d_MO_isExpired_17 : decode (mB M_MO_isExpired) 17 = .ok (.iconst 0, 1) := by decide +kernel
theorem d_MO_isExpired_18 : decode (mB M_MO_isExpired) 18 = .ok (.ireturn, 1) := by decide +kernel
theorem d_MO_isBarred_0 : decode (mB M_MO_isBarred) 0 = .ok (.aload_n 0, 1) := by decide +kernel
theorem d_MO_isBarred_1 : decode (mB M_MO_isBarred) 1 = .ok (.getfield 31, 3) := by decide +kernel
theorem d_MO_isBarred_4 : decode (mB M_MO_isBarred) 4 = .ok (.iload_n 1, 1) := by decide +kernel
theorem d_MO_isBarred_5 : decode (mB M_MO_isBarred) 5 = .ok (.iaload, 1) := by decide +kernel
theorem d_MO_isBarred_6 : decode (mB M_MO_isBarred) 6 = .ok (.aload_n 0, 1) := by decide +kernel
theorem d_MO_isBarred_7 : decode (mB M_MO_isBarred) 7 = .ok (.getfield 92, 3) := by decide +kernel
theorem d_MO_isBarred_10 : decode (mB M_MO_isBarred) 10 = .ok (.iand, 1) := by decide +kernel
theorem d_MO_isBarred_11 : decode (mB M_MO_isBarred) 11 = .ok (.ifCond .eq 7, 3) := by decide +kernel
theorem d_MO_isBarred_14 : decode (mB M_MO_isBarred) 14 = .ok (.iconst 1, 1) := by decide +kernel
theorem d_MO_isBarred_15 : decode (mB M_MO_isBarred) 15 = .ok (.goto 4, 3) := by decide +kernel
theorem d_MO_isBarred_18 : decode (mB M_MO_isBarred) 18 = .ok (.iconst 0, 1) := by decide +kernel
theorem d_MO_isBarred_19 : decode (mB M_MO_isBarred) 19 = .ok (.ireturn, 1) := by decide +kernel
theorem d_MO_isReady_0 : decode (mB M_MO_isReady) 0 = .ok (.aload_n 0, 1) := by decide +kernel
theorem d_MO_isReady_1 : decode (mB M_MO_isReady) 1 = .ok (.iload_n 1, 1) := by decide +kernel
theorem d_MO_isReady_2 : decode (mB M_MO_isReady) 2 = .ok (.invokevirtual 95, 3) := by decide +kernel
theorem d_MO_isReady_5 : decode (mB M_MO_isReady) 5 = .ok (.ifCond .ne 23, 3) := by decide +kernel
theorem d_MO_isReady_8 : decode (mB M_MO_isReady) 8 = .ok (.aload_n 0, 1) := by decide +kernel
theorem d_MO_isReady_9 : decode (mB M_MO_isReady) 9 = .ok (.iload_n 1, 1) := by decide +kernel
theorem d_MO_isReady_10 : decode (mB M_MO_isReady) 10 = .ok (.invokevirtual 99, 3) := by decide +kernel
theorem d_MO_isReady_13 : decode (mB M_MO_isReady) 13 = .ok (.ifCond .ne 15, 3) := by decide +kernel
theorem d_MO_isReady_16 : decode (mB M_MO_isReady) 16 = .ok (.aload_n 0, 1) := by decide +kernel
theorem d_MO_isReady_17 : decode (mB M_MO_isReady) 17 = .ok (.iload_n 1, 1) := by decide +kernel
theorem d_MO_isReady_18 : decode (mB M_MO_isReady) 18 = .ok (.invokevirtual 103, 3) := by decide +kernel
theorem d_MO_isReady_21 : decode (mB M_MO_isReady) 21 = .ok (.ifCond .ne 7, 3) := by decide +kernel
theorem d_MO_isReady_24 : decode (mB M_MO_isReady) 24 = .ok (.iconst 1, 1) := by decide +kernel
theorem d_MO_isReady_25 : decode (mB M_MO_isReady) 25 = .ok (.goto 4, 3) := by decide +kernel
theorem d_MO_isReady_28 : decode (mB M_MO_isReady) 28 = .ok (.iconst 0, 1) := by decide +kernel
theorem d_MO_isReady_29 : decode (mB M_MO_isReady) 29 = .ok (.ireturn, 1) := by decide +kernel
theorem d_MO_add_0 : decode (mB M_MO_add) 0 = .ok (.aload_n 0, 1) := by decide +kernel
theorem d_MO_add_1 : decode (mB M_MO_add) 1 = .ok (.getfield 74, 3) := by decide +kernel
theorem d_MO_add_4 : decode (mB M_MO_add) 4 = .ok (.istore 5, 2) := by decide +kernel
theorem d_MO_add_6 : decode (mB M_MO_add) 6 = .ok (.aload_n 0, 1) := by decide +kernel
theorem d_MO_add_7 : decode (mB M_MO_add) 7 = .ok (.dup, 1) := by decide +kernel
theorem d_MO_add_8 : decode (mB M_MO_add) 8 = .ok (.getfield 74, 3) := by decide +kernel
theorem d_MO_add_11 : decode (mB M_MO_add) 11 = .ok (.iconst 1, 1) := by decide +kernel
theorem d_MO_add_12 : decode (mB M_MO_add) 12 = .ok (.iadd, 1) := by decide +kernel
theorem d_MO_add_13 : decode (mB M_MO_add) 13 = .ok (.putfield 74, 3) := by decide +kernel
theorem d_MO_add_16 : decode (mB M_MO_add) 16 = .ok (.aload_n 0, 1) := by decide +kernel
theorem d_MO_add_17 : decode (mB M_MO_add) 17 = .ok (.getfield 7, 3) := by decide +kernel
theorem d_MO_add_20 : decode (mB M_MO_add) 20 = .ok (.iload 5, 2) := by decide +kernel
theorem d_MO_add_22 : decode (mB M_MO_add) 22 = .ok (.iload_n 2, 1) := by decide +kernel
theorem d_MO_add_23 : decode (mB M_MO_add) 23 = .ok (.iastore, 1) := by decide +kernel
theorem d_MO_add_24 : decode (mB M_MO_add) 24 = .ok (.aload_n 0, 1) := by decide +kernel
theorem d_MO_add_25 : decode (mB M_MO_add) 25 = .ok (.getfield 13, 3) := by decide +kernel
theorem d_MO_add_28 : decode (mB M_MO_add) 28 = .ok (.iload 5, 2) := by decide +kernel
theorem d_MO_add_30 : decode (mB M_MO_add) 30 = .ok (.aload_n 0, 1) := by decide +kernel
theorem d_MO_add_31 : decode (mB M_MO_add) 31 = .ok (.getfield 13, 3) := by decide +kernel
theorem d_MO_add_34 : decode (mB M_MO_add) 34 = .ok (.iload_n 1, 1) := by decide +kernel
theorem d_MO_add_35 : decode (mB M_MO_add) 35 = .ok (.iaload, 1) := by decide +kernel
theorem d_MO_add_36 : decode (mB M_MO_add) 36 = .ok (.iastore, 1) := by decide +kernel
theorem d_MO_add_37 : decode (mB M_MO_add) 37 = .ok (.aload_n 0, 1) := by decide +kernel
theorem d_MO_add_38 : decode (mB M_MO_add) 38 = .ok (.getfield 16, 3) := by decide +kernel
theorem d_MO_add_41 : decode (mB M_MO_add) 41 = .ok (.iload 5, 2) := by decide +kernel
theorem d_MO_add_43 : decode (mB M_MO_add) 43 = .ok (.aload_n 0, 1) := by decide +kernel
theorem d_MO_add_44 : decode (mB M_MO_add) 44 = .ok (.getfield 16, 3) := by decide +kernel
theorem d_MO_add_47 : decode (mB M_MO_add) 47 = .ok (.iload_n 1, 1) := by decide +kernel
theorem d_MO_add_48 : decode (mB M_MO_add) 48 = .ok (.iaload, 1) := by decide +kernel
theorem d_MO_add_49 : decode (mB M_MO_add) 49 = .ok (.iastore, 1) := by decide +kernel
theorem d_MO_add_50 : decode (mB M_MO_add) 50 = .ok (.aload_n 0, 1) := by decide +kernel
theorem d_MO_add_51 : decode (mB M_MO_add) 51 = .ok (.getfield 19, 3) := by decide +kernel
theorem d_MO_add_54 : decode (mB M_MO_add) 54 = .ok (.iload 5, 2) := by decide +kernel
theorem d_MO_add_56 : decode (mB M_MO_add) 56 = .ok (.aload_n 0, 1) := by decide +kernel
theorem d_MO_add_57 : decode (mB M_MO_add) 57 = .ok (.getfield 19, 3) := by decide +kernel
theorem d_MO_add_60 : decode (mB M_MO_add) 60 = .ok (.iload_n 1, 1) := by decide +kernel
theorem d_MO_add_61 : decode (mB M_MO_add) 61 = .ok (.iaload, 1) := by decide +kernel
theorem d_MO_add_62 : decode (mB M_MO_add) 62 = .ok (.iastore, 1) := by decide +kernel
theorem d_MO_add_63 : decode (mB M_MO_add) 63 = .ok (.aload_n 0, 1) := by decide +kernel
theorem d_MO_add_64 : decode (mB M_MO_add) 64 = .ok (.getfield 22, 3) := by decide +kernel
theorem d_MO_add_67 : decode (mB M_MO_add) 67 = .ok (.iload 5, 2) := by decide +kernel
theorem d_MO_add_69 : decode (mB M_MO_add) 69 = .ok (.aload_n 0, 1) := by decide +kernel
theorem d_MO_add_70 : decode (mB M_MO_add) 70 = .ok (.getfield 22, 3) := by decide +kernel
theorem d_MO_add_73 : decode (mB M_MO_add) 73 = .ok (.iload_n 1, 1) := by decide +kernel
theorem d_MO_add_74 : decode (mB M_MO_add) 74 = .ok (.iaload, 1) := by decide +kernel
theorem d_MO_add_75 : decode (mB M_MO_add) 75 = .ok (.iastore, 1) := by decide +kernel
theorem d_MO_add_76 : decode (mB M_MO_add) 76 = .ok (.aload_n 0, 1) := by decide +kernel
theorem d_MO_add_77 : decode (mB M_MO_add) 77 = .ok (.getfield 25, 3) := by decide +kernel
theorem d_MO_add_80 : decode (mB M_MO_add) 80 = .ok (.iload 5, 2) := by decide +kernel
theorem d_MO_add_82 : decode (mB M_MO_add) 82 = .ok (.aload_n 0, 1) := by decide +kernel
theorem d_MO_add_83 : decode (mB M_MO_add) 83 = .ok (.getfield 25, 3) := by decide +kernel
theorem d_MO_add_86 : decode (mB M_MO_add) 86 = .ok (.iload_n 1, 1) := by decide +kernel
theorem d_MO_add_87 : decode (mB M_MO_add) 87 = .ok (.iaload, 1) := by decide +kernel
theorem d_MO_add_88 : decode (mB M_MO_add) 88 = .ok (.iload_n 3, 1) := by decide +kernel
theorem d_MO_add_89 : decode (mB M_MO_add) 89 = .ok (.ior, 1) := by decide +kernel
theorem d_MO_add_90 : decode (mB M_MO_add) 90 = .ok (.iastore, 1) := by decide +kernel
theorem d_MO_add_91 : decode (mB M_MO_add) 91 = .ok (.aload_n 0, 1) := by decide +kernel
theorem d_MO_add_92 : decode (mB M_MO_add) 92 = .ok (.getfield 28, 3) := by decide +kernel
theorem d_MO_add_95 : decode (mB M_MO_add) 95 = .ok (.iload 5, 2) := by decide +kernel
theorem d_MO_add_97 : decode (mB M_MO_add) 97 = .ok (.iload 4, 2) := by decide +kernel
theorem d_MO_add_99 : decode (mB M_MO_add) 99 = .ok (.ifCond .lt 29, 3) := by decide +kernel
theorem d_MO_add_102 : decode (mB M_MO_add) 102 = .ok (.aload_n 0, 1) := by decide +kernel
theorem d_MO_add_103 : decode (mB M_MO_add) 103 = .ok (.getfield 89, 3) := by decide +kernel
theorem d_MO_add_106 : decode (mB M_MO_add) 106 = .ok (.iload 4, 2) := by decide +kernel
theorem d_MO_add_108 : decode (mB M_MO_add) 108 = .ok (.iadd, 1) := by decide +kernel
theorem d_MO_add_109 : decode (mB M_MO_add) 109 = .ok (.aload_n 0, 1) := by decide +kernel
theorem d_MO_add_110 : decode (mB M_MO_add) 110 = .ok (.getfield 28, 3) := by decide +kernel
theorem d_MO_add_113 : decode (mB M_MO_add) 113 = .ok (.iload_n 1, 1) := by decide +kernel
theorem d_MO_add_114 : decode (mB M_MO_add) 114 = .ok (.iaload, 1) := by decide +kernel
theorem d_MO_add_115 : decode (mB M_MO_add) 115 = .ok (.if_icmp .ge 13, 3) := by decide +kernel
theorem d_MO_add_118 : decode (mB M_MO_add) 118 = .ok (.aload_n 0, 1) := by decide +kernel
theorem d_MO_add_119 : decode (mB M_MO_add) 119 = .ok (.getfield 89, 3) := by decide +kernel
theorem d_MO_add_122 : decode (mB M_MO_add) 122 = .ok (.iload 4, 2) := by decide +kernel
theorem d_MO_add_124 : decode (mB M_MO_add) 124 = .ok (.iadd, 1) := by decide +kernel
theorem d_MO_add_125 : decode (mB M_MO_add) 125 = .ok (.goto 9, 3) := by decide +kernel
theorem d_MO_add_128 : decode (mB M_MO_add) 128 = .ok (.aload_n 0, 1) := by decide +kernel
theorem d_MO_add_129 : decode (mB M_MO_add) 129 = .ok (.getfield 28, 3) := by decide +kernel
theorem d_MO_add_132 : decode (mB M_MO_add) 132 = .ok (.iload_n 1, 1) := by decide +kernel
theorem d_MO_add_133 : decode (mB M_MO_add) 133 = .ok (.iaload, 1) := by decide +kernel
theorem d_MO_add_134 : decode (mB M_MO_add) 134 = .ok (.iastore, 1) := by decide +kernel
theorem d_MO_add_135 : decode (mB M_MO_add) 135 = .ok (.aload_n 0, 1) := by decide +kernel
theorem d_MO_add_136 : decode (mB M_MO_add) 136 = .ok (.getfield 31, 3) := by decide +kernel
theorem d_MO_add_139 : decode (mB M_MO_add) 139 = .ok (.iload 5, 2) := by decide +kernel
theorem d_MO_add_141 : decode (mB M_MO_add) 141 = .ok (.aload_n 0, 1) := by decide +kernel
theorem d_MO_add_142 : decode (mB M_MO_add) 142 = .ok (.getfield 31, 3) := by decide +kernel
theorem d_MO_add_145 : decode (mB M_MO_add) 145 = .ok (.iload_n 1, 1) := by decide +kernel
theorem d_MO_add_146 : decode (mB M_MO_add) 146 = .ok (.iaload, 1) := by decide +kernel
theorem d_MO_add_147 : decode (mB M_MO_add) 147 = .ok (.iastore, 1) := by decide +kernel
theorem d_MO_add_148 : decode (mB M_MO_add) 148 = .ok (.aload_n 0, 1) := by decide +kernel
theorem d_MO_add_149 : decode (mB M_MO_add) 149 = .ok (.getfield 34, 3) := by decide +kernel
theorem d_MO_add_152 : decode (mB M_MO_add) 152 = .ok (.iload 5, 2) := by decide +kernel
theorem d_MO_add_154 : decode (mB M_MO_add) 154 = .ok (.iconst 0, 1) := by decide +kernel
theorem d_MO_add_155 : decode (mB M_MO_add) 155 = .ok (.iastore, 1) := by decide +kernel
theorem d_MO_add_156 : decode (mB M_MO_add) 156 = .ok (.aload_n 0, 1) := by decide +kernel
theorem d_MO_add_157 : decode (mB M_MO_add) 157 = .ok (.getfield 37, 3) := by decide +kernel
theorem d_MO_add_160 : decode (mB M_MO_add) 160 = .ok (.iload 5, 2) := by decide +kernel
theorem d_MO_add_162 : decode (mB M_MO_add) 162 = .ok (.iconst (-1), 1) := by decide +kernel
theorem d_MO_add_163 : decode (mB M_MO_add) 163 = .ok (.iastore, 1) := by decide +kernel
theorem d_MO_add_164 : decode (mB M_MO_add) 164 = .ok (.aload_n 0, 1) := by decide +kernel
theorem d_MO_add_165 : decode (mB M_MO_add) 165 = .ok (.getfield 43, 3) := by decide +kernel
theorem d_MO_add_168 : decode (mB M_MO_add) 168 = .ok (.iload 5, 2) := by decide +kernel
theorem d_MO_add_170 : decode (mB M_MO_add) 170 = .ok (.iconst 0, 1) := by decide +kernel
theorem d_MO_add_171 : decode (mB M_MO_add) 171 = .ok (.iastore, 1) := by decide +kernel
theorem d_MO_add_172 : decode (mB M_MO_add) 172 = .ok (.aload_n 0, 1) := by decide +kernel
theorem d_MO_add_173 : decode (mB M_MO_add) 173 = .ok (.getfield 46, 3) := by decide +kernel
theorem d_MO_add_176 : decode (mB M_MO_add) 176 = .ok (.iload 5, 2) := by decide +kernel
theorem d_MO_add_178 : decode (mB M_MO_add) 178 = .ok (.iconst 0, 1) := by decide +kernel
theorem d_MO_add_179 : decode (mB M_MO_add) 179 = .ok (.iastore, 1) := by decide +kernel
theorem d_MO_add_180 : decode (mB M_MO_add) 180 = .ok (.aload_n 0, 1) := by decide +kernel
theorem d_MO_add_181 : decode (mB M_MO_add) 181 = .ok (.getfield 49, 3) := by decide +kernel
theorem d_MO_add_184 : decode (mB M_MO_add) 184 = .ok (.iload 5, 2) := by decide +kernel
theorem d_MO_add_186 : decode (mB M_MO_add) 186 = .ok (.iconst 0, 1) := by decide +kernel
theorem d_MO_add_187 : decode (mB M_MO_add) 187 = .ok (.iastore, 1) := by decide +kernel
theorem d_MO_add_188 : decode (mB M_MO_add) 188 = .ok (.iload 5, 2) := by decide +kernel
theorem d_MO_add_190 : decode (mB M_MO_add) 190 = .ok (.ireturn, 1) := by decide +kernel
theorem d_MO_unit_0 : decode (mB M_MO_unit) 0 = .ok (.iload_n 1, 1) := by decide +kernel
theorem d_MO_unit_1 : decode (mB M_MO_unit) 1 = .ok (.iconst 0, 1) := by decide +kernel
theorem d_MO_unit_2 : decode (mB M_MO_unit) 2 = .ok (.bipush 15, 2) := by decide +kernel
theorem d_MO_unit_4 : decode (mB M_MO_unit) 4 = .ok (.invokestatic 77, 3) := by decide +kernel
theorem d_MO_unit_7 : decode (mB M_MO_unit) 7 = .ok (.ifCond .eq 42, 3) := by decide +kernel
theorem d_MO_unit_10 : decode (mB M_MO_unit) 10 = .ok (.iload_n 2, 1) := by decide +kernel
theorem d_MO_unit_11 : decode (mB M_MO_unit) 11 = .ok (.iconst 0, 1) := by decide +kernel
theorem d_MO_unit_12 : decode (mB M_MO_unit) 12 = .ok (.iconst 3, 1) := by decide +kernel
theorem d_MO_unit_13 : decode (mB M_MO_unit) 13 = .ok (.invokestatic 77, 3) := by decide +kernel
theorem d_MO_unit_16 : decode (mB M_MO_unit) 16 = .ok (.ifCond .eq 33, 3) := by decide +kernel
theorem d_MO_unit_19 : decode (mB M_MO_unit) 19 = .ok (.iload_n 3, 1) := by decide +kernel
theorem d_MO_unit_20 : decode (mB M_MO_unit) 20 = .ok (.iconst 0, 1) := by decide +kernel
theorem d_MO_unit_21 : decode (mB M_MO_unit) 21 = .ok (.iconst 3, 1) := by decide +kernel
theorem d_MO_unit_22 : decode (mB M_MO_unit) 22 = .ok (.invokestatic 77, 3) := by decide +kernel
theorem d_MO_unit_25 : decode (mB M_MO_unit) 25 = .ok (.ifCond .eq 24, 3) := by decide +kernel
theorem d_MO_unit_28 : decode (mB M_MO_unit) 28 = .ok (.iload 4, 2) := by decide +kernel
theorem d_MO_unit_30 : decode (mB M_MO_unit) 30 = .ok (.iconst 0, 1) := by decide +kernel
theorem d_MO_unit_31 : decode (mB M_MO_unit) 31 = .ok (.iconst 1, 1) := by decide +kernel
theorem d_MO_unit_32 : decode (mB M_MO_unit) 32 = .ok (.invokestatic 77, 3) := by decide +kernel
theorem d_MO_unit_35 : decode (mB M_MO_unit) 35 = .ok (.ifCond .eq 14, 3) := by decide +kernel
theorem d_MO_unit_38 : decode (mB M_MO_unit) 38 = .ok (.iload 5, 2) := by decide +kernel
theorem d_MO_unit_40 : decode (mB M_MO_unit) 40 = .ok (.iconst 1, 1) := by decide +kernel
theorem d_MO_unit_41 : decode (mB M_MO_unit) 41 = .ok (.ldc 106, 2) := by decide +kernel
theorem d_MO_unit_43 : decode (mB M_MO_unit) 43 = .ok (.invokestatic 77, 3) := by decide +kernel
theorem d_MO_unit_46 : decode (mB M_MO_unit) 46 = .ok (.ifCond .ne 7, 3) := by decide +kernel
theorem d_MO_unit_49 : decode (mB M_MO_unit) 49 = .ok (.iconst 1, 1) := by decide +kernel
theorem d_MO_unit_50 : decode (mB M_MO_unit) 50 = .ok (.goto 4, 3) := by decide +kernel
theorem d_MO_unit_53 : decode (mB M_MO_unit) 53 = .ok (.iconst 0, 1) := by decide +kernel
theorem d_MO_unit_54 : decode (mB M_MO_unit) 54 = .ok (.istore 6, 2) := by decide +kernel
theorem d_MO_unit_56 : decode (mB M_MO_unit) 56 = .ok (.aload_n 0, 1) := by decide +kernel
theorem d_MO_unit_57 : decode (mB M_MO_unit) 57 = .ok (.iload 6, 2) := by decide +kernel
theorem d_MO_unit_59 : decode (mB M_MO_unit) 59 = .ok (.aload_n 0, 1) := by decide +kernel
theorem d_MO_unit_60 : decode (mB M_MO_unit) 60 = .ok (.getfield 74, 3) := by decide +kernel
theorem d_MO_unit_63 : decode (mB M_MO_unit) 63 = .ok (.bipush 48, 2) := by decide +kernel
theorem d_MO_unit_65 : decode (mB M_MO_unit) 65 = .ok (.if_icmp .ne 7, 3) := by decide +kernel
theorem d_MO_unit_68 : decode (mB M_MO_unit) 68 = .ok (.iconst 1, 1) := by decide +kernel
theorem d_MO_unit_69 : decode (mB M_MO_unit) 69 = .ok (.goto 4, 3) := by decide +kernel
theorem d_MO_unit_72 : decode (mB M_MO_unit) 72 = .ok (.iconst 0, 1) := by decide +kernel
theorem d_MO_unit_73 : decode (mB M_MO_unit) 73 = .ok (.iconst 0, 1) := by decide +kernel
theorem d_MO_unit_74 : decode (mB M_MO_unit) 74 = .ok (.iconst 0, 1) := by decide +kernel
theorem d_MO_unit_75 : decode (mB M_MO_unit) 75 = .ok (.invokevirtual 85, 3) := by decide +kernel
theorem d_MO_unit_78 : decode (mB M_MO_unit) 78 = .ok (.ifCond .eq 5, 3) := by decide +kernel
theorem d_MO_unit_81 : decode (mB M_MO_unit) 81 = .ok (.iconst 0, 1) := by decide +kernel
theorem d_MO_unit_82 : decode (mB M_MO_unit) 82 = .ok (.ireturn, 1) := by decide +kernel
theorem d_MO_unit_83 : decode (mB M_MO_unit) 83 = .ok (.aload_n 0, 1) := by decide +kernel
theorem d_MO_unit_84 : decode (mB M_MO_unit) 84 = .ok (.getfield 74, 3) := by decide +kernel
theorem d_MO_unit_87 : decode (mB M_MO_unit) 87 = .ok (.istore 7, 2) := by decide +kernel
theorem d_MO_unit_89 : decode (mB M_MO_unit) 89 = .ok (.aload_n 0, 1) := by decide +kernel
theorem d_MO_unit_90 : decode (mB M_MO_unit) 90 = .ok (.getfield 13, 3) := by decide +kernel
theorem d_MO_unit_93 : decode (mB M_MO_unit) 93 = .ok (.iload 7, 2) := by decide +kernel
theorem d_MO_unit_95 : decode (mB M_MO_unit) 95 = .ok (.iload_n 3, 1) := by decide +kernel
theorem d_MO_unit_96 : decode (mB M_MO_unit) 96 = .ok (.iastore, 1) := by decide +kernel
theorem d_MO_unit_97 : decode (mB M_MO_unit) 97 = .ok (.aload_n 0, 1) := by decide +kernel
theorem d_MO_unit_98 : decode (mB M_MO_unit) 98 = .ok (.getfield 16, 3) := by decide +kernel
theorem d_MO_unit_101 : decode (mB M_MO_unit) 101 = .ok (.iload 7, 2) := by decide +kernel
theorem d_MO_unit_103 : decode (mB M_MO_unit) 103 = .ok (.iload 4, 2) := by decide +kernel
theorem d_MO_unit_105 : decode (mB M_MO_unit) 105 = .ok (.iastore, 1) := by decide +kernel
theorem d_MO_unit_106 : decode (mB M_MO_unit) 106 = .ok (.aload_n 0, 1) := by decide +kernel
theorem d_MO_unit_107 : decode (mB M_MO_unit) 107 = .ok (.getfield 19, 3) := by decide +kernel
theorem d_MO_unit_110 : decode (mB M_MO_unit) 110 = .ok (.iload 7, 2) := by decide +kernel
theorem d_MO_unit_112 : decode (mB M_MO_unit) 112 = .ok (.iconst 0, 1) := by decide +kernel
theorem d_MO_unit_113 : decode (mB M_MO_unit) 113 = .ok (.iastore, 1) := by decide +kernel
theorem d_MO_unit_114 : decode (mB M_MO_unit) 114 = .ok (.aload_n 0, 1) := by decide +kernel
theorem d_MO_unit_115 : decode (mB M_MO_unit) 115 = .ok (.getfield 22, 3) := by decide +kernel
theorem d_MO_unit_118 : decode (mB M_MO_unit) 118 = .ok (.iload 7, 2) := by decide +kernel
theorem d_MO_unit_120 : decode (mB M_MO_unit) 120 = .ok (.iconst 0, 1) := by decide +kernel
theorem d_MO_unit_121 : decode (mB M_MO_unit) 121 = .ok (.iastore, 1) := by decide +kernel
theorem d_MO_unit_122 : decode (mB M_MO_unit) 122 = .ok (.aload_n 0, 1) := by decide +kernel
theorem d_MO_unit_123 : decode (mB M_MO_unit) 123 = .ok (.getfield 25, 3) := by decide +kernel
theorem d_MO_unit_126 : decode (mB M_MO_unit) 126 = .ok (.iload 7, 2) := by decide +kernel
theorem d_MO_unit_128 : decode (mB M_MO_unit) 128 = .ok (.iconst 0, 1) := by decide +kernel
theorem d_MO_unit_129 : decode (mB M_MO_unit) 129 = .ok (.iastore, 1) := by decide +kernel
theorem d_MO_unit_130 : decode (mB M_MO_unit) 130 = .ok (.aload_n 0, 1) := by decide +kernel
theorem d_MO_unit_131 : decode (mB M_MO_unit) 131 = .ok (.getfield 28, 3) := by decide +kernel
theorem d_MO_unit_134 : decode (mB M_MO_unit) 134 = .ok (.iload 7, 2) := by decide +kernel
theorem d_MO_unit_136 : decode (mB M_MO_unit) 136 = .ok (.aload_n 0, 1) := by decide +kernel
theorem d_MO_unit_137 : decode (mB M_MO_unit) 137 = .ok (.getfield 89, 3) := by decide +kernel
theorem d_MO_unit_140 : decode (mB M_MO_unit) 140 = .ok (.iload 5, 2) := by decide +kernel
theorem d_MO_unit_142 : decode (mB M_MO_unit) 142 = .ok (.iadd, 1) := by decide +kernel
theorem d_MO_unit_143 : decode (mB M_MO_unit) 143 = .ok (.iastore, 1) := by decide +kernel
theorem d_MO_unit_144 : decode (mB M_MO_unit) 144 = .ok (.aload_n 0, 1) := by decide +kernel
theorem d_MO_unit_145 : decode (mB M_MO_unit) 145 = .ok (.getfield 31, 3) := by decide +kernel
theorem d_MO_unit_148 : decode (mB M_MO_unit) 148 = .ok (.iload 7, 2) := by decide +kernel
theorem d_MO_unit_150 : decode (mB M_MO_unit) 150 = .ok (.iconst 1, 1) := by decide +kernel
theorem d_MO_unit_151 : decode (mB M_MO_unit) 151 = .ok (.iload_n 1, 1) := by decide +kernel
theorem d_MO_unit_152 : decode (mB M_MO_unit) 152 = .ok (.ishl, 1) := by decide +kernel
theorem d_MO_unit_153 : decode (mB M_MO_unit) 153 = .ok (.iastore, 1) := by decide +kernel
theorem d_MO_unit_154 : decode (mB M_MO_unit) 154 = .ok (.aload_n 0, 1) := by decide +kernel
theorem d_MO_unit_155 : decode (mB M_MO_unit) 155 = .ok (.iload 7, 2) := by decide +kernel
theorem d_MO_unit_157 : decode (mB M_MO_unit) 157 = .ok (.iload_n 2, 1) := by decide +kernel
theorem d_MO_unit_158 : decode (mB M_MO_unit) 158 = .ok (.iconst 0, 1) := by decide +kernel
theorem d_MO_unit_159 : decode (mB M_MO_unit) 159 = .ok (.iconst (-1), 1) := by decide +kernel
theorem d_MO_unit_160 : decode (mB M_MO_unit) 160 = .ok (.invokevirtual 107, 3) := by decide +kernel
theorem d_MO_unit_163 : decode (mB M_MO_unit) 163 = .ok (.ireturn, 1) := by decide +kernel
theorem d_MO_antigen_0 : decode (mB M_MO_antigen) 0 = .ok (.aload_n 0, 1) := by decide +kernel
theorem d_MO_antigen_1 : decode (mB M_MO_antigen) 1 = .ok (.aload_n 0, 1) := by decide +kernel
theorem d_MO_antigen_2 : decode (mB M_MO_antigen) 2 = .ok (.iload_n 1, 1) := by decide +kernel
theorem d_MO_antigen_3 : decode (mB M_MO_antigen) 3 = .ok (.invokevirtual 111, 3) := by decide +kernel
theorem d_MO_antigen_6 : decode (mB M_MO_antigen) 6 = .ok (.ifCond .ne 7, 3) := by decide +kernel
theorem d_MO_antigen_9 : decode (mB M_MO_antigen) 9 = .ok (.iconst 1, 1) := by decide +kernel
theorem d_MO_antigen_10 : decode (mB M_MO_antigen) 10 = .ok (.goto 4, 3) := by decide +kernel
theorem d_MO_antigen_13 : decode (mB M_MO_antigen) 13 = .ok (.iconst 0, 1) := by decide +kernel
theorem d_MO_antigen_14 : decode (mB M_MO_antigen) 14 = .ok (.iload_n 2, 1) := by decide +kernel
theorem d_MO_antigen_15 : decode (mB M_MO_antigen) 15 = .ok (.iconst 0, 1) := by decide +kernel
theorem d_MO_antigen_16 : decode (mB M_MO_antigen) 16 = .ok (.bipush 7, 2) := by decide +kernel
theorem d_MO_antigen_18 : decode (mB M_MO_antigen) 18 = .ok (.invokestatic 77, 3) := by decide +kernel
theorem d_MO_antigen_21 : decode (mB M_MO_antigen) 21 = .ok (.ifCond .eq 12, 3) := by decide +kernel
theorem d_MO_antigen_24 : decode (mB M_MO_antigen) 24 = .ok (.iload_n 3, 1) := by decide +kernel
theorem d_MO_antigen_25 : decode (mB M_MO_antigen) 25 = .ok (.iconst 0, 1) := by decide +kernel
theorem d_MO_antigen_26 : decode (mB M_MO_antigen) 26 = .ok (.iconst 2, 1) := by decide +kernel
theorem d_MO_antigen_27 : decode (mB M_MO_antigen) 27 = .ok (.invokestatic 77, 3) := by decide +kernel
theorem d_MO_antigen_30 : decode (mB M_MO_antigen) 30 = .ok (.ifCond .ne 7, 3) := by decide +kernel
theorem d_MO_antigen_33 : decode (mB M_MO_antigen) 33 = .ok (.iconst 1, 1) := by decide +kernel
theorem d_MO_antigen_34 : decode (mB M_MO_antigen) 34 = .ok (.goto 4, 3) := by decide +kernel
theorem d_MO_antigen_37 : decode (mB M_MO_antigen) 37 = .ok (.iconst 0, 1) := by decide +kernel
theorem d_MO_antigen_38 : decode (mB M_MO_antigen) 38 = .ok (.aload_n 0, 1) := by decide +kernel
theorem d_MO_antigen_39 : decode (mB M_MO_antigen) 39 = .ok (.iload_n 1, 1) := by decide +kernel
theorem d_MO_antigen_40 : decode (mB M_MO_antigen) 40 = .ok (.invokevirtual 111, 3) := by decide +kernel
theorem d_MO_antigen_43 : decode (mB M_MO_antigen) 43 = .ok (.ifCond .eq 15, 3) := by decide +kernel
theorem d_MO_antigen_46 : decode (mB M_MO_antigen) 46 = .ok (.aload_n 0, 1) := by decide +kernel
theorem d_MO_antigen_47 : decode (mB M_MO_antigen) 47 = .ok (.iload_n 1, 1) := by decide +kernel
theorem d_MO_antigen_48 : decode (mB M_MO_antigen) 48 = .ok (.invokevirtual 95, 3) := by decide +kernel
theorem d_MO_antigen_51 : decode (mB M_MO_antigen) 51 = .ok (.ifCond .eq 7, 3) := by decide +kernel
theorem d_MO_antigen_54 : decode (mB M_MO_antigen) 54 = .ok (.iconst 1, 1) := by decide +kernel
theorem d_MO_antigen_55 : decode (mB M_MO_antigen) 55 = .ok (.goto 4, 3) := by decide +kernel
theorem d_MO_antigen_58 : decode (mB M_MO_antigen) 58 = .ok (.iconst 0, 1) := by decide +kernel
theorem d_MO_antigen_59 : decode (mB M_MO_antigen) 59 = .ok (.iconst 0, 1) := by decide +kernel
theorem d_MO_antigen_60 : decode (mB M_MO_antigen) 60 = .ok (.invokevirtual 85, 3) := by decide +kernel
theorem d_MO_antigen_63 : decode (mB M_MO_antigen) 63 = .ok (.ifCond .eq 4, 3) := by decide +kernel
theorem d_MO_antigen_66 : decode (mB M_MO_antigen) 66 = .ok (.return_, 1) := by decide +kernel
theorem d_MO_antigen_67 : decode (mB M_MO_antigen) 67 = .ok (.aload_n 0, 1) := by decide +kernel
theorem d_MO_antigen_68 : decode (mB M_MO_antigen) 68 = .ok (.getfield 19, 3) := by decide +kernel
theorem d_MO_antigen_71 : decode (mB M_MO_antigen) 71 = .ok (.iload_n 1, 1) := by decide +kernel
theorem d_MO_antigen_72 : decode (mB M_MO_antigen) 72 = .ok (.iload_n 3, 1) := by decide +kernel
theorem d_MO_antigen_73 : decode (mB M_MO_antigen) 73 = .ok (.iconst 1, 1) := by decide +kernel
theorem d_MO_antigen_74 : decode (mB M_MO_antigen) 74 = .ok (.if_icmp .ne 16, 3) := by decide +kernel
theorem d_MO_antigen_77 : decode (mB M_MO_antigen) 77 = .ok (.aload_n 0, 1) := by decide +kernel
theorem d_MO_antigen_78 : decode (mB M_MO_antigen) 78 = .ok (.getfield 19, 3) := by decide +kernel
theorem d_MO_antigen_81 : decode (mB M_MO_antigen) 81 = .ok (.iload_n 1, 1) := by decide +kernel
theorem d_MO_antigen_82 : decode (mB M_MO_antigen) 82 = .ok (.iaload, 1) := by decide +kernel
theorem d_MO_antigen_83 : decode (mB M_MO_antigen) 83 = .ok (.iconst 1, 1) := by decide +kernel
theorem d_MO_antigen_84 : decode (mB M_MO_antigen) 84 = .ok (.iload_n 2, 1) := by decide +kernel
theorem d_MO_antigen_85 : decode (mB M_MO_antigen) 85 = .ok (.ishl, 1) := by decide +kernel
theorem d_MO_antigen_86 : decode (mB M_MO_antigen) 86 = .ok (.ior, 1) := by decide +kernel
theorem d_MO_antigen_87 : decode (mB M_MO_antigen) 87 = .ok (.goto 15, 3) := by decide +kernel
theorem d_MO_antigen_90 : decode (mB M_MO_antigen) 90 = .ok (.aload_n 0, 1) := by decide +kernel
theorem d_MO_antigen_91 : decode (mB M_MO_antigen) 91 = .ok (.getfield 19, 3) := by decide +kernel
theorem d_MO_antigen_94 : decode (mB M_MO_antigen) 94 = .ok (.iload_n 1, 1) := by decide +kernel
theorem d_MO_antigen_95 : decode (mB M_MO_antigen) 95 = .ok (.iaload, 1) := by decide +kernel
theorem d_MO_antigen_96 : decode (mB M_MO_antigen) 96 = .ok (.iconst 1, 1) := by decide +kernel
theorem d_MO_antigen_97 : decode (mB M_MO_antigen) 97 = .ok (.iload_n 2, 1) := by decide +kernel
theorem d_MO_antigen_98 : decode (mB M_MO_antigen) 98 = .ok (.ishl, 1) := by decide +kernel
theorem d_MO_antigen_99 : decode (mB M_MO_antigen) 99 = .ok (.iconst (-1), 1) := by decide +kernel
theorem d_MO_antigen_100 : decode (mB M_MO_antigen) 100 = .ok (.ixor, 1) := by decide +kernel
theorem d_MO_antigen_101 : decode (mB M_MO_antigen) 101 = .ok (.iand, 1) := by decide +kernel
theorem d_MO_antigen_102 : decode (mB M_MO_antigen) 102 = .ok (.iastore, 1) := by decide +kernel
theorem d_MO_antigen_103 : decode (mB M_MO_antigen) 103 = .ok (.aload_n 0, 1) := by decide +kernel
theorem d_MO_antigen_104 : decode (mB M_MO_antigen) 104 = .ok (.getfield 22, 3) := by decide +kernel
theorem d_MO_antigen_107 : decode (mB M_MO_antigen) 107 = .ok (.iload_n 1, 1) := by decide +kernel
theorem d_MO_antigen_108 : decode (mB M_MO_antigen) 108 = .ok (.iload_n 3, 1) := by decide +kernel
theorem d_MO_antigen_109 : decode (mB M_MO_antigen) 109 = .ok (.ifCond .ne 16, 3) := by decide +kernel
theorem d_MO_antigen_112 : decode (mB M_MO_antigen) 112 = .ok (.aload_n 0, 1) := by decide +kernel
theorem d_MO_antigen_113 : decode (mB M_MO_antigen) 113 = .ok (.getfield 22, 3) := by decide +kernel
theorem d_MO_antigen_116 : decode (mB M_MO_antigen) 116 = .ok (.iload_n 1, 1) := by decide +kernel
theorem d_MO_antigen_117 : decode (mB M_MO_antigen) 117 = .ok (.iaload, 1) := by decide +kernel
theorem d_MO_antigen_118 : decode (mB M_MO_antigen) 118 = .ok (.iconst 1, 1) := by decide +kernel
theorem d_MO_antigen_119 : decode (mB M_MO_antigen) 119 = .ok (.iload_n 2, 1) := by decide +kernel
theorem d_MO_antigen_120 : decode (mB M_MO_antigen) 120 = .ok (.ishl, 1) := by decide +kernel
theorem d_MO_antigen_121 : decode (mB M_MO_antigen) 121 = .ok (.ior, 1) := by decide +kernel
theorem d_MO_antigen_122 : decode (mB M_MO_antigen) 122 = .ok (.goto 15, 3) := by decide +kernel
theorem d_MO_antigen_125 : decode (mB M_MO_antigen) 125 = .ok (.aload_n 0, 1) := by decide +kernel
theorem d_MO_antigen_126 : decode (mB M_MO_antigen) 126 = .ok (.getfield 22, 3) := by decide +kernel
theorem d_MO_antigen_129 : decode (mB M_MO_antigen) 129 = .ok (.iload_n 1, 1) := by decide +kernel
theorem d_MO_antigen_130 : decode (mB M_MO_antigen) 130 = .ok (.iaload, 1) := by decide +kernel
theorem d_MO_antigen_131 : decode (mB M_MO_antigen) 131 = .ok (.iconst 1, 1) := by decide +kernel
theorem d_MO_antigen_132 : decode (mB M_MO_antigen) 132 = .ok (.iload_n 2, 1) := by decide +kernel
theorem d_MO_antigen_133 : decode (mB M_MO_antigen) 133 = .ok (.ishl, 1) := by decide +kernel
theorem d_MO_antigen_134 : decode (mB M_MO_antigen) 134 = .ok (.iconst (-1), 1) := by decide +kernel
theorem d_MO_antigen_135 : decode (mB M_MO_antigen) 135 = .ok (.ixor, 1) := by decide +kernel
theorem d_MO_antigen_136 : decode (mB M_MO_antigen) 136 = .ok (.iand, 1) := by decide +kernel
theorem d_MO_antigen_137 : decode (mB M_MO_antigen) 137 = .ok (.iastore, 1) := by decide +kernel
theorem d_MO_antigen_138 : decode (mB M_MO_antigen) 138 = .ok (.return_, 1) := by decide +kernel
theorem d_MO_suits_0 : decode (mB M_MO_suits) 0 = .ok (.iload_n 1, 1) := by decide +kernel
theorem d_MO_suits_1 : decode (mB M_MO_suits) 1 = .ok (.ifCond .ne 16, 3) := by decide +kernel
theorem d_MO_suits_4 : decode (mB M_MO_suits) 4 = .ok (.iload_n 0, 1) := by decide +kernel
theorem d_MO_suits_5 : decode (mB M_MO_suits) 5 = .ok (.iconst 3, 1) := by decide +kernel
theorem d_MO_suits_6 : decode (mB M_MO_suits) 6 = .ok (.if_icmp .ne 7, 3) := by decide +kernel
theorem d_MO_suits_9 : decode (mB M_MO_suits) 9 = .ok (.iconst 1, 1) := by decide +kernel
theorem d_MO_suits_10 : decode (mB M_MO_suits) 10 = .ok (.goto 56, 3) := by decide +kernel
theorem d_MO_suits_13 : decode (mB M_MO_suits) 13 = .ok (.iconst 0, 1) := by decide +kernel
theorem d_MO_suits_14 : decode (mB M_MO_suits) 14 = .ok (.goto 52, 3) := by decide +kernel
theorem d_MO_suits_17 : decode (mB M_MO_suits) 17 = .ok (.iload_n 1, 1) := by decide +kernel
theorem d_MO_suits_18 : decode (mB M_MO_suits) 18 = .ok (.iconst 1, 1) := by decide +kernel
theorem d_MO_suits_19 : decode (mB M_MO_suits) 19 = .ok (.if_icmp .ne 15, 3) := by decide +kernel
theorem d_MO_suits_22 : decode (mB M_MO_suits) 22 = .ok (.iload_n 0, 1) := by decide +kernel
theorem d_MO_suits_23 : decode (mB M_MO_suits) 23 = .ok (.ifCond .ne 7, 3) := by decide +kernel
theorem d_MO_suits_26 : decode (mB M_MO_suits) 26 = .ok (.iconst 1, 1) := by decide +kernel
theorem d_MO_suits_27 : decode (mB M_MO_suits) 27 = .ok (.goto 39, 3) := by decide +kernel
theorem d_MO_suits_30 : decode (mB M_MO_suits) 30 = .ok (.iconst 0, 1) := by decide +kernel
theorem d_MO_suits_31 : decode (mB M_MO_suits) 31 = .ok (.goto 35, 3) := by decide +kernel
theorem d_MO_suits_34 : decode (mB M_MO_suits) 34 = .ok (.iload_n 1, 1) := by decide +kernel
theorem d_MO_suits_35 : decode (mB M_MO_suits) 35 = .ok (.iconst 2, 1) := by decide +kernel
theorem d_MO_suits_36 : decode (mB M_MO_suits) 36 = .ok (.if_icmp .ne 20, 3) := by decide +kernel
theorem d_MO_suits_39 : decode (mB M_MO_suits) 39 = .ok (.iload_n 0, 1) := by decide +kernel
theorem d_MO_suits_40 : decode (mB M_MO_suits) 40 = .ok (.ifCond .eq 8, 3) := by decide +kernel
theorem d_MO_suits_43 : decode (mB M_MO_suits) 43 = .ok (.iload_n 0, 1) := by decide +kernel
theorem d_MO_suits_44 : decode (mB M_MO_suits) 44 = .ok (.iconst 2, 1) := by decide +kernel
theorem d_MO_suits_45 : decode (mB M_MO_suits) 45 = .ok (.if_icmp .ne 7, 3) := by decide +kernel
theorem d_MO_suits_48 : decode (mB M_MO_suits) 48 = .ok (.iconst 1, 1) := by decide +kernel
theorem d_MO_suits_49 : decode (mB M_MO_suits) 49 = .ok (.goto 17, 3) := by decide +kernel
theorem d_MO_suits_52 : decode (mB M_MO_suits) 52 = .ok (.iconst 0, 1) := by decide +kernel
theorem d_MO_suits_53 : decode (mB M_MO_suits) 53 = .ok (.goto 13, 3) := by decide +kernel
theorem d_MO_suits_56 : decode (mB M_MO_suits) 56 = .ok (.iload_n 0, 1) := by decide +kernel
theorem d_MO_suits_57 : decode (mB M_MO_suits) 57 = .ok (.iconst 1, 1) := by decide +kernel
theorem d_MO_suits_58 : decode (mB M_MO_suits) 58 = .ok (.if_icmp .ne 7, 3) := by decide +kernel
theorem d_MO_suits_61 : decode (mB M_MO_suits) 61 = .ok (.iconst 1, 1) := by decide +kernel
theorem d_MO_suits_62 : decode (mB M_MO_suits) 62 = .ok (.goto 4, 3) := by decide +kernel
theorem d_MO_suits_65 : decode (mB M_MO_suits) 65 = .ok (.iconst 0, 1) := by decide +kernel
theorem d_MO_suits_66 : decode (mB M_MO_suits) 66 = .ok (.ireturn, 1) := by decide +kernel
theorem d_MO_process_0 : decode (mB M_MO_process) 0 = .ok (.aload_n 0, 1) := by decide +kernel
theorem d_MO_process_1 : decode (mB M_MO_process) 1 = .ok (.iload_n 1, 1) := by decide +kernel
theorem d_MO_process_2 : decode (mB M_MO_process) 2 = .ok (.invokevirtual 111, 3) := by decide +kernel
theorem d_MO_process_5 : decode (mB M_MO_process) 5 = .ok (.istore_n 3, 1) := by decide +kernel
theorem d_MO_process_6 : decode (mB M_MO_process) 6 = .ok (.iload_n 2, 1) := by decide +kernel
theorem d_MO_process_7 : decode (mB M_MO_process) 7 = .ok (.ifCond .ne 7, 3) := by decide +kernel
theorem d_MO_process_10 : decode (mB M_MO_process) 10 = .ok (.iconst 3, 1) := by decide +kernel
theorem d_MO_process_11 : decode (mB M_MO_process) 11 = .ok (.goto 4, 3) := by decide +kernel
theorem d_MO_process_14 : decode (mB M_MO_process) 14 = .ok (.iconst 1, 1) := by decide +kernel
theorem d_MO_process_15 : decode (mB M_MO_process) 15 = .ok (.istore 4, 2) := by decide +kernel
theorem d_MO_process_17 : decode (mB M_MO_process) 17 = .ok (.aload_n 0, 1) := by decide +kernel
theorem d_MO_process_18 : decode (mB M_MO_process) 18 = .ok (.iload_n 3, 1) := by decide +kernel
theorem d_MO_process_19 : decode (mB M_MO_process) 19 = .ok (.ifCond .ne 7, 3) := by decide +kernel
theorem d_MO_process_22 : decode (mB M_MO_process) 22 = .ok (.iconst 1, 1) := by decide +kernel
theorem d_MO_process_23 : decode (mB M_MO_process) 23 = .ok (.goto 4, 3) := by decide +kernel
theorem d_MO_process_26 : decode (mB M_MO_process) 26 = .ok (.iconst 0, 1) := by decide +kernel
theorem d_MO_process_27 : decode (mB M_MO_process) 27 = .ok (.iload_n 2, 1) := by decide +kernel
theorem d_MO_process_28 : decode (mB M_MO_process) 28 = .ok (.iconst 0, 1) := by decide +kernel
theorem d_MO_process_29 : decode (mB M_MO_process) 29 = .ok (.iconst 3, 1) := by decide +kernel
theorem d_MO_process_30 : decode (mB M_MO_process) 30 = .ok (.invokestatic 77, 3) := by decide +kernel
theorem d_MO_process_33 : decode (mB M_MO_process) 33 = .ok (.ifCond .ne 7, 3) := by decide +kernel
theorem d_MO_process_36 : decode (mB M_MO_process) 36 = .ok (.iconst 1, 1) := by decide +kernel
theorem d_MO_process_37 : decode (mB M_MO_process) 37 = .ok (.goto 4, 3) := by decide +kernel
theorem d_MO_process_40 : decode (mB M_MO_process) 40 = .ok (.iconst 0, 1) := by decide +kernel
theorem d_MO_process_41 : decode (mB M_MO_process) 41 = .ok (.iload_n 3, 1) := by decide +kernel
theorem d_MO_process_42 : decode (mB M_MO_process) 42 = .ok (.ifCond .eq 27, 3) := by decide +kernel
theorem d_MO_process_45 : decode (mB M_MO_process) 45 = .ok (.aload_n 0, 1) := by decide +kernel
theorem d_MO_process_46 : decode (mB M_MO_process) 46 = .ok (.iload_n 1, 1) := by decide +kernel
theorem d_MO_process_47 : decode (mB M_MO_process) 47 = .ok (.invokevirtual 114, 3) := by decide +kernel
theorem d_MO_process_50 : decode (mB M_MO_process) 50 = .ok (.ifCond .eq 15, 3) := by decide +kernel
theorem d_MO_process_53 : decode (mB M_MO_process) 53 = .ok (.aload_n 0, 1) := by decide +kernel
theorem d_MO_process_54 : decode (mB M_MO_process) 54 = .ok (.getfield 74, 3) := by decide +kernel
theorem d_MO_process_57 : decode (mB M_MO_process) 57 = .ok (.iload 4, 2) := by decide +kernel
theorem d_MO_process_59 : decode (mB M_MO_process) 59 = .ok (.iadd, 1) := by decide +kernel
theorem d_MO_process_60 : decode (mB M_MO_process) 60 = .ok (.bipush 48, 2) := by decide +kernel
theorem d_MO_process_62 : decode (mB M_MO_process) 62 = .ok (.if_icmp .le 7, 3) := by decide +kernel
theorem d_MO_process_65 : decode (mB M_MO_process) 65 = .ok (.iconst 1, 1) := by decide +kernel
theorem d_MO_process_66 : decode (mB M_MO_process) 66 = .ok (.goto 4, 3) := by decide +kernel
theorem d_MO_process_69 : decode (mB M_MO_process) 69 = .ok (.iconst 0, 1) := by decide +kernel
theorem d_MO_process_70 : decode (mB M_MO_process) 70 = .ok (.iload_n 3, 1) := by decide +kernel
theorem d_MO_process_71 : decode (mB M_MO_process) 71 = .ok (.ifCond .eq 20, 3) := by decide +kernel
theorem d_MO_process_74 : decode (mB M_MO_process) 74 = .ok (.aload_n 0, 1) := by decide +kernel
theorem d_MO_process_75 : decode (mB M_MO_process) 75 = .ok (.getfield 7, 3) := by decide +kernel
theorem d_MO_process_78 : decode (mB M_MO_process) 78 = .ok (.iload_n 1, 1) := by decide +kernel
theorem d_MO_process_79 : decode (mB M_MO_process) 79 = .ok (.iaload, 1) := by decide +kernel
theorem d_MO_process_80 : decode (mB M_MO_process) 80 = .ok (.iload_n 2, 1) := by decide +kernel
theorem d_MO_process_81 : decode (mB M_MO_process) 81 = .ok (.invokestatic 117, 3) := by decide +kernel
theorem d_MO_process_84 : decode (mB M_MO_process) 84 = .ok (.ifCond .ne 7, 3) := by decide +kernel
theorem d_MO_process_87 : decode (mB M_MO_process) 87 = .ok (.iconst 1, 1) := by decide +kernel
theorem d_MO_process_88 : decode (mB M_MO_process) 88 = .ok (.goto 4, 3) := by decide +kernel
theorem d_MO_process_91 : decode (mB M_MO_process) 91 = .ok (.iconst 0, 1) := by decide +kernel
theorem d_MO_process_92 : decode (mB M_MO_process) 92 = .ok (.invokevirtual 85, 3) := by decide +kernel
theorem d_MO_process_95 : decode (mB M_MO_process) 95 = .ok (.ifCond .eq 5, 3) := by decide +kernel
theorem d_MO_process_98 : decode (mB M_MO_process) 98 = .ok (.iconst 0, 1) := by decide +kernel
theorem d_MO_process_99 : decode (mB M_MO_process) 99 = .ok (.ireturn, 1) := by decide +kernel
theorem d_MO_process_100 : decode (mB M_MO_process) 100 = .ok (.aload_n 0, 1) := by decide +kernel
theorem d_MO_process_101 : decode (mB M_MO_process) 101 = .ok (.getfield 74, 3) := by decide +kernel
theorem d_MO_process_104 : decode (mB M_MO_process) 104 = .ok (.istore 5, 2) := by decide +kernel
theorem d_MO_process_106 : decode (mB M_MO_process) 106 = .ok (.iload_n 2, 1) := by decide +kernel
theorem d_MO_process_107 : decode (mB M_MO_process) 107 = .ok (.ifCond .ne 35, 3) := by decide +kernel
theorem d_MO_process_110 : decode (mB M_MO_process) 110 = .ok (.aload_n 0, 1) := by decide +kernel
theorem d_MO_process_111 : decode (mB M_MO_process) 111 = .ok (.iload_n 1, 1) := by decide +kernel
theorem d_MO_process_112 : decode (mB M_MO_process) 112 = .ok (.iconst 0, 1) := by decide +kernel
theorem d_MO_process_113 : decode (mB M_MO_process) 113 = .ok (.iconst 0, 1) := by decide +kernel
theorem d_MO_process_114 : decode (mB M_MO_process) 114 = .ok (.iconst (-1), 1) := by decide +kernel
theorem d_MO_process_115 : decode (mB M_MO_process) 115 = .ok (.invokevirtual 107, 3) := by decide +kernel
theorem d_MO_process_118 : decode (mB M_MO_process) 118 = .ok (.pop, 1) := by decide +kernel
theorem d_MO_process_119 : decode (mB M_MO_process) 119 = .ok (.aload_n 0, 1) := by decide +kernel
theorem d_MO_process_120 : decode (mB M_MO_process) 120 = .ok (.iload_n 1, 1) := by decide +kernel
theorem d_MO_process_121 : decode (mB M_MO_process) 121 = .ok (.iconst 1, 1) := by decide +kernel
theorem d_MO_process_122 : decode (mB M_MO_process) 122 = .ok (.iconst 0, 1) := by decide +kernel
theorem d_MO_process_123 : decode (mB M_MO_process) 123 = .ok (.iconst (-1), 1) := by decide +kernel
theorem d_MO_process_124 : decode (mB M_MO_process) 124 = .ok (.invokevirtual 107, 3) := by decide +kernel
theorem d_MO_process_127 : decode (mB M_MO_process) 127 = .ok (.pop, 1) := by decide +kernel
theorem d_MO_process_128 : decode (mB M_MO_process) 128 = .ok (.aload_n 0, 1) := by decide +kernel
theorem d_MO_process_129 : decode (mB M_MO_process) 129 = .ok (.iload_n 1, 1) := by decide +kernel
theorem d_MO_process_130 : decode (mB M_MO_process) 130 = .ok (.iconst 2, 1) := by decide +kernel
theorem d_MO_process_131 : decode (mB M_MO_process) 131 = .ok (.iconst 0, 1) := by decide +kernel
theorem d_MO_process_132 : decode (mB M_MO_process) 132 = .ok (.sipush 7200, 3) := by decide +kernel
theorem d_MO_process_135 : decode (mB M_MO_process) 135 = .ok (.invokevirtual 107, 3) := by decide +kernel
theorem d_MO_process_138 : decode (mB M_MO_process) 138 = .ok (.pop, 1) := by decide +kernel
theorem d_MO_process_139 : decode (mB M_MO_process) 139 = .ok (.goto 48, 3) := by decide +kernel
theorem d_MO_process_142 : decode (mB M_MO_process) 142 = .ok (.aload_n 0, 1) := by decide +kernel
theorem d_MO_process_143 : decode (mB M_MO_process) 143 = .ok (.iload_n 1, 1) := by decide +kernel
theorem d_MO_process_144 : decode (mB M_MO_process) 144 = .ok (.aload_n 0, 1) := by decide +kernel
theorem d_MO_process_145 : decode (mB M_MO_process) 145 = .ok (.getfield 7, 3) := by decide +kernel
theorem d_MO_process_148 : decode (mB M_MO_process) 148 = .ok (.iload_n 1, 1) := by decide +kernel
theorem d_MO_process_149 : decode (mB M_MO_process) 149 = .ok (.iaload, 1) := by decide +kernel
theorem d_MO_process_150 : decode (mB M_MO_process) 150 = .ok (.iload_n 2, 1) := by decide +kernel
theorem d_MO_process_151 : decode (mB M_MO_process) 151 = .ok (.iconst 1, 1) := by decide +kernel
theorem d_MO_process_152 : decode (mB M_MO_process) 152 = .ok (.if_icmp .ne 7, 3) := by decide +kernel
theorem d_MO_process_155 : decode (mB M_MO_process) 155 = .ok (.iconst 1, 1) := by decide +kernel
theorem d_MO_process_156 : decode (mB M_MO_process) 156 = .ok (.goto 13, 3) := by decide +kernel
theorem d_MO_process_159 : decode (mB M_MO_process) 159 = .ok (.iload_n 2, 1) := by decide +kernel
theorem d_MO_process_160 : decode (mB M_MO_process) 160 = .ok (.iconst 2, 1) := by decide +kernel
theorem d_MO_process_161 : decode (mB M_MO_process) 161 = .ok (.if_icmp .ne 7, 3) := by decide +kernel
theorem d_MO_process_164 : decode (mB M_MO_process) 164 = .ok (.iconst 2, 1) := by decide +kernel
theorem d_MO_process_165 : decode (mB M_MO_process) 165 = .ok (.goto 4, 3) := by decide +kernel
theorem d_MO_process_168 : decode (mB M_MO_process) 168 = .ok (.iconst 4, 1) := by decide +kernel
theorem d_MO_process_169 : decode (mB M_MO_process) 169 = .ok (.iload_n 2, 1) := by decide +kernel
theorem d_MO_process_170 : decode (mB M_MO_process) 170 = .ok (.iconst 2, 1) := by decide +kernel
theorem d_MO_process_171 : decode (mB M_MO_process) 171 = .ok (.if_icmp .ne 9, 3) := by decide +kernel
theorem d_MO_process_174 : decode (mB M_MO_process) 174 = .ok (.sipush 20160, 3) := by decide +kernel
theorem d_MO_process_177 : decode (mB M_MO_process) 177 = .ok (.goto 6, 3) := by decide +kernel
theorem d_MO_process_180 : decode (mB M_MO_process) 180 = .ok (.sipush 1440, 3) := by decide +kernel
theorem d_MO_process_183 : decode (mB M_MO_process) 183 = .ok (.invokevirtual 107, 3) := by decide +kernel
theorem d_MO_process_186 : decode (mB M_MO_process) 186 = .ok (.pop, 1) := by decide +kernel
theorem d_MO_process_187 : decode (mB M_MO_process) 187 = .ok (.aload_n 0, 1) := by decide +kernel
theorem d_MO_process_188 : decode (mB M_MO_process) 188 = .ok (.getfield 34, 3) := by decide +kernel
theorem d_MO_process_191 : decode (mB M_MO_process) 191 = .ok (.iload_n 1, 1) := by decide +kernel
theorem d_MO_process_192 : decode (mB M_MO_process) 192 = .ok (.iconst 5, 1) := by decide +kernel
theorem d_MO_process_193 : decode (mB M_MO_process) 193 = .ok (.iastore, 1) := by decide +kernel
theorem d_MO_process_194 : decode (mB M_MO_process) 194 = .ok (.iload 5, 2) := by decide +kernel
theorem d_MO_process_196 : decode (mB M_MO_process) 196 = .ok (.ireturn, 1) := by decide +kernel
theorem d_MO_pool_0 : decode (mB M_MO_pool) 0 = .ok (.aload_n 0, 1) := by decide +kernel
theorem d_MO_pool_1 : decode (mB M_MO_pool) 1 = .ok (.iload_n 1, 1) := by decide +kernel
theorem d_MO_pool_2 : decode (mB M_MO_pool) 2 = .ok (.invokevirtual 111, 3) := by decide +kernel
theorem d_MO_pool_5 : decode (mB M_MO_pool) 5 = .ok (.ifCond .eq 15, 3) := by decide +kernel
theorem d_MO_pool_8 : decode (mB M_MO_pool) 8 = .ok (.aload_n 0, 1) := by decide +kernel
theorem d_MO_pool_9 : decode (mB M_MO_pool) 9 = .ok (.iload_n 2, 1) := by decide +kernel
theorem d_MO_pool_10 : decode (mB M_MO_pool) 10 = .ok (.invokevirtual 111, 3) := by decide +kernel
theorem d_MO_pool_13 : decode (mB M_MO_pool) 13 = .ok (.ifCond .eq 7, 3) := by decide +kernel
theorem d_MO_pool_16 : decode (mB M_MO_pool) 16 = .ok (.iconst 1, 1) := by decide +kernel
theorem d_MO_pool_17 : decode (mB M_MO_pool) 17 = .ok (.goto 4, 3) := by decide +kernel
theorem d_MO_pool_20 : decode (mB M_MO_pool) 20 = .ok (.iconst 0, 1) := by decide +kernel
theorem d_MO_pool_21 : decode (mB M_MO_pool) 21 = .ok (.istore_n 3, 1) := by decide +kernel
theorem d_MO_pool_22 : decode (mB M_MO_pool) 22 = .ok (.iload_n 3, 1) := by decide +kernel
theorem d_MO_pool_23 : decode (mB M_MO_pool) 23 = .ok (.ifCond .eq 32, 3) := by decide +kernel
theorem d_MO_pool_26 : decode (mB M_MO_pool) 26 = .ok (.aload_n 0, 1) := by decide +kernel
theorem d_MO_pool_27 : decode (mB M_MO_pool) 27 = .ok (.iload_n 1, 1) := by decide +kernel
theorem d_MO_pool_28 : decode (mB M_MO_pool) 28 = .ok (.invokevirtual 114, 3) := by decide +kernel
theorem d_MO_pool_31 : decode (mB M_MO_pool) 31 = .ok (.ifCond .eq 24, 3) := by decide +kernel
theorem d_MO_pool_34 : decode (mB M_MO_pool) 34 = .ok (.aload_n 0, 1) := by decide +kernel
theorem d_MO_pool_35 : decode (mB M_MO_pool) 35 = .ok (.iload_n 2, 1) := by decide +kernel
theorem d_MO_pool_36 : decode (mB M_MO_pool) 36 = .ok (.invokevirtual 114, 3) := by decide +kernel
theorem d_MO_pool_39 : decode (mB M_MO_pool) 39 = .ok (.ifCond .eq 16, 3) := by decide +kernel
theorem d_MO_pool_42 : decode (mB M_MO_pool) 42 = .ok (.aload_n 0, 1) := by decide +kernel
theorem d_MO_pool_43 : decode (mB M_MO_pool) 43 = .ok (.getfield 74, 3) := by decide +kernel
theorem d_MO_pool_46 : decode (mB M_MO_pool) 46 = .ok (.bipush 48, 2) := by decide +kernel
theorem d_MO_pool_48 : decode (mB M_MO_pool) 48 = .ok (.if_icmp .ge 7, 3) := by decide +kernel
theorem d_MO_pool_51 : decode (mB M_MO_pool) 51 = .ok (.iconst 1, 1) := by decide +kernel
theorem d_MO_pool_52 : decode (mB M_MO_pool) 52 = .ok (.goto 4, 3) := by decide +kernel
theorem d_MO_pool_55 : decode (mB M_MO_pool) 55 = .ok (.iconst 0, 1) := by decide +kernel
theorem d_MO_pool_56 : decode (mB M_MO_pool) 56 = .ok (.istore 4, 2) := by decide +kernel
theorem d_MO_pool_58 : decode (mB M_MO_pool) 58 = .ok (.iload_n 3, 1) := by decide +kernel
theorem d_MO_pool_59 : decode (mB M_MO_pool) 59 = .ok (.ifCond .eq 57, 3) := by decide +kernel
theorem d_MO_pool_62 : decode (mB M_MO_pool) 62 = .ok (.aload_n 0, 1) := by decide +kernel
theorem d_MO_pool_63 : decode (mB M_MO_pool) 63 = .ok (.getfield 7, 3) := by decide +kernel
theorem d_MO_pool_66 : decode (mB M_MO_pool) 66 = .ok (.iload_n 1, 1) := by decide +kernel
theorem d_MO_pool_67 : decode (mB M_MO_pool) 67 = .ok (.iaload, 1) := by decide +kernel
theorem d_MO_pool_68 : decode (mB M_MO_pool) 68 = .ok (.iconst 2, 1) := by decide +kernel
theorem d_MO_pool_69 : decode (mB M_MO_pool) 69 = .ok (.if_icmp .ne 47, 3) := by decide +kernel
theorem d_MO_pool_72 : decode (mB M_MO_pool) 72 = .ok (.aload_n 0, 1) := by decide +kernel
theorem d_MO_pool_73 : decode (mB M_MO_pool) 73 = .ok (.getfield 7, 3) := by decide +kernel
theorem d_MO_pool_76 : decode (mB M_MO_pool) 76 = .ok (.iload_n 2, 1) := by decide +kernel
theorem d_MO_pool_77 : decode (mB M_MO_pool) 77 = .ok (.iaload, 1) := by decide +kernel
theorem d_MO_pool_78 : decode (mB M_MO_pool) 78 = .ok (.iconst 2, 1) := by decide +kernel
theorem d_MO_pool_79 : decode (mB M_MO_pool) 79 = .ok (.if_icmp .ne 37, 3) := by decide +kernel
theorem d_MO_pool_82 : decode (mB M_MO_pool) 82 = .ok (.aload_n 0, 1) := by decide +kernel
theorem d_MO_pool_83 : decode (mB M_MO_pool) 83 = .ok (.getfield 13, 3) := by decide +kernel
theorem d_MO_pool_86 : decode (mB M_MO_pool) 86 = .ok (.iload_n 1, 1) := by decide +kernel
theorem d_MO_pool_87 : decode (mB M_MO_pool) 87 = .ok (.iaload, 1) := by decide +kernel
theorem d_MO_pool_88 : decode (mB M_MO_pool) 88 = .ok (.aload_n 0, 1) := by decide +kernel
theorem d_MO_pool_89 : decode (mB M_MO_pool) 89 = .ok (.getfield 13, 3) := by decide +kernel
theorem d_MO_pool_92 : decode (mB M_MO_pool) 92 = .ok (.iload_n 2, 1) := by decide +kernel
theorem d_MO_pool_93 : decode (mB M_MO_pool) 93 = .ok (.iaload, 1) := by decide +kernel
theorem d_MO_pool_94 : decode (mB M_MO_pool) 94 = .ok (.if_icmp .ne 22, 3) := by decide +kernel
theorem d_MO_pool_97 : decode (mB M_MO_pool) 97 = .ok (.aload_n 0, 1) := by decide +kernel
theorem d_MO_pool_98 : decode (mB M_MO_pool) 98 = .ok (.getfield 16, 3) := by decide +kernel
theorem d_MO_pool_101 : decode (mB M_MO_pool) 101 = .ok (.iload_n 1, 1) := by decide +kernel
theorem d_MO_pool_102 : decode (mB M_MO_pool) 102 = .ok (.iaload, 1) := by decide +kernel
theorem d_MO_pool_103 : decode (mB M_MO_pool) 103 = .ok (.aload_n 0, 1) := by decide +kernel
theorem d_MO_pool_104 : decode (mB M_MO_pool) 104 = .ok (.getfield 16, 3) := by decide +kernel
theorem d_MO_pool_107 : decode (mB M_MO_pool) 107 = .ok (.iload_n 2, 1) := by decide +kernel
theorem d_MO_pool_108 : decode (mB M_MO_pool) 108 = .ok (.iaload, 1) := by decide +kernel
theorem d_MO_pool_109 : decode (mB M_MO_pool) 109 = .ok (.if_icmp .ne 7, 3) := by decide +kernel
theorem d_MO_pool_112 : decode (mB M_MO_pool) 112 = .ok (.iconst 1, 1) := by decide +kernel
theorem d_MO_pool_113 : decode (mB M_MO_pool) 113 = .ok (.goto 4, 3) := by decide +kernel
theorem d_MO_pool_116 : decode (mB M_MO_pool) 116 = .ok (.iconst 0, 1) := by decide +kernel
theorem d_MO_pool_117 : decode (mB M_MO_pool) 117 = .ok (.istore 5, 2) := by decide +kernel
theorem d_MO_pool_119 : decode (mB M_MO_pool) 119 = .ok (.aload_n 0, 1) := by decide +kernel
theorem d_MO_pool_120 : decode (mB M_MO_pool) 120 = .ok (.iload_n 3, 1) := by decide +kernel
theorem d_MO_pool_121 : decode (mB M_MO_pool) 121 = .ok (.ifCond .ne 7, 3) := by decide +kernel
theorem d_MO_pool_124 : decode (mB M_MO_pool) 124 = .ok (.iconst 1, 1) := by decide +kernel
theorem d_MO_pool_125 : decode (mB M_MO_pool) 125 = .ok (.goto 4, 3) := by decide +kernel
theorem d_MO_pool_128 : decode (mB M_MO_pool) 128 = .ok (.iconst 0, 1) := by decide +kernel
theorem d_MO_pool_129 : decode (mB M_MO_pool) 129 = .ok (.iload_n 1, 1) := by decide +kernel
theorem d_MO_pool_130 : decode (mB M_MO_pool) 130 = .ok (.iload_n 2, 1) := by decide +kernel
theorem d_MO_pool_131 : decode (mB M_MO_pool) 131 = .ok (.if_icmp .ne 7, 3) := by decide +kernel
theorem d_MO_pool_134 : decode (mB M_MO_pool) 134 = .ok (.iconst 1, 1) := by decide +kernel
theorem d_MO_pool_135 : decode (mB M_MO_pool) 135 = .ok (.goto 4, 3) := by decide +kernel
theorem d_MO_pool_138 : decode (mB M_MO_pool) 138 = .ok (.iconst 0, 1) := by decide +kernel
theorem d_MO_pool_139 : decode (mB M_MO_pool) 139 = .ok (.iload 4, 2) := by decide +kernel
theorem d_MO_pool_141 : decode (mB M_MO_pool) 141 = .ok (.ifCond .ne 7, 3) := by decide +kernel
theorem d_MO_pool_144 : decode (mB M_MO_pool) 144 = .ok (.iconst 1, 1) := by decide +kernel
theorem d_MO_pool_145 : decode (mB M_MO_pool) 145 = .ok (.goto 4, 3) := by decide +kernel
theorem d_MO_pool_148 : decode (mB M_MO_pool) 148 = .ok (.iconst 0, 1) := by decide +kernel
theorem d_MO_pool_149 : decode (mB M_MO_pool) 149 = .ok (.iload 5, 2) := by decide +kernel
theorem d_MO_pool_151 : decode (mB M_MO_pool) 151 = .ok (.ifCond .ne 7, 3) := by decide +kernel
theorem d_MO_pool_154 : decode (mB M_MO_pool) 154 = .ok (.iconst 1, 1) := by decide +kernel
theorem d_MO_pool_155 : decode (mB M_MO_pool) 155 = .ok (.goto 4, 3) := by decide +kernel
theorem d_MO_pool_158 : decode (mB M_MO_pool) 158 = .ok (.iconst 0, 1) := by decide +kernel
theorem d_MO_pool_159 : decode (mB M_MO_pool) 159 = .ok (.invokevirtual 85, 3) := by decide +kernel
theorem d_MO_pool_162 : decode (mB M_MO_pool) 162 = .ok (.ifCond .eq 5, 3) := by decide +kernel
theorem d_MO_pool_165 : decode (mB M_MO_pool) 165 = .ok (.iconst 0, 1) := by decide +kernel
theorem d_MO_pool_166 : decode (mB M_MO_pool) 166 = .ok (.ireturn, 1) := by decide +kernel
theorem d_MO_pool_167 : decode (mB M_MO_pool) 167 = .ok (.aload_n 0, 1) := by decide +kernel
theorem d_MO_pool_168 : decode (mB M_MO_pool) 168 = .ok (.iload_n 1, 1) := by decide +kernel
theorem d_MO_pool_169 : decode (mB M_MO_pool) 169 = .ok (.iconst 2, 1) := by decide +kernel
theorem d_MO_pool_170 : decode (mB M_MO_pool) 170 = .ok (.iconst 0, 1) := by decide +kernel
theorem d_MO_pool_171 : decode (mB M_MO_pool) 171 = .ok (.iconst (-1), 1) := by decide +kernel
theorem d_MO_pool_172 : decode (mB M_MO_pool) 172 = .ok (.invokevirtual 107, 3) := by decide +kernel
theorem d_MO_pool_175 : decode (mB M_MO_pool) 175 = .ok (.istore 6, 2) := by decide +kernel
theorem d_MO_pool_177 : decode (mB M_MO_pool) 177 = .ok (.aload_n 0, 1) := by decide +kernel
theorem d_MO_pool_178 : decode (mB M_MO_pool) 178 = .ok (.getfield 19, 3) := by decide +kernel
theorem d_MO_pool_181 : decode (mB M_MO_pool) 181 = .ok (.iload 6, 2) := by decide +kernel
theorem d_MO_pool_183 : decode (mB M_MO_pool) 183 = .ok (.aload_n 0, 1) := by decide +kernel
theorem d_MO_pool_184 : decode (mB M_MO_pool) 184 = .ok (.getfield 19, 3) := by decide +kernel
theorem d_MO_pool_187 : decode (mB M_MO_pool) 187 = .ok (.iload_n 1, 1) := by decide +kernel
theorem d_MO_pool_188 : decode (mB M_MO_pool) 188 = .ok (.iaload, 1) := by decide +kernel
theorem d_MO_pool_189 : decode (mB M_MO_pool) 189 = .ok (.aload_n 0, 1) := by decide +kernel
theorem d_MO_pool_190 : decode (mB M_MO_pool) 190 = .ok (.getfield 19, 3) := by decide +kernel
theorem d_MO_pool_193 : decode (mB M_MO_pool) 193 = .ok (.iload_n 2, 1) := by decide +kernel
theorem d_MO_pool_194 : decode (mB M_MO_pool) 194 = .ok (.iaload, 1) := by decide +kernel
theorem d_MO_pool_195 : decode (mB M_MO_pool) 195 = .ok (.ior, 1) := by decide +kernel
theorem d_MO_pool_196 : decode (mB M_MO_pool) 196 = .ok (.iastore, 1) := by decide +kernel
theorem d_MO_pool_197 : decode (mB M_MO_pool) 197 = .ok (.aload_n 0, 1) := by decide +kernel
theorem d_MO_pool_198 : decode (mB M_MO_pool) 198 = .ok (.getfield 22, 3) := by decide +kernel
theorem d_MO_pool_201 : decode (mB M_MO_pool) 201 = .ok (.iload 6, 2) := by decide +kernel
theorem d_MO_pool_203 : decode (mB M_MO_pool) 203 = .ok (.aload_n 0, 1) := by decide +kernel
theorem d_MO_pool_204 : decode (mB M_MO_pool) 204 = .ok (.getfield 22, 3) := by decide +kernel
theorem d_MO_pool_207 : decode (mB M_MO_pool) 207 = .ok (.iload_n 1, 1) := by decide +kernel
theorem d_MO_pool_208 : decode (mB M_MO_pool) 208 = .ok (.iaload, 1) := by decide +kernel
theorem d_MO_pool_209 : decode (mB M_MO_pool) 209 = .ok (.aload_n 0, 1) := by decide +kernel
theorem d_MO_pool_210 : decode (mB M_MO_pool) 210 = .ok (.getfield 22, 3) := by decide +kernel
theorem d_MO_pool_213 : decode (mB M_MO_pool) 213 = .ok (.iload_n 2, 1) := by decide +kernel
theorem d_MO_pool_214 : decode (mB M_MO_pool) 214 = .ok (.iaload, 1) := by decide +kernel
theorem d_MO_pool_215 : decode (mB M_MO_pool) 215 = .ok (.iand, 1) := by decide +kernel
theorem d_MO_pool_216 : decode (mB M_MO_pool) 216 = .ok (.iastore, 1) := by decide +kernel
theorem d_MO_pool_217 : decode (mB M_MO_pool) 217 = .ok (.aload_n 0, 1) := by decide +kernel
theorem d_MO_pool_218 : decode (mB M_MO_pool) 218 = .ok (.getfield 25, 3) := by decide +kernel
theorem d_MO_pool_221 : decode (mB M_MO_pool) 221 = .ok (.iload 6, 2) := by decide +kernel
theorem d_MO_pool_223 : decode (mB M_MO_pool) 223 = .ok (.aload_n 0, 1) := by decide +kernel
theorem d_MO_pool_224 : decode (mB M_MO_pool) 224 = .ok (.getfield 25, 3) := by decide +kernel
theorem d_MO_pool_227 : decode (mB M_MO_pool) 227 = .ok (.iload_n 1, 1) := by decide +kernel
theorem d_MO_pool_228 : decode (mB M_MO_pool) 228 = .ok (.iaload, 1) := by decide +kernel
theorem d_MO_pool_229 : decode (mB M_MO_pool) 229 = .ok (.aload_n 0, 1) := by decide +kernel
theorem d_MO_pool_230 : decode (mB M_MO_pool) 230 = .ok (.getfield 25, 3) := by decide +kernel
theorem d_MO_pool_233 : decode (mB M_MO_pool) 233 = .ok (.iload_n 2, 1) := by decide +kernel
theorem d_MO_pool_234 : decode (mB M_MO_pool) 234 = .ok (.iaload, 1) := by decide +kernel
theorem d_MO_pool_235 : decode (mB M_MO_pool) 235 = .ok (.iand, 1) := by decide +kernel
theorem d_MO_pool_236 : decode (mB M_MO_pool) 236 = .ok (.iastore, 1) := by decide +kernel
theorem d_MO_pool_237 : decode (mB M_MO_pool) 237 = .ok (.aload_n 0, 1) := by decide +kernel
theorem d_MO_pool_238 : decode (mB M_MO_pool) 238 = .ok (.getfield 28, 3) := by decide +kernel
theorem d_MO_pool_241 : decode (mB M_MO_pool) 241 = .ok (.iload 6, 2) := by decide +kernel
theorem d_MO_pool_243 : decode (mB M_MO_pool) 243 = .ok (.aload_n 0, 1) := by decide +kernel
theorem d_MO_pool_244 : decode (mB M_MO_pool) 244 = .ok (.getfield 28, 3) := by decide +kernel
theorem d_MO_pool_247 : decode (mB M_MO_pool) 247 = .ok (.iload_n 1, 1) := by decide +kernel
theorem d_MO_pool_248 : decode (mB M_MO_pool) 248 = .ok (.iaload, 1) := by decide +kernel
theorem d_MO_pool_249 : decode (mB M_MO_pool) 249 = .ok (.aload_n 0, 1) := by decide +kernel
theorem d_MO_pool_250 : decode (mB M_MO_pool) 250 = .ok (.getfield 28, 3) := by decide +kernel
theorem d_MO_pool_253 : decode (mB M_MO_pool) 253 = .ok (.iload_n 2, 1) := by decide +kernel
theorem d_MO_pool_254 : decode (mB M_MO_pool) 254 = .ok (.iaload, 1) := by decide +kernel
theorem d_MO_pool_255 : decode (mB M_MO_pool) 255 = .ok (.if_icmp .ge 12, 3) := by decide +kernel
theorem d_MO_pool_258 : decode (mB M_MO_pool) 258 = .ok (.aload_n 0, 1) := by decide +kernel
theorem d_MO_pool_259 : decode (mB M_MO_pool) 259 = .ok (.getfield 28, 3) := by decide +kernel
theorem d_MO_pool_262 : decode (mB M_MO_pool) 262 = .ok (.iload_n 1, 1) := by decide +kernel
theorem d_MO_pool_263 : decode (mB M_MO_pool) 263 = .ok (.iaload, 1) := by decide +kernel
theorem d_MO_pool_264 : decode (mB M_MO_pool) 264 = .ok (.goto 9, 3) := by decide +kernel
theorem d_MO_pool_267 : decode (mB M_MO_pool) 267 = .ok (.aload_n 0, 1) := by decide +kernel
theorem d_MO_pool_268 : decode (mB M_MO_pool) 268 = .ok (.getfield 28, 3) := by decide +kernel
theorem d_MO_pool_271 : decode (mB M_MO_pool) 271 = .ok (.iload_n 2, 1) := by decide +kernel
theorem d_MO_pool_272 : decode (mB M_MO_pool) 272 = .ok (.iaload, 1) := by decide +kernel
theorem d_MO_pool_273 : decode (mB M_MO_pool) 273 = .ok (.iastore, 1) := by decide +kernel
theorem d_MO_pool_274 : decode (mB M_MO_pool) 274 = .ok (.aload_n 0, 1) := by decide +kernel
theorem d_MO_pool_275 : decode (mB M_MO_pool) 275 = .ok (.getfield 31, 3) := by decide +kernel
theorem d_MO_pool_278 : decode (mB M_MO_pool) 278 = .ok (.iload 6, 2) := by decide +kernel
theorem d_MO_pool_280 : decode (mB M_MO_pool) 280 = .ok (.aload_n 0, 1) := by decide +kernel
theorem d_MO_pool_281 : decode (mB M_MO_pool) 281 = .ok (.getfield 31, 3) := by decide +kernel
theorem d_MO_pool_284 : decode (mB M_MO_pool) 284 = .ok (.iload_n 1, 1) := by decide +kernel
theorem d_MO_pool_285 : decode (mB M_MO_pool) 285 = .ok (.iaload, 1) := by decide +kernel
theorem d_MO_pool_286 : decode (mB M_MO_pool) 286 = .ok (.aload_n 0, 1) := by decide +kernel
theorem d_MO_pool_287 : decode (mB M_MO_pool) 287 = .ok (.getfield 31, 3) := by decide +kernel
theorem d_MO_pool_290 : decode (mB M_MO_pool) 290 = .ok (.iload_n 2, 1) := by decide +kernel
theorem d_MO_pool_291 : decode (mB M_MO_pool) 291 = .ok (.iaload, 1) := by decide +kernel
theorem d_MO_pool_292 : decode (mB M_MO_pool) 292 = .ok (.ior, 1) := by decide +kernel
theorem d_MO_pool_293 : decode (mB M_MO_pool) 293 = .ok (.iastore, 1) := by decide +kernel
theorem d_MO_pool_294 : decode (mB M_MO_pool) 294 = .ok (.aload_n 0, 1) := by decide +kernel
theorem d_MO_pool_295 : decode (mB M_MO_pool) 295 = .ok (.getfield 34, 3) := by decide +kernel
theorem d_MO_pool_298 : decode (mB M_MO_pool) 298 = .ok (.iload_n 1, 1) := by decide +kernel
theorem d_MO_pool_299 : decode (mB M_MO_pool) 299 = .ok (.iconst 5, 1) := by decide +kernel
theorem d_MO_pool_300 : decode (mB M_MO_pool) 300 = .ok (.iastore, 1) := by decide +kernel
theorem d_MO_pool_301 : decode (mB M_MO_pool) 301 = .ok (.aload_n 0, 1) := by decide +kernel
theorem d_MO_pool_302 : decode (mB M_MO_pool) 302 = .ok (.getfield 34, 3) := by decide +kernel
theorem d_MO_pool_305 : decode (mB M_MO_pool) 305 = .ok (.iload_n 2, 1) := by decide +kernel
theorem d_MO_pool_306 : decode (mB M_MO_pool) 306 = .ok (.iconst 5, 1) := by decide +kernel
theorem d_MO_pool_307 : decode (mB M_MO_pool) 307 = .ok (.iastore, 1) := by decide +kernel
theorem d_MO_pool_308 : decode (mB M_MO_pool) 308 = .ok (.iload 6, 2) := by decide +kernel
theorem d_MO_pool_310 : decode (mB M_MO_pool) 310 = .ok (.ireturn, 1) := by decide +kernel
theorem d_MO_patient_0 : decode (mB M_MO_patient) 0 = .ok (.aload_n 0, 1) := by decide +kernel
theorem d_MO_patient_1 : decode (mB M_MO_patient) 1 = .ok (.aload_n 0, 1) := by decide +kernel
theorem d_MO_patient_2 : decode (mB M_MO_patient) 2 = .ok (.getfield 81, 3) := by decide +kernel
theorem d_MO_patient_5 : decode (mB M_MO_patient) 5 = .ok (.bipush 10, 2) := by decide +kernel
theorem d_MO_patient_7 : decode (mB M_MO_patient) 7 = .ok (.if_icmp .ne 7, 3) := by decide +kernel
theorem d_MO_patient_10 : decode (mB M_MO_patient) 10 = .ok (.iconst 1, 1) := by decide +kernel
theorem d_MO_patient_11 : decode (mB M_MO_patient) 11 = .ok (.goto 4, 3) := by decide +kernel
theorem d_MO_patient_14 : decode (mB M_MO_patient) 14 = .ok (.iconst 0, 1) := by decide +kernel
theorem d_MO_patient_15 : decode (mB M_MO_patient) 15 = .ok (.iconst 0, 1) := by decide +kernel
theorem d_MO_patient_16 : decode (mB M_MO_patient) 16 = .ok (.iconst 0, 1) := by decide +kernel
theorem d_MO_patient_17 : decode (mB M_MO_patient) 17 = .ok (.iconst 0, 1) := by decide +kernel
theorem d_MO_patient_18 : decode (mB M_MO_patient) 18 = .ok (.invokevirtual 85, 3) := by decide +kernel
theorem d_MO_patient_21 : decode (mB M_MO_patient) 21 = .ok (.ifCond .eq 5, 3) := by decide +kernel
theorem d_MO_patient_24 : decode (mB M_MO_patient) 24 = .ok (.iconst 0, 1) := by decide +kernel
theorem d_MO_patient_25 : decode (mB M_MO_patient) 25 = .ok (.ireturn, 1) := by decide +kernel
theorem d_MO_patient_26 : decode (mB M_MO_patient) 26 = .ok (.aload_n 0, 1) := by decide +kernel
theorem d_MO_patient_27 : decode (mB M_MO_patient) 27 = .ok (.getfield 52, 3) := by decide +kernel
theorem d_MO_patient_30 : decode (mB M_MO_patient) 30 = .ok (.aload_n 0, 1) := by decide +kernel
theorem d_MO_patient_31 : decode (mB M_MO_patient) 31 = .ok (.getfield 81, 3) := by decide +kernel
theorem d_MO_patient_34 : decode (mB M_MO_patient) 34 = .ok (.iconst (-1), 1) := by decide +kernel
theorem d_MO_patient_35 : decode (mB M_MO_patient) 35 = .ok (.iastore, 1) := by decide +kernel
theorem d_MO_patient_36 : decode (mB M_MO_patient) 36 = .ok (.aload_n 0, 1) := by decide +kernel
theorem d_MO_patient_37 : decode (mB M_MO_patient) 37 = .ok (.dup, 1) := by decide +kernel
theorem d_MO_patient_38 : decode (mB M_MO_patient) 38 = .ok (.getfield 81, 3) := by decide +kernel
theorem d_MO_patient_41 : decode (mB M_MO_patient) 41 = .ok (.iconst 1, 1) := by decide +kernel
theorem d_MO_patient_42 : decode (mB M_MO_patient) 42 = .ok (.iadd, 1) := by decide +kernel
theorem d_MO_patient_43 : decode (mB M_MO_patient) 43 = .ok (.putfield 81, 3) := by decide +kernel
theorem d_MO_patient_46 : decode (mB M_MO_patient) 46 = .ok (.aload_n 0, 1) := by decide +kernel
theorem d_MO_patient_47 : decode (mB M_MO_patient) 47 = .ok (.getfield 81, 3) := by decide +kernel
theorem d_MO_patient_50 : decode (mB M_MO_patient) 50 = .ok (.iconst 1, 1) := by decide +kernel
theorem d_MO_patient_51 : decode (mB M_MO_patient) 51 = .ok (.isub, 1) := by decide +kernel
theorem d_MO_patient_52 : decode (mB M_MO_patient) 52 = .ok (.ireturn, 1) := by decide +kernel
theorem d_MO_sample_0 : decode (mB M_MO_sample) 0 = .ok (.aload_n 0, 1) := by decide +kernel
theorem d_MO_sample_1 : decode (mB M_MO_sample) 1 = .ok (.iload_n 1, 1) := by decide +kernel
theorem d_MO_sample_2 : decode (mB M_MO_sample) 2 = .ok (.invokevirtual 121, 3) := by decide +kernel
theorem d_MO_sample_5 : decode (mB M_MO_sample) 5 = .ok (.istore 4, 2) := by decide +kernel
theorem d_MO_sample_7 : decode (mB M_MO_sample) 7 = .ok (.aload_n 0, 1) := by decide +kernel
theorem d_MO_sample_8 : decode (mB M_MO_sample) 8 = .ok (.iload 4, 2) := by decide +kernel
theorem d_MO_sample_10 : decode (mB M_MO_sample) 10 = .ok (.ifCond .ne 7, 3) := by decide +kernel
theorem d_MO_sample_13 : decode (mB M_MO_sample) 13 = .ok (.iconst 1, 1) := by decide +kernel
theorem d_MO_sample_14 : decode (mB M_MO_sample) 14 = .ok (.goto 4, 3) := by decide +kernel
theorem d_MO_sample_17 : decode (mB M_MO_sample) 17 = .ok (.iconst 0, 1) := by decide +kernel
theorem d_MO_sample_18 : decode (mB M_MO_sample) 18 = .ok (.iload_n 2, 1) := by decide +kernel
theorem d_MO_sample_19 : decode (mB M_MO_sample) 19 = .ok (.iconst 0, 1) := by decide +kernel
theorem d_MO_sample_20 : decode (mB M_MO_sample) 20 = .ok (.iconst 3, 1) := by decide +kernel
theorem d_MO_sample_21 : decode (mB M_MO_sample) 21 = .ok (.invokestatic 77, 3) := by decide +kernel
theorem d_MO_sample_24 : decode (mB M_MO_sample) 24 = .ok (.ifCond .eq 12, 3) := by decide +kernel
theorem d_MO_sample_27 : decode (mB M_MO_sample) 27 = .ok (.iload_n 3, 1) := by decide +kernel
theorem d_MO_sample_28 : decode (mB M_MO_sample) 28 = .ok (.iconst 0, 1) := by decide +kernel
theorem d_MO_sample_29 : decode (mB M_MO_sample) 29 = .ok (.iconst 1, 1) := by decide +kernel
theorem d_MO_sample_30 : decode (mB M_MO_sample) 30 = .ok (.invokestatic 77, 3) := by decide +kernel
theorem d_MO_sample_33 : decode (mB M_MO_sample) 33 = .ok (.ifCond .ne 7, 3) := by decide +kernel
theorem d_MO_sample_36 : decode (mB M_MO_sample) 36 = .ok (.iconst 1, 1) := by decide +kernel
theorem d_MO_sample_37 : decode (mB M_MO_sample) 37 = .ok (.goto 4, 3) := by decide +kernel
theorem d_MO_sample_40 : decode (mB M_MO_sample) 40 = .ok (.iconst 0, 1) := by decide +kernel
theorem d_MO_sample_41 : decode (mB M_MO_sample) 41 = .ok (.iload 4, 2) := by decide +kernel
theorem d_MO_sample_43 : decode (mB M_MO_sample) 43 = .ok (.ifCond .eq 17, 3) := by decide +kernel
theorem d_MO_sample_46 : decode (mB M_MO_sample) 46 = .ok (.aload_n 0, 1) := by decide +kernel
theorem d_MO_sample_47 : decode (mB M_MO_sample) 47 = .ok (.getfield 58, 3) := by decide +kernel
theorem d_MO_sample_50 : decode (mB M_MO_sample) 50 = .ok (.iload_n 1, 1) := by decide +kernel
theorem d_MO_sample_51 : decode (mB M_MO_sample) 51 = .ok (.iaload, 1) := by decide +kernel
theorem d_MO_sample_52 : decode (mB M_MO_sample) 52 = .ok (.iconst 2, 1) := by decide +kernel
theorem d_MO_sample_53 : decode (mB M_MO_sample) 53 = .ok (.if_icmp .ne 7, 3) := by decide +kernel
theorem d_MO_sample_56 : decode (mB M_MO_sample) 56 = .ok (.iconst 1, 1) := by decide +kernel
theorem d_MO_sample_57 : decode (mB M_MO_sample) 57 = .ok (.goto 4, 3) := by decide +kernel
theorem d_MO_sample_60 : decode (mB M_MO_sample) 60 = .ok (.iconst 0, 1) := by decide +kernel
theorem d_MO_sample_61 : decode (mB M_MO_sample) 61 = .ok (.iconst 0, 1) := by decide +kernel
theorem d_MO_sample_62 : decode (mB M_MO_sample) 62 = .ok (.invokevirtual 85, 3) := by decide +kernel
theorem d_MO_sample_65 : decode (mB M_MO_sample) 65 = .ok (.ifCond .eq 5, 3) := by decide +kernel
theorem d_MO_sample_68 : decode (mB M_MO_sample) 68 = .ok (.iconst 0, 1) := by decide +kernel
theorem d_MO_sample_69 : decode (mB M_MO_sample) 69 = .ok (.ireturn, 1) := by decide +kernel
theorem d_MO_sample_70 : decode (mB M_MO_sample) 70 = .ok (.iconst 2, 1) := by decide +kernel
theorem d_MO_sample_71 : decode (mB M_MO_sample) 71 = .ok (.iload_n 2, 1) := by decide +kernel
theorem d_MO_sample_72 : decode (mB M_MO_sample) 72 = .ok (.imul, 1) := by decide +kernel
theorem d_MO_sample_73 : decode (mB M_MO_sample) 73 = .ok (.iload_n 3, 1) := by decide +kernel
theorem d_MO_sample_74 : decode (mB M_MO_sample) 74 = .ok (.iadd, 1) := by decide +kernel
theorem d_MO_sample_75 : decode (mB M_MO_sample) 75 = .ok (.istore 5, 2) := by decide +kernel
theorem d_MO_sample_77 : decode (mB M_MO_sample) 77 = .ok (.aload_n 0, 1) := by decide +kernel
theorem d_MO_sample_78 : decode (mB M_MO_sample) 78 = .ok (.getfield 58, 3) := by decide +kernel
theorem d_MO_sample_81 : decode (mB M_MO_sample) 81 = .ok (.iload_n 1, 1) := by decide +kernel
theorem d_MO_sample_82 : decode (mB M_MO_sample) 82 = .ok (.aload_n 0, 1) := by decide +kernel
theorem d_MO_sample_83 : decode (mB M_MO_sample) 83 = .ok (.getfield 52, 3) := by decide +kernel
theorem d_MO_sample_86 : decode (mB M_MO_sample) 86 = .ok (.iload_n 1, 1) := by decide +kernel
theorem d_MO_sample_87 : decode (mB M_MO_sample) 87 = .ok (.iaload, 1) := by decide +kernel
theorem d_MO_sample_88 : decode (mB M_MO_sample) 88 = .ok (.ifCond .ge 7, 3) := by decide +kernel
theorem d_MO_sample_91 : decode (mB M_MO_sample) 91 = .ok (.iconst 0, 1) := by decide +kernel
theorem d_MO_sample_92 : decode (mB M_MO_sample) 92 = .ok (.goto 19, 3) := by decide +kernel
theorem d_MO_sample_95 : decode (mB M_MO_sample) 95 = .ok (.aload_n 0, 1) := by decide +kernel
theorem d_MO_sample_96 : decode (mB M_MO_sample) 96 = .ok (.getfield 52, 3) := by decide +kernel
theorem d_MO_sample_99 : decode (mB M_MO_sample) 99 = .ok (.iload_n 1, 1) := by decide +kernel
theorem d_MO_sample_100 : decode (mB M_MO_sample) 100 = .ok (.iaload, 1) := by decide +kernel
theorem d_MO_sample_101 : decode (mB M_MO_sample) 101 = .ok (.iload 5, 2) := by decide +kernel
theorem d_MO_sample_103 : decode (mB M_MO_sample) 103 = .ok (.if_icmp .ne 7, 3) := by decide +kernel
theorem d_MO_sample_106 : decode (mB M_MO_sample) 106 = .ok (.iconst 1, 1) := by decide +kernel
theorem d_MO_sample_107 : decode (mB M_MO_sample) 107 = .ok (.goto 4, 3) := by decide +kernel
theorem d_MO_sample_110 : decode (mB M_MO_sample) 110 = .ok (.iconst 2, 1) := by decide +kernel
theorem d_MO_sample_111 : decode (mB M_MO_sample) 111 = .ok (.iastore, 1) := by decide +kernel
theorem d_MO_sample_112 : decode (mB M_MO_sample) 112 = .ok (.aload_n 0, 1) := by decide +kernel
theorem d_MO_sample_113 : decode (mB M_MO_sample) 113 = .ok (.getfield 52, 3) := by decide +kernel
theorem d_MO_sample_116 : decode (mB M_MO_sample) 116 = .ok (.iload_n 1, 1) := by decide +kernel
theorem d_MO_sample_117 : decode (mB M_MO_sample) 117 = .ok (.iload 5, 2) := by decide +kernel
theorem d_MO_sample_119 : decode (mB M_MO_sample) 119 = .ok (.iastore, 1) := by decide +kernel
theorem d_MO_sample_120 : decode (mB M_MO_sample) 120 = .ok (.aload_n 0, 1) := by decide +kernel
theorem d_MO_sample_121 : decode (mB M_MO_sample) 121 = .ok (.getfield 55, 3) := by decide +kernel
theorem d_MO_sample_124 : decode (mB M_MO_sample) 124 = .ok (.iload_n 1, 1) := by decide +kernel
theorem d_MO_sample_125 : decode (mB M_MO_sample) 125 = .ok (.aload_n 0, 1) := by decide +kernel
theorem d_MO_sample_126 : decode (mB M_MO_sample) 126 = .ok (.getfield 89, 3) := by decide +kernel
theorem d_MO_sample_129 : decode (mB M_MO_sample) 129 = .ok (.iastore, 1) := by decide +kernel
theorem d_MO_sample_130 : decode (mB M_MO_sample) 130 = .ok (.aload_n 0, 1) := by decide +kernel
theorem d_MO_sample_131 : decode (mB M_MO_sample) 131 = .ok (.getfield 58, 3) := by decide +kernel
theorem d_MO_sample_134 : decode (mB M_MO_sample) 134 = .ok (.iload_n 1, 1) := by decide +kernel
theorem d_MO_sample_135 : decode (mB M_MO_sample) 135 = .ok (.iaload, 1) := by decide +kernel
theorem d_MO_sample_136 : decode (mB M_MO_sample) 136 = .ok (.ireturn, 1) := by decide +kernel
theorem d_MO_unlock_0 : decode (mB M_MO_unlock) 0 = .ok (.aload_n 0, 1) := by decide +kernel
theorem d_MO_unlock_1 : decode (mB M_MO_unlock) 1 = .ok (.iload_n 1, 1) := by decide +kernel
theorem d_MO_unlock_2 : decode (mB M_MO_unlock) 2 = .ok (.invokevirtual 121, 3) := by decide +kernel
theorem d_MO_unlock_5 : decode (mB M_MO_unlock) 5 = .ok (.istore 4, 2) := by decide +kernel
theorem d_MO_unlock_7 : decode (mB M_MO_unlock) 7 = .ok (.aload_n 0, 1) := by decide +kernel
theorem d_MO_unlock_8 : decode (mB M_MO_unlock) 8 = .ok (.iload 4, 2) := by decide +kernel
theorem d_MO_unlock_10 : decode (mB M_MO_unlock) 10 = .ok (.ifCond .ne 7, 3) := by decide +kernel
theorem d_MO_unlock_13 : decode (mB M_MO_unlock) 13 = .ok (.iconst 1, 1) := by decide +kernel
theorem d_MO_unlock_14 : decode (mB M_MO_unlock) 14 = .ok (.goto 4, 3) := by decide +kernel
theorem d_MO_unlock_17 : decode (mB M_MO_unlock) 17 = .ok (.iconst 0, 1) := by decide +kernel
theorem d_MO_unlock_18 : decode (mB M_MO_unlock) 18 = .ok (.iload_n 2, 1) := by decide +kernel
theorem d_MO_unlock_19 : decode (mB M_MO_unlock) 19 = .ok (.iconst 0, 1) := by decide +kernel
theorem d_MO_unlock_20 : decode (mB M_MO_unlock) 20 = .ok (.iconst 3, 1) := by decide +kernel
theorem d_MO_unlock_21 : decode (mB M_MO_unlock) 21 = .ok (.invokestatic 77, 3) := by decide +kernel
theorem d_MO_unlock_24 : decode (mB M_MO_unlock) 24 = .ok (.ifCond .eq 12, 3) := by decide +kernel
theorem d_MO_unlock_27 : decode (mB M_MO_unlock) 27 = .ok (.iload_n 3, 1) := by decide +kernel
theorem d_MO_unlock_28 : decode (mB M_MO_unlock) 28 = .ok (.iconst 0, 1) := by decide +kernel
theorem d_MO_unlock_29 : decode (mB M_MO_unlock) 29 = .ok (.iconst 1, 1) := by decide +kernel
theorem d_MO_unlock_30 : decode (mB M_MO_unlock) 30 = .ok (.invokestatic 77, 3) := by decide +kernel
theorem d_MO_unlock_33 : decode (mB M_MO_unlock) 33 = .ok (.ifCond .ne 7, 3) := by decide +kernel
theorem d_MO_unlock_36 : decode (mB M_MO_unlock) 36 = .ok (.iconst 1, 1) := by decide +kernel
theorem d_MO_unlock_37 : decode (mB M_MO_unlock) 37 = .ok (.goto 4, 3) := by decide +kernel
theorem d_MO_unlock_40 : decode (mB M_MO_unlock) 40 = .ok (.iconst 0, 1) := by decide +kernel
theorem d_MO_unlock_41 : decode (mB M_MO_unlock) 41 = .ok (.iload 4, 2) := by decide +kernel
theorem d_MO_unlock_43 : decode (mB M_MO_unlock) 43 = .ok (.ifCond .eq 17, 3) := by decide +kernel
theorem d_MO_unlock_46 : decode (mB M_MO_unlock) 46 = .ok (.aload_n 0, 1) := by decide +kernel
theorem d_MO_unlock_47 : decode (mB M_MO_unlock) 47 = .ok (.getfield 58, 3) := by decide +kernel
theorem d_MO_unlock_50 : decode (mB M_MO_unlock) 50 = .ok (.iload_n 1, 1) := by decide +kernel
theorem d_MO_unlock_51 : decode (mB M_MO_unlock) 51 = .ok (.iaload, 1) := by decide +kernel
theorem d_MO_unlock_52 : decode (mB M_MO_unlock) 52 = .ok (.iconst 2, 1) := by decide +kernel
theorem d_MO_unlock_53 : decode (mB M_MO_unlock) 53 = .ok (.if_icmp .eq 7, 3) := by decide +kernel
theorem d_MO_unlock_56 : decode (mB M_MO_unlock) 56 = .ok (.iconst 1, 1) := by decide +kernel
theorem d_MO_unlock_57 : decode (mB M_MO_unlock) 57 = .ok (.goto 4, 3) := by decide +kernel
theorem d_MO_unlock_60 : decode (mB M_MO_unlock) 60 = .ok (.iconst 0, 1) := by decide +kernel
theorem d_MO_unlock_61 : decode (mB M_MO_unlock) 61 = .ok (.iconst 0, 1) := by decide +kernel
theorem d_MO_unlock_62 : decode (mB M_MO_unlock) 62 = .ok (.invokevirtual 85, 3) := by decide +kernel
theorem d_MO_unlock_65 : decode (mB M_MO_unlock) 65 = .ok (.ifCond .eq 4, 3) := by decide +kernel
theorem d_MO_unlock_68 : decode (mB M_MO_unlock) 68 = .ok (.return_, 1) := by decide +kernel
theorem d_MO_unlock_69 : decode (mB M_MO_unlock) 69 = .ok (.aload_n 0, 1) := by decide +kernel
theorem d_MO_unlock_70 : decode (mB M_MO_unlock) 70 = .ok (.getfield 52, 3) := by decide +kernel
theorem d_MO_unlock_73 : decode (mB M_MO_unlock) 73 = .ok (.iload_n 1, 1) := by decide +kernel
theorem d_MO_unlock_74 : decode (mB M_MO_unlock) 74 = .ok (.iconst 2, 1) := by decide +kernel
theorem d_MO_unlock_75 : decode (mB M_MO_unlock) 75 = .ok (.iload_n 2, 1) := by decide +kernel
theorem d_MO_unlock_76 : decode (mB M_MO_unlock) 76 = .ok (.imul, 1) := by decide +kernel
theorem d_MO_unlock_77 : decode (mB M_MO_unlock) 77 = .ok (.iload_n 3, 1) := by decide +kernel
theorem d_MO_unlock_78 : decode (mB M_MO_unlock) 78 = .ok (.iadd, 1) := by decide +kernel
theorem d_MO_unlock_79 : decode (mB M_MO_unlock) 79 = .ok (.iastore, 1) := by decide +kernel
theorem d_MO_unlock_80 : decode (mB M_MO_unlock) 80 = .ok (.aload_n 0, 1) := by decide +kernel
theorem d_MO_unlock_81 : decode (mB M_MO_unlock) 81 = .ok (.getfield 58, 3) := by decide +kernel
theorem d_MO_unlock_84 : decode (mB M_MO_unlock) 84 = .ok (.iload_n 1, 1) := by decide +kernel
theorem d_MO_unlock_85 : decode (mB M_MO_unlock) 85 = .ok (.iconst 1, 1) := by decide +kernel
theorem d_MO_unlock_86 : decode (mB M_MO_unlock) 86 = .ok (.iastore, 1) := by decide +kernel
theorem d_MO_unlock_87 : decode (mB M_MO_unlock) 87 = .ok (.return_, 1) := by decide +kernel
theorem d_MO_bitsOf_0 : decode (mB M_MO_bitsOf) 0 = .ok (.iconst 0, 1) := by decide +kernel
theorem d_MO_bitsOf_1 : decode (mB M_MO_bitsOf) 1 = .ok (.istore_n 1, 1) := by decide +kernel
theorem d_MO_bitsOf_2 : decode (mB M_MO_bitsOf) 2 = .ok (.iconst 0, 1) := by decide +kernel
theorem d_MO_bitsOf_3 : decode (mB M_MO_bitsOf) 3 = .ok (.istore_n 2, 1) := by decide +kernel
theorem d_MO_bitsOf_4 : decode (mB M_MO_bitsOf) 4 = .ok (.iload_n 2, 1) := by decide +kernel
theorem d_MO_bitsOf_5 : decode (mB M_MO_bitsOf) 5 = .ok (.bipush 8, 2) := by decide +kernel
theorem d_MO_bitsOf_7 : decode (mB M_MO_bitsOf) 7 = .ok (.if_icmp .ge 17, 3) := by decide +kernel
theorem d_MO_bitsOf_10 : decode (mB M_MO_bitsOf) 10 = .ok (.iload_n 1, 1) := by decide +kernel
theorem d_MO_bitsOf_11 : decode (mB M_MO_bitsOf) 11 = .ok (.iload_n 0, 1) := by decide +kernel
theorem d_MO_bitsOf_12 : decode (mB M_MO_bitsOf) 12 = .ok (.iload_n 2, 1) := by decide +kernel
theorem d_MO_bitsOf_13 : decode (mB M_MO_bitsOf) 13 = .ok (.ishr, 1) := by decide +kernel
theorem d_MO_bitsOf_14 : decode (mB M_MO_bitsOf) 14 = .ok (.iconst 1, 1) := by decide +kernel
theorem d_MO_bitsOf_15 : decode (mB M_MO_bitsOf) 15 = .ok (.iand, 1) := by decide +kernel
theorem d_MO_bitsOf_16 : decode (mB M_MO_bitsOf) 16 = .ok (.iadd, 1) := by decide +kernel
theorem d_MO_bitsOf_17 : decode (mB M_MO_bitsOf) 17 = .ok (.istore_n 1, 1) := by decide +kernel
theorem d_MO_bitsOf_18 : decode (mB M_MO_bitsOf) 18 = .ok (.iinc 2 1, 3) := by decide +kernel
theorem d_MO_bitsOf_21 : decode (mB M_MO_bitsOf) 21 = .ok (.goto (-17), 3) := by decide +kernel
theorem d_MO_bitsOf_24 : decode (mB M_MO_bitsOf) 24 = .ok (.iload_n 1, 1) := by decide +kernel
theorem d_MO_bitsOf_25 : decode (mB M_MO_bitsOf) 25 = .ok (.ireturn, 1) := by decide +kernel
theorem d_MO_antibody_0 : decode (mB M_MO_antibody) 0 = .ok (.aload_n 0, 1) := by decide +kernel
theorem d_MO_antibody_1 : decode (mB M_MO_antibody) 1 = .ok (.aload_n 0, 1) := by decide +kernel
theorem d_MO_antibody_2 : decode (mB M_MO_antibody) 2 = .ok (.iload_n 1, 1) := by decide +kernel
theorem d_MO_antibody_3 : decode (mB M_MO_antibody) 3 = .ok (.invokevirtual 121, 3) := by decide +kernel
theorem d_MO_antibody_6 : decode (mB M_MO_antibody) 6 = .ok (.ifCond .ne 7, 3) := by decide +kernel
theorem d_MO_antibody_9 : decode (mB M_MO_antibody) 9 = .ok (.iconst 1, 1) := by decide +kernel
theorem d_MO_antibody_10 : decode (mB M_MO_antibody) 10 = .ok (.goto 4, 3) := by decide +kernel
theorem d_MO_antibody_13 : decode (mB M_MO_antibody) 13 = .ok (.iconst 0, 1) := by decide +kernel
theorem d_MO_antibody_14 : decode (mB M_MO_antibody) 14 = .ok (.iload_n 2, 1) := by decide +kernel
theorem d_MO_antibody_15 : decode (mB M_MO_antibody) 15 = .ok (.iconst 0, 1) := by decide +kernel
theorem d_MO_antibody_16 : decode (mB M_MO_antibody) 16 = .ok (.bipush 7, 2) := by decide +kernel
theorem d_MO_antibody_18 : decode (mB M_MO_antibody) 18 = .ok (.invokestatic 77, 3) := by decide +kernel
theorem d_MO_antibody_21 : decode (mB M_MO_antibody) 21 = .ok (.ifCond .ne 7, 3) := by decide +kernel
theorem d_MO_antibody_24 : decode (mB M_MO_antibody) 24 = .ok (.iconst 1, 1) := by decide +kernel
theorem d_MO_antibody_25 : decode (mB M_MO_antibody) 25 = .ok (.goto 4, 3) := by decide +kernel
theorem d_MO_antibody_28 : decode (mB M_MO_antibody) 28 = .ok (.iconst 0, 1) := by decide +kernel
theorem d_MO_antibody_29 : decode (mB M_MO_antibody) 29 = .ok (.iconst 0, 1) := by decide +kernel
theorem d_MO_antibody_30 : decode (mB M_MO_antibody) 30 = .ok (.iconst 0, 1) := by decide +kernel
theorem d_MO_antibody_31 : decode (mB M_MO_antibody) 31 = .ok (.invokevirtual 85, 3) := by decide +kernel
theorem d_MO_antibody_34 : decode (mB M_MO_antibody) 34 = .ok (.ifCond .eq 5, 3) := by decide +kernel
theorem d_MO_antibody_37 : decode (mB M_MO_antibody) 37 = .ok (.iconst 0, 1) := by decide +kernel
theorem d_MO_antibody_38 : decode (mB M_MO_antibody) 38 = .ok (.ireturn, 1) := by decide +kernel
theorem d_MO_antibody_39 : decode (mB M_MO_antibody) 39 = .ok (.aload_n 0, 1) := by decide +kernel
theorem d_MO_antibody_40 : decode (mB M_MO_antibody) 40 = .ok (.getfield 61, 3) := by decide +kernel
theorem d_MO_antibody_43 : decode (mB M_MO_antibody) 43 = .ok (.iload_n 1, 1) := by decide +kernel
theorem d_MO_antibody_44 : decode (mB M_MO_antibody) 44 = .ok (.aload_n 0, 1) := by decide +kernel
theorem d_MO_antibody_45 : decode (mB M_MO_antibody) 45 = .ok (.getfield 61, 3) := by decide +kernel
theorem d_MO_antibody_48 : decode (mB M_MO_antibody) 48 = .ok (.iload_n 1, 1) := by decide +kernel
theorem d_MO_antibody_49 : decode (mB M_MO_antibody) 49 = .ok (.iaload, 1) := by decide +kernel
theorem d_MO_antibody_50 : decode (mB M_MO_antibody) 50 = .ok (.iconst 1, 1) := by decide +kernel
theorem d_MO_antibody_51 : decode (mB M_MO_antibody) 51 = .ok (.iload_n 2, 1) := by decide +kernel
theorem d_MO_antibody_52 : decode (mB M_MO_antibody) 52 = .ok (.ishl, 1) := by decide +kernel
theorem d_MO_antibody_53 : decode (mB M_MO_antibody) 53 = .ok (.ior, 1) := by decide +kernel
theorem d_MO_antibody_54 : decode (mB M_MO_antibody) 54 = .ok (.iastore, 1) := by decide +kernel
theorem d_MO_antibody_55 : decode (mB M_MO_antibody) 55 = .ok (.aload_n 0, 1) := by decide +kernel
theorem d_MO_antibody_56 : decode (mB M_MO_antibody) 56 = .ok (.getfield 61, 3) := by decide +kernel
theorem d_MO_antibody_59 : decode (mB M_MO_antibody) 59 = .ok (.iload_n 1, 1) := by decide +kernel
theorem d_MO_antibody_60 : decode (mB M_MO_antibody) 60 = .ok (.iaload, 1) := by decide +kernel
theorem d_MO_antibody_61 : decode (mB M_MO_antibody) 61 = .ok (.invokestatic 124, 3) := by decide +kernel
theorem d_MO_antibody_64 : decode (mB M_MO_antibody) 64 = .ok (.ireturn, 1) := by decide +kernel
theorem d_MO_need_0 : decode (mB M_MO_need) 0 = .ok (.aload_n 0, 1) := by decide +kernel
theorem d_MO_need_1 : decode (mB M_MO_need) 1 = .ok (.aload_n 0, 1) := by decide +kernel
theorem d_MO_need_2 : decode (mB M_MO_need) 2 = .ok (.iload_n 1, 1) := by decide +kernel
theorem d_MO_need_3 : decode (mB M_MO_need) 3 = .ok (.invokevirtual 121, 3) := by decide +kernel
theorem d_MO_need_6 : decode (mB M_MO_need) 6 = .ok (.ifCond .ne 7, 3) := by decide +kernel
theorem d_MO_need_9 : decode (mB M_MO_need) 9 = .ok (.iconst 1, 1) := by decide +kernel
theorem d_MO_need_10 : decode (mB M_MO_need) 10 = .ok (.goto 4, 3) := by decide +kernel
theorem d_MO_need_13 : decode (mB M_MO_need) 13 = .ok (.iconst 0, 1) := by decide +kernel
theorem d_MO_need_14 : decode (mB M_MO_need) 14 = .ok (.iload_n 2, 1) := by decide +kernel
theorem d_MO_need_15 : decode (mB M_MO_need) 15 = .ok (.iconst 0, 1) := by decide +kernel
theorem d_MO_need_16 : decode (mB M_MO_need) 16 = .ok (.bipush 7, 2) := by decide +kernel
theorem d_MO_need_18 : decode (mB M_MO_need) 18 = .ok (.invokestatic 77, 3) := by decide +kernel
theorem d_MO_need_21 : decode (mB M_MO_need) 21 = .ok (.ifCond .ne 7, 3) := by decide +kernel
theorem d_MO_need_24 : decode (mB M_MO_need) 24 = .ok (.iconst 1, 1) := by decide +kernel
theorem d_MO_need_25 : decode (mB M_MO_need) 25 = .ok (.goto 4, 3) := by decide +kernel
theorem d_MO_need_28 : decode (mB M_MO_need) 28 = .ok (.iconst 0, 1) := by decide +kernel
theorem d_MO_need_29 : decode (mB M_MO_need) 29 = .ok (.iconst 0, 1) := by decide +kernel
theorem d_MO_need_30 : decode (mB M_MO_need) 30 = .ok (.iconst 0, 1) := by decide +kernel
theorem d_MO_need_31 : decode (mB M_MO_need) 31 = .ok (.invokevirtual 85, 3) := by decide +kernel
theorem d_MO_need_34 : decode (mB M_MO_need) 34 = .ok (.ifCond .eq 5, 3) := by decide +kernel
theorem d_MO_need_37 : decode (mB M_MO_need) 37 = .ok (.iconst 0, 1) := by decide +kernel
theorem d_MO_need_38 : decode (mB M_MO_need) 38 = .ok (.ireturn, 1) := by decide +kernel
theorem d_MO_need_39 : decode (mB M_MO_need) 39 = .ok (.aload_n 0, 1) := by decide +kernel
theorem d_MO_need_40 : decode (mB M_MO_need) 40 = .ok (.getfield 64, 3) := by decide +kernel
theorem d_MO_need_43 : decode (mB M_MO_need) 43 = .ok (.iload_n 1, 1) := by decide +kernel
theorem d_MO_need_44 : decode (mB M_MO_need) 44 = .ok (.iaload, 1) := by decide +kernel
theorem d_MO_need_45 : decode (mB M_MO_need) 45 = .ok (.istore_n 3, 1) := by decide +kernel
theorem d_MO_need_46 : decode (mB M_MO_need) 46 = .ok (.aload_n 0, 1) := by decide +kernel
theorem d_MO_need_47 : decode (mB M_MO_need) 47 = .ok (.getfield 64, 3) := by decide +kernel
theorem d_MO_need_50 : decode (mB M_MO_need) 50 = .ok (.iload_n 1, 1) := by decide +kernel
theorem d_MO_need_51 : decode (mB M_MO_need) 51 = .ok (.iload_n 2, 1) := by decide +kernel
theorem d_MO_need_52 : decode (mB M_MO_need) 52 = .ok (.iastore, 1) := by decide +kernel
theorem d_MO_need_53 : decode (mB M_MO_need) 53 = .ok (.iload_n 3, 1) := by decide +kernel
theorem d_MO_need_54 : decode (mB M_MO_need) 54 = .ok (.ireturn, 1) := by decide +kernel
theorem d_MO_reasonFor_0 : decode (mB M_MO_reasonFor) 0 = .ok (.aload_n 0, 1) := by decide +kernel
theorem d_MO_reasonFor_1 : decode (mB M_MO_reasonFor) 1 = .ok (.getfield 7, 3) := by decide +kernel
theorem d_MO_reasonFor_4 : decode (mB M_MO_reasonFor) 4 = .ok (.iload_n 2, 1) := by decide +kernel
theorem d_MO_reasonFor_5 : decode (mB M_MO_reasonFor) 5 = .ok (.iaload, 1) := by decide +kernel
theorem d_MO_reasonFor_6 : decode (mB M_MO_reasonFor) 6 = .ok (.ifCond .ne 7, 3) := by decide +kernel
theorem d_MO_reasonFor_9 : decode (mB M_MO_reasonFor) 9 = .ok (.iconst 1, 1) := by decide +kernel
theorem d_MO_reasonFor_10 : decode (mB M_MO_reasonFor) 10 = .ok (.goto 4, 3) := by decide +kernel
theorem d_MO_reasonFor_13 : decode (mB M_MO_reasonFor) 13 = .ok (.iconst 0, 1) := by decide +kernel
theorem d_MO_reasonFor_14 : decode (mB M_MO_reasonFor) 14 = .ok (.istore_n 3, 1) := by decide +kernel
theorem d_MO_reasonFor_15 : decode (mB M_MO_reasonFor) 15 = .ok (.aload_n 0, 1) := by decide +kernel
theorem d_MO_reasonFor_16 : decode (mB M_MO_reasonFor) 16 = .ok (.getfield 58, 3) := by decide +kernel
theorem d_MO_reasonFor_19 : decode (mB M_MO_reasonFor) 19 = .ok (.iload_n 1, 1) := by decide +kernel
theorem d_MO_reasonFor_20 : decode (mB M_MO_reasonFor) 20 = .ok (.iaload, 1) := by decide +kernel
theorem d_MO_reasonFor_21 : decode (mB M_MO_reasonFor) 21 = .ok (.iconst 1, 1) := by decide +kernel
theorem d_MO_reasonFor_22 : decode (mB M_MO_reasonFor) 22 = .ok (.if_icmp .ne 7, 3) := by decide +kernel
theorem d_MO_reasonFor_25 : decode (mB M_MO_reasonFor) 25 = .ok (.iconst 1, 1) := by decide +kernel
theorem d_MO_reasonFor_26 : decode (mB M_MO_reasonFor) 26 = .ok (.goto 4, 3) := by decide +kernel
theorem d_MO_reasonFor_29 : decode (mB M_MO_reasonFor) 29 = .ok (.iconst 0, 1) := by decide +kernel
theorem d_MO_reasonFor_30 : decode (mB M_MO_reasonFor) 30 = .ok (.istore 4, 2) := by decide +kernel
theorem d_MO_reasonFor_32 : decode (mB M_MO_reasonFor) 32 = .ok (.iload 4, 2) := by decide +kernel
theorem d_MO_reasonFor_34 : decode (mB M_MO_reasonFor) 34 = .ok (.ifCond .eq 14, 3) := by decide +kernel
theorem d_MO_reasonFor_37 : decode (mB M_MO_reasonFor) 37 = .ok (.aload_n 0, 1) := by decide +kernel
theorem d_MO_reasonFor_38 : decode (mB M_MO_reasonFor) 38 = .ok (.getfield 52, 3) := by decide +kernel
theorem d_MO_reasonFor_41 : decode (mB M_MO_reasonFor) 41 = .ok (.iload_n 1, 1) := by decide +kernel
theorem d_MO_reasonFor_42 : decode (mB M_MO_reasonFor) 42 = .ok (.iaload, 1) := by decide +kernel
theorem d_MO_reasonFor_43 : decode (mB M_MO_reasonFor) 43 = .ok (.iconst 2, 1) := by decide +kernel
theorem d_MO_reasonFor_44 : decode (mB M_MO_reasonFor) 44 = .ok (.idiv, 1) := by decide +kernel
theorem d_MO_reasonFor_45 : decode (mB M_MO_reasonFor) 45 = .ok (.goto 12, 3) := by decide +kernel
theorem d_MO_reasonFor_48 : decode (mB M_MO_reasonFor) 48 = .ok (.iload_n 3, 1) := by decide +kernel
theorem d_MO_reasonFor_49 : decode (mB M_MO_reasonFor) 49 = .ok (.ifCond .eq 7, 3) := by decide +kernel
theorem d_MO_reasonFor_52 : decode (mB M_MO_reasonFor) 52 = .ok (.iconst 0, 1) := by decide +kernel
theorem d_MO_reasonFor_53 : decode (mB M_MO_reasonFor) 53 = .ok (.goto 4, 3) := by decide +kernel
theorem d_MO_reasonFor_56 : decode (mB M_MO_reasonFor) 56 = .ok (.iconst 3, 1) := by decide +kernel
theorem d_MO_reasonFor_57 : decode (mB M_MO_reasonFor) 57 = .ok (.istore 5, 2) := by decide +kernel
theorem d_MO_reasonFor_59 : decode (mB M_MO_reasonFor) 59 = .ok (.iload_n 3, 1) := by decide +kernel
theorem d_MO_reasonFor_60 : decode (mB M_MO_reasonFor) 60 = .ok (.ifCond .eq 12, 3) := by decide +kernel
theorem d_MO_reasonFor_63 : decode (mB M_MO_reasonFor) 63 = .ok (.aload_n 0, 1) := by decide +kernel
theorem d_MO_reasonFor_64 : decode (mB M_MO_reasonFor) 64 = .ok (.getfield 13, 3) := by decide +kernel
theorem d_MO_reasonFor_67 : decode (mB M_MO_reasonFor) 67 = .ok (.iload_n 2, 1) := by decide +kernel
theorem d_MO_reasonFor_68 : decode (mB M_MO_reasonFor) 68 = .ok (.iaload, 1) := by decide +kernel
theorem d_MO_reasonFor_69 : decode (mB M_MO_reasonFor) 69 = .ok (.goto 5, 3) := by decide +kernel
theorem d_MO_reasonFor_72 : decode (mB M_MO_reasonFor) 72 = .ok (.iload 5, 2) := by decide +kernel
theorem d_MO_reasonFor_74 : decode (mB M_MO_reasonFor) 74 = .ok (.istore 6, 2) := by decide +kernel
theorem d_MO_reasonFor_76 : decode (mB M_MO_reasonFor) 76 = .ok (.iload_n 3, 1) := by decide +kernel
theorem d_MO_reasonFor_77 : decode (mB M_MO_reasonFor) 77 = .ok (.ifCond .eq 8, 3) := by decide +kernel
theorem d_MO_reasonFor_80 : decode (mB M_MO_reasonFor) 80 = .ok (.iload 5, 2) := by decide +kernel
theorem d_MO_reasonFor_82 : decode (mB M_MO_reasonFor) 82 = .ok (.goto 9, 3) := by decide +kernel
theorem d_MO_reasonFor_85 : decode (mB M_MO_reasonFor) 85 = .ok (.aload_n 0, 1) := by decide +kernel
theorem d_MO_reasonFor_86 : decode (mB M_MO_reasonFor) 86 = .ok (.getfield 13, 3) := by decide +kernel
theorem d_MO_reasonFor_89 : decode (mB M_MO_reasonFor) 89 = .ok (.iload_n 2, 1) := by decide +kernel
theorem d_MO_reasonFor_90 : decode (mB M_MO_reasonFor) 90 = .ok (.iaload, 1) := by decide +kernel
theorem d_MO_reasonFor_91 : decode (mB M_MO_reasonFor) 91 = .ok (.istore 7, 2) := by decide +kernel
theorem d_MO_reasonFor_93 : decode (mB M_MO_reasonFor) 93 = .ok (.aload_n 0, 1) := by decide +kernel
theorem d_MO_reasonFor_94 : decode (mB M_MO_reasonFor) 94 = .ok (.getfield 7, 3) := by decide +kernel
theorem d_MO_reasonFor_97 : decode (mB M_MO_reasonFor) 97 = .ok (.iload_n 2, 1) := by decide +kernel
theorem d_MO_reasonFor_98 : decode (mB M_MO_reasonFor) 98 = .ok (.iaload, 1) := by decide +kernel
theorem d_MO_reasonFor_99 : decode (mB M_MO_reasonFor) 99 = .ok (.iconst 3, 1) := by decide +kernel
theorem d_MO_reasonFor_100 : decode (mB M_MO_reasonFor) 100 = .ok (.if_icmp .ne 5, 3) := by decide +kernel
theorem d_MO_reasonFor_103 : decode (mB M_MO_reasonFor) 103 = .ok (.iconst 1, 1) := by decide +kernel
theorem d_MO_reasonFor_104 : decode (mB M_MO_reasonFor) 104 = .ok (.ireturn, 1) := by decide +kernel
theorem d_MO_reasonFor_105 : decode (mB M_MO_reasonFor) 105 = .ok (.iload 6, 2) := by decide +kernel
theorem d_MO_reasonFor_107 : decode (mB M_MO_reasonFor) 107 = .ok (.iload 7, 2) := by decide +kernel
theorem d_MO_reasonFor_109 : decode (mB M_MO_reasonFor) 109 = .ok (.iconst (-1), 1) := by decide +kernel
theorem d_MO_reasonFor_110 : decode (mB M_MO_reasonFor) 110 = .ok (.ixor, 1) := by decide +kernel
theorem d_MO_reasonFor_111 : decode (mB M_MO_reasonFor) 111 = .ok (.iand, 1) := by decide +kernel
theorem d_MO_reasonFor_112 : decode (mB M_MO_reasonFor) 112 = .ok (.ifCond .eq 5, 3) := by decide +kernel
theorem d_MO_reasonFor_115 : decode (mB M_MO_reasonFor) 115 = .ok (.iconst 2, 1) := by decide +kernel
theorem d_MO_reasonFor_116 : decode (mB M_MO_reasonFor) 116 = .ok (.ireturn, 1) := by decide +kernel
theorem d_MO_reasonFor_117 : decode (mB M_MO_reasonFor) 117 = .ok (.iload_n 3, 1) := by decide +kernel
theorem d_MO_reasonFor_118 : decode (mB M_MO_reasonFor) 118 = .ok (.ifCond .eq 32, 3) := by decide +kernel
theorem d_MO_reasonFor_121 : decode (mB M_MO_reasonFor) 121 = .ok (.aload_n 0, 1) := by decide +kernel
theorem d_MO_reasonFor_122 : decode (mB M_MO_reasonFor) 122 = .ok (.getfield 16, 3) := by decide +kernel
theorem d_MO_reasonFor_125 : decode (mB M_MO_reasonFor) 125 = .ok (.iload_n 2, 1) := by decide +kernel
theorem d_MO_reasonFor_126 : decode (mB M_MO_reasonFor) 126 = .ok (.iaload, 1) := by decide +kernel
theorem d_MO_reasonFor_127 : decode (mB M_MO_reasonFor) 127 = .ok (.iconst 1, 1) := by decide +kernel
theorem d_MO_reasonFor_128 : decode (mB M_MO_reasonFor) 128 = .ok (.if_icmp .ne 22, 3) := by decide +kernel
theorem d_MO_reasonFor_131 : decode (mB M_MO_reasonFor) 131 = .ok (.iload 4, 2) := by decide +kernel
theorem d_MO_reasonFor_133 : decode (mB M_MO_reasonFor) 133 = .ok (.ifCond .eq 15, 3) := by decide +kernel
theorem d_MO_reasonFor_136 : decode (mB M_MO_reasonFor) 136 = .ok (.aload_n 0, 1) := by decide +kernel
theorem d_MO_reasonFor_137 : decode (mB M_MO_reasonFor) 137 = .ok (.getfield 52, 3) := by decide +kernel
theorem d_MO_reasonFor_140 : decode (mB M_MO_reasonFor) 140 = .ok (.iload_n 1, 1) := by decide +kernel
theorem d_MO_reasonFor_141 : decode (mB M_MO_reasonFor) 141 = .ok (.iaload, 1) := by decide +kernel
theorem d_MO_reasonFor_142 : decode (mB M_MO_reasonFor) 142 = .ok (.iconst 2, 1) := by decide +kernel
theorem d_MO_reasonFor_143 : decode (mB M_MO_reasonFor) 143 = .ok (.irem, 1) := by decide +kernel
theorem d_MO_reasonFor_144 : decode (mB M_MO_reasonFor) 144 = .ok (.iconst 1, 1) := by decide +kernel
theorem d_MO_reasonFor_145 : decode (mB M_MO_reasonFor) 145 = .ok (.if_icmp .eq 5, 3) := by decide +kernel
theorem d_MO_reasonFor_148 : decode (mB M_MO_reasonFor) 148 = .ok (.iconst 3, 1) := by decide +kernel
theorem d_MO_reasonFor_149 : decode (mB M_MO_reasonFor) 149 = .ok (.ireturn, 1) := by decide +kernel
theorem d_MO_reasonFor_150 : decode (mB M_MO_reasonFor) 150 = .ok (.iload_n 3, 1) := by decide +kernel
theorem d_MO_reasonFor_151 : decode (mB M_MO_reasonFor) 151 = .ok (.ifCond .eq 23, 3) := by decide +kernel
theorem d_MO_reasonFor_154 : decode (mB M_MO_reasonFor) 154 = .ok (.aload_n 0, 1) := by decide +kernel
theorem d_MO_reasonFor_155 : decode (mB M_MO_reasonFor) 155 = .ok (.getfield 61, 3) := by decide +kernel
theorem d_MO_reasonFor_158 : decode (mB M_MO_reasonFor) 158 = .ok (.iload_n 1, 1) := by decide +kernel
theorem d_MO_reasonFor_159 : decode (mB M_MO_reasonFor) 159 = .ok (.iaload, 1) := by decide +kernel
theorem d_MO_reasonFor_160 : decode (mB M_MO_reasonFor) 160 = .ok (.aload_n 0, 1) := by decide +kernel
theorem d_MO_reasonFor_161 : decode (mB M_MO_reasonFor) 161 = .ok (.getfield 22, 3) := by decide +kernel
theorem d_MO_reasonFor_164 : decode (mB M_MO_reasonFor) 164 = .ok (.iload_n 2, 1) := by decide +kernel
theorem d_MO_reasonFor_165 : decode (mB M_MO_reasonFor) 165 = .ok (.iaload, 1) := by decide +kernel
theorem d_MO_reasonFor_166 : decode (mB M_MO_reasonFor) 166 = .ok (.iconst (-1), 1) := by decide +kernel
theorem d_MO_reasonFor_167 : decode (mB M_MO_reasonFor) 167 = .ok (.ixor, 1) := by decide +kernel
theorem d_MO_reasonFor_168 : decode (mB M_MO_reasonFor) 168 = .ok (.iand, 1) := by decide +kernel
theorem d_MO_reasonFor_169 : decode (mB M_MO_reasonFor) 169 = .ok (.ifCond .eq 5, 3) := by decide +kernel
theorem d_MO_reasonFor_172 : decode (mB M_MO_reasonFor) 172 = .ok (.iconst 4, 1) := by decide +kernel
theorem d_MO_reasonFor_173 : decode (mB M_MO_reasonFor) 173 = .ok (.ireturn, 1) := by decide +kernel
theorem d_MO_reasonFor_174 : decode (mB M_MO_reasonFor) 174 = .ok (.aload_n 0, 1) := by decide +kernel
theorem d_MO_reasonFor_175 : decode (mB M_MO_reasonFor) 175 = .ok (.getfield 64, 3) := by decide +kernel
theorem d_MO_reasonFor_178 : decode (mB M_MO_reasonFor) 178 = .ok (.iload_n 1, 1) := by decide +kernel
theorem d_MO_reasonFor_179 : decode (mB M_MO_reasonFor) 179 = .ok (.iaload, 1) := by decide +kernel
theorem d_MO_reasonFor_180 : decode (mB M_MO_reasonFor) 180 = .ok (.aload_n 0, 1) := by decide +kernel
theorem d_MO_reasonFor_181 : decode (mB M_MO_reasonFor) 181 = .ok (.getfield 25, 3) := by decide +kernel
theorem d_MO_reasonFor_184 : decode (mB M_MO_reasonFor) 184 = .ok (.iload_n 2, 1) := by decide +kernel
theorem d_MO_reasonFor_185 : decode (mB M_MO_reasonFor) 185 = .ok (.iaload, 1) := by decide +kernel
theorem d_MO_reasonFor_186 : decode (mB M_MO_reasonFor) 186 = .ok (.iconst (-1), 1) := by decide +kernel
theorem d_MO_reasonFor_187 : decode (mB M_MO_reasonFor) 187 = .ok (.ixor, 1) := by decide +kernel
theorem d_MO_reasonFor_188 : decode (mB M_MO_reasonFor) 188 = .ok (.iand, 1) := by decide +kernel
theorem d_MO_reasonFor_189 : decode (mB M_MO_reasonFor) 189 = .ok (.ifCond .eq 7, 3) := by decide +kernel
theorem d_MO_reasonFor_192 : decode (mB M_MO_reasonFor) 192 = .ok (.iconst 5, 1) := by decide +kernel
theorem d_MO_reasonFor_193 : decode (mB M_MO_reasonFor) 193 = .ok (.goto 4, 3) := by decide +kernel
theorem d_MO_reasonFor_196 : decode (mB M_MO_reasonFor) 196 = .ok (.iconst 0, 1) := by decide +kernel
theorem d_MO_reasonFor_197 : decode (mB M_MO_reasonFor) 197 = .ok (.ireturn, 1) := by decide +kernel
theorem d_MO_isMatched_0 : decode (mB M_MO_isMatched) 0 = .ok (.aload_n 0, 1) := by decide +kernel
theorem d_MO_isMatched_1 : decode (mB M_MO_isMatched) 1 = .ok (.getfield 67, 3) := by decide +kernel
theorem d_MO_isMatched_4 : decode (mB M_MO_isMatched) 4 = .ok (.bipush 48, 2) := by decide +kernel
theorem d_MO_isMatched_6 : decode (mB M_MO_isMatched) 6 = .ok (.iload_n 1, 1) := by decide +kernel
theorem d_MO_isMatched_7 : decode (mB M_MO_isMatched) 7 = .ok (.imul, 1) := by decide +kernel
theorem d_MO_isMatched_8 : decode (mB M_MO_isMatched) 8 = .ok (.iload_n 2, 1) := by decide +kernel
theorem d_MO_isMatched_9 : decode (mB M_MO_isMatched) 9 = .ok (.iadd, 1) := by decide +kernel
theorem d_MO_isMatched_10 : decode (mB M_MO_isMatched) 10 = .ok (.iaload, 1) := by decide +kernel
theorem d_MO_isMatched_11 : decode (mB M_MO_isMatched) 11 = .ok (.istore_n 3, 1) := by decide +kernel
theorem d_MO_isMatched_12 : decode (mB M_MO_isMatched) 12 = .ok (.aload_n 0, 1) := by decide +kernel
theorem d_MO_isMatched_13 : decode (mB M_MO_isMatched) 13 = .ok (.getfield 7, 3) := by decide +kernel
theorem d_MO_isMatched_16 : decode (mB M_MO_isMatched) 16 = .ok (.iload_n 2, 1) := by decide +kernel
theorem d_MO_isMatched_17 : decode (mB M_MO_isMatched) 17 = .ok (.iaload, 1) := by decide +kernel
theorem d_MO_isMatched_18 : decode (mB M_MO_isMatched) 18 = .ok (.ifCond .ne 19, 3) := by decide +kernel
theorem d_MO_isMatched_21 : decode (mB M_MO_isMatched) 21 = .ok (.iload_n 3, 1) := by decide +kernel
theorem d_MO_isMatched_22 : decode (mB M_MO_isMatched) 22 = .ok (.ifCond .lt 19, 3) := by decide +kernel
theorem d_MO_isMatched_25 : decode (mB M_MO_isMatched) 25 = .ok (.aload_n 0, 1) := by decide +kernel
theorem d_MO_isMatched_26 : decode (mB M_MO_isMatched) 26 = .ok (.getfield 89, 3) := by decide +kernel
theorem d_MO_isMatched_29 : decode (mB M_MO_isMatched) 29 = .ok (.iload_n 3, 1) := by decide +kernel
theorem d_MO_isMatched_30 : decode (mB M_MO_isMatched) 30 = .ok (.isub, 1) := by decide +kernel
theorem d_MO_isMatched_31 : decode (mB M_MO_isMatched) 31 = .ok (.sipush 4320, 3) := by decide +kernel
theorem d_MO_isMatched_34 : decode (mB M_MO_isMatched) 34 = .ok (.if_icmp .ge 7, 3) := by decide +kernel
theorem d_MO_isMatched_37 : decode (mB M_MO_isMatched) 37 = .ok (.iconst 1, 1) := by decide +kernel
theorem d_MO_isMatched_38 : decode (mB M_MO_isMatched) 38 = .ok (.goto 4, 3) := by decide +kernel
theorem d_MO_isMatched_41 : decode (mB M_MO_isMatched) 41 = .ok (.iconst 0, 1) := by decide +kernel
theorem d_MO_isMatched_42 : decode (mB M_MO_isMatched) 42 = .ok (.ireturn, 1) := by decide +kernel
theorem d_MO_crossmatch_0 : decode (mB M_MO_crossmatch) 0 = .ok (.aload_n 0, 1) := by decide +kernel
theorem d_MO_crossmatch_1 : decode (mB M_MO_crossmatch) 1 = .ok (.iload_n 1, 1) := by decide +kernel
theorem d_MO_crossmatch_2 : decode (mB M_MO_crossmatch) 2 = .ok (.invokevirtual 121, 3) := by decide +kernel
theorem d_MO_crossmatch_5 : decode (mB M_MO_crossmatch) 5 = .ok (.ifCond .eq 15, 3) := by decide +kernel
theorem d_MO_crossmatch_8 : decode (mB M_MO_crossmatch) 8 = .ok (.aload_n 0, 1) := by decide +kernel
theorem d_MO_crossmatch_9 : decode (mB M_MO_crossmatch) 9 = .ok (.iload_n 2, 1) := by decide +kernel
theorem d_MO_crossmatch_10 : decode (mB M_MO_crossmatch) 10 = .ok (.invokevirtual 111, 3) := by decide +kernel
theorem d_MO_crossmatch_13 : decode (mB M_MO_crossmatch) 13 = .ok (.ifCond .eq 7, 3) := by decide +kernel
theorem d_MO_crossmatch_16 : decode (mB M_MO_crossmatch) 16 = .ok (.iconst 1, 1) := by decide +kernel
theorem d_MO_crossmatch_17 : decode (mB M_MO_crossmatch) 17 = .ok (.goto 4, 3) := by decide +kernel
theorem d_MO_crossmatch_20 : decode (mB M_MO_crossmatch) 20 = .ok (.iconst 0, 1) := by decide +kernel
theorem d_MO_crossmatch_21 : decode (mB M_MO_crossmatch) 21 = .ok (.istore 4, 2) := by decide +kernel
theorem d_MO_crossmatch_23 : decode (mB M_MO_crossmatch) 23 = .ok (.iload 4, 2) := by decide +kernel
theorem d_MO_crossmatch_25 : decode (mB M_MO_crossmatch) 25 = .ok (.ifCond .eq 24, 3) := by decide +kernel
theorem d_MO_crossmatch_28 : decode (mB M_MO_crossmatch) 28 = .ok (.aload_n 0, 1) := by decide +kernel
theorem d_MO_crossmatch_29 : decode (mB M_MO_crossmatch) 29 = .ok (.iload_n 2, 1) := by decide +kernel
theorem d_MO_crossmatch_30 : decode (mB M_MO_crossmatch) 30 = .ok (.invokevirtual 95, 3) := by decide +kernel
theorem d_MO_crossmatch_33 : decode (mB M_MO_crossmatch) 33 = .ok (.ifCond .eq 12, 3) := by decide +kernel
theorem d_MO_crossmatch_36 : decode (mB M_MO_crossmatch) 36 = .ok (.aload_n 0, 1) := by decide +kernel
theorem d_MO_crossmatch_37 : decode (mB M_MO_crossmatch) 37 = .ok (.iload_n 2, 1) := by decide +kernel
theorem d_MO_crossmatch_38 : decode (mB M_MO_crossmatch) 38 = .ok (.invokevirtual 95, 3) := by decide +kernel
theorem d_MO_crossmatch_41 : decode (mB M_MO_crossmatch) 41 = .ok (.iconst 1, 1) := by decide +kernel
theorem d_MO_crossmatch_42 : decode (mB M_MO_crossmatch) 42 = .ok (.if_icmp .ne 7, 3) := by decide +kernel
theorem d_MO_crossmatch_45 : decode (mB M_MO_crossmatch) 45 = .ok (.iconst 1, 1) := by decide +kernel
theorem d_MO_crossmatch_46 : decode (mB M_MO_crossmatch) 46 = .ok (.goto 4, 3) := by decide +kernel
theorem d_MO_crossmatch_49 : decode (mB M_MO_crossmatch) 49 = .ok (.iconst 0, 1) := by decide +kernel
theorem d_MO_crossmatch_50 : decode (mB M_MO_crossmatch) 50 = .ok (.istore 5, 2) := by decide +kernel
theorem d_MO_crossmatch_52 : decode (mB M_MO_crossmatch) 52 = .ok (.aload_n 0, 1) := by decide +kernel
theorem d_MO_crossmatch_53 : decode (mB M_MO_crossmatch) 53 = .ok (.iload 4, 2) := by decide +kernel
theorem d_MO_crossmatch_55 : decode (mB M_MO_crossmatch) 55 = .ok (.ifCond .ne 7, 3) := by decide +kernel
theorem d_MO_crossmatch_58 : decode (mB M_MO_crossmatch) 58 = .ok (.iconst 1, 1) := by decide +kernel
theorem d_MO_crossmatch_59 : decode (mB M_MO_crossmatch) 59 = .ok (.goto 4, 3) := by decide +kernel
theorem d_MO_crossmatch_62 : decode (mB M_MO_crossmatch) 62 = .ok (.iconst 0, 1) := by decide +kernel
theorem d_MO_crossmatch_63 : decode (mB M_MO_crossmatch) 63 = .ok (.iload 5, 2) := by decide +kernel
theorem d_MO_crossmatch_65 : decode (mB M_MO_crossmatch) 65 = .ok (.ifCond .ne 7, 3) := by decide +kernel
theorem d_MO_crossmatch_68 : decode (mB M_MO_crossmatch) 68 = .ok (.iconst 1, 1) := by decide +kernel
theorem d_MO_crossmatch_69 : decode (mB M_MO_crossmatch) 69 = .ok (.goto 4, 3) := by decide +kernel
theorem d_MO_crossmatch_72 : decode (mB M_MO_crossmatch) 72 = .ok (.iconst 0, 1) := by decide +kernel
theorem d_MO_crossmatch_73 : decode (mB M_MO_crossmatch) 73 = .ok (.iload 4, 2) := by decide +kernel
theorem d_MO_crossmatch_75 : decode (mB M_MO_crossmatch) 75 = .ok (.ifCond .eq 16, 3) := by decide +kernel
theorem d_MO_crossmatch_78 : decode (mB M_MO_crossmatch) 78 = .ok (.aload_n 0, 1) := by decide +kernel
theorem d_MO_crossmatch_79 : decode (mB M_MO_crossmatch) 79 = .ok (.getfield 7, 3) := by decide +kernel
theorem d_MO_crossmatch_82 : decode (mB M_MO_crossmatch) 82 = .ok (.iload_n 2, 1) := by decide +kernel
theorem d_MO_crossmatch_83 : decode (mB M_MO_crossmatch) 83 = .ok (.iaload, 1) := by decide +kernel
theorem d_MO_crossmatch_84 : decode (mB M_MO_crossmatch) 84 = .ok (.ifCond .eq 7, 3) := by decide +kernel
theorem d_MO_crossmatch_87 : decode (mB M_MO_crossmatch) 87 = .ok (.iconst 1, 1) := by decide +kernel
theorem d_MO_crossmatch_88 : decode (mB M_MO_crossmatch) 88 = .ok (.goto 4, 3) := by decide +kernel
theorem d_MO_crossmatch_91 : decode (mB M_MO_crossmatch) 91 = .ok (.iconst 0, 1) := by decide +kernel
theorem d_MO_crossmatch_92 : decode (mB M_MO_crossmatch) 92 = .ok (.iconst 0, 1) := by decide +kernel
theorem d_MO_crossmatch_93 : decode (mB M_MO_crossmatch) 93 = .ok (.invokevirtual 85, 3) := by decide +kernel
theorem d_MO_crossmatch_96 : decode (mB M_MO_crossmatch) 96 = .ok (.ifCond .ne 26, 3) := by decide +kernel
theorem d_MO_crossmatch_99 : decode (mB M_MO_crossmatch) 99 = .ok (.aload_n 0, 1) := by decide +kernel
theorem d_MO_crossmatch_100 : decode (mB M_MO_crossmatch) 100 = .ok (.getfield 67, 3) := by decide +kernel
theorem d_MO_crossmatch_103 : decode (mB M_MO_crossmatch) 103 = .ok (.bipush 48, 2) := by decide +kernel
theorem d_MO_crossmatch_105 : decode (mB M_MO_crossmatch) 105 = .ok (.iload_n 1, 1) := by decide +kernel
theorem d_MO_crossmatch_106 : decode (mB M_MO_crossmatch) 106 = .ok (.imul, 1) := by decide +kernel
theorem d_MO_crossmatch_107 : decode (mB M_MO_crossmatch) 107 = .ok (.iload_n 2, 1) := by decide +kernel
theorem d_MO_crossmatch_108 : decode (mB M_MO_crossmatch) 108 = .ok (.iadd, 1) := by decide +kernel
theorem d_MO_crossmatch_109 : decode (mB M_MO_crossmatch) 109 = .ok (.iload_n 3, 1) := by decide +kernel
theorem d_MO_crossmatch_110 : decode (mB M_MO_crossmatch) 110 = .ok (.ifCond .eq 10, 3) := by decide +kernel
theorem d_MO_crossmatch_113 : decode (mB M_MO_crossmatch) 113 = .ok (.aload_n 0, 1) := by decide +kernel
theorem d_MO_crossmatch_114 : decode (mB M_MO_crossmatch) 114 = .ok (.getfield 89, 3) := by decide +kernel
theorem d_MO_crossmatch_117 : decode (mB M_MO_crossmatch) 117 = .ok (.goto 4, 3) := by decide +kernel
theorem d_MO_crossmatch_120 : decode (mB M_MO_crossmatch) 120 = .ok (.iconst (-1), 1) := by decide +kernel
theorem d_MO_crossmatch_121 : decode (mB M_MO_crossmatch) 121 = .ok (.iastore, 1) := by decide +kernel
theorem d_MO_crossmatch_122 : decode (mB M_MO_crossmatch) 122 = .ok (.return_, 1) := by decide +kernel
theorem d_MO_reserve_0 : decode (mB M_MO_reserve) 0 = .ok (.aload_n 0, 1) := by decide +kernel
theorem d_MO_reserve_1 : decode (mB M_MO_reserve) 1 = .ok (.iload_n 1, 1) := by decide +kernel
theorem d_MO_reserve_2 : decode (mB M_MO_reserve) 2 = .ok (.invokevirtual 121, 3) := by decide +kernel
theorem d_MO_reserve_5 : decode (mB M_MO_reserve) 5 = .ok (.ifCond .eq 15, 3) := by decide +kernel
theorem d_MO_reserve_8 : decode (mB M_MO_reserve) 8 = .ok (.aload_n 0, 1) := by decide +kernel
theorem d_MO_reserve_9 : decode (mB M_MO_reserve) 9 = .ok (.iload_n 2, 1) := by decide +kernel
theorem d_MO_reserve_10 : decode (mB M_MO_reserve) 10 = .ok (.invokevirtual 111, 3) := by decide +kernel
theorem d_MO_reserve_13 : decode (mB M_MO_reserve) 13 = .ok (.ifCond .eq 7, 3) := by decide +kernel
theorem d_MO_reserve_16 : decode (mB M_MO_reserve) 16 = .ok (.iconst 1, 1) := by decide +kernel
theorem d_MO_reserve_17 : decode (mB M_MO_reserve) 17 = .ok (.goto 4, 3) := by decide +kernel
theorem d_MO_reserve_20 : decode (mB M_MO_reserve) 20 = .ok (.iconst 0, 1) := by decide +kernel
theorem d_MO_reserve_21 : decode (mB M_MO_reserve) 21 = .ok (.istore_n 3, 1) := by decide +kernel
theorem d_MO_reserve_22 : decode (mB M_MO_reserve) 22 = .ok (.iload_n 3, 1) := by decide +kernel
theorem d_MO_reserve_23 : decode (mB M_MO_reserve) 23 = .ok (.ifCond .eq 25, 3) := by decide +kernel
theorem d_MO_reserve_26 : decode (mB M_MO_reserve) 26 = .ok (.aload_n 0, 1) := by decide +kernel
theorem d_MO_reserve_27 : decode (mB M_MO_reserve) 27 = .ok (.iload_n 2, 1) := by decide +kernel
theorem d_MO_reserve_28 : decode (mB M_MO_reserve) 28 = .ok (.invokevirtual 114, 3) := by decide +kernel
theorem d_MO_reserve_31 : decode (mB M_MO_reserve) 31 = .ok (.ifCond .eq 17, 3) := by decide +kernel
theorem d_MO_reserve_34 : decode (mB M_MO_reserve) 34 = .ok (.aload_n 0, 1) := by decide +kernel
theorem d_MO_reserve_35 : decode (mB M_MO_reserve) 35 = .ok (.getfield 58, 3) := by decide +kernel
theorem d_MO_reserve_38 : decode (mB M_MO_reserve) 38 = .ok (.iload_n 1, 1) := by decide +kernel
theorem d_MO_reserve_39 : decode (mB M_MO_reserve) 39 = .ok (.iaload, 1) := by decide +kernel
theorem d_MO_reserve_40 : decode (mB M_MO_reserve) 40 = .ok (.iconst 2, 1) := by decide +kernel
theorem d_MO_reserve_41 : decode (mB M_MO_reserve) 41 = .ok (.if_icmp .eq 7, 3) := by decide +kernel
theorem d_MO_reserve_44 : decode (mB M_MO_reserve) 44 = .ok (.iconst 1, 1) := by decide +kernel
theorem d_MO_reserve_45 : decode (mB M_MO_reserve) 45 = .ok (.goto 4, 3) := by decide +kernel
theorem d_MO_reserve_48 : decode (mB M_MO_reserve) 48 = .ok (.iconst 0, 1) := by decide +kernel
theorem d_MO_reserve_49 : decode (mB M_MO_reserve) 49 = .ok (.istore 4, 2) := by decide +kernel
theorem d_MO_reserve_51 : decode (mB M_MO_reserve) 51 = .ok (.aload_n 0, 1) := by decide +kernel
theorem d_MO_reserve_52 : decode (mB M_MO_reserve) 52 = .ok (.iload_n 3, 1) := by decide +kernel
theorem d_MO_reserve_53 : decode (mB M_MO_reserve) 53 = .ok (.ifCond .ne 7, 3) := by decide +kernel
theorem d_MO_reserve_56 : decode (mB M_MO_reserve) 56 = .ok (.iconst 1, 1) := by decide +kernel
theorem d_MO_reserve_57 : decode (mB M_MO_reserve) 57 = .ok (.goto 4, 3) := by decide +kernel
theorem d_MO_reserve_60 : decode (mB M_MO_reserve) 60 = .ok (.iconst 0, 1) := by decide +kernel
theorem d_MO_reserve_61 : decode (mB M_MO_reserve) 61 = .ok (.iload 4, 2) := by decide +kernel
theorem d_MO_reserve_63 : decode (mB M_MO_reserve) 63 = .ok (.ifCond .ne 7, 3) := by decide +kernel
theorem d_MO_reserve_66 : decode (mB M_MO_reserve) 66 = .ok (.iconst 1, 1) := by decide +kernel
theorem d_MO_reserve_67 : decode (mB M_MO_reserve) 67 = .ok (.goto 4, 3) := by decide +kernel
theorem d_MO_reserve_70 : decode (mB M_MO_reserve) 70 = .ok (.iconst 0, 1) := by decide +kernel
theorem d_MO_reserve_71 : decode (mB M_MO_reserve) 71 = .ok (.iload 4, 2) := by decide +kernel
theorem d_MO_reserve_73 : decode (mB M_MO_reserve) 73 = .ok (.ifCond .eq 25, 3) := by decide +kernel
theorem d_MO_reserve_76 : decode (mB M_MO_reserve) 76 = .ok (.aload_n 0, 1) := by decide +kernel
theorem d_MO_reserve_77 : decode (mB M_MO_reserve) 77 = .ok (.iload_n 1, 1) := by decide +kernel
theorem d_MO_reserve_78 : decode (mB M_MO_reserve) 78 = .ok (.iload_n 2, 1) := by decide +kernel
theorem d_MO_reserve_79 : decode (mB M_MO_reserve) 79 = .ok (.invokevirtual 127, 3) := by decide +kernel
theorem d_MO_reserve_82 : decode (mB M_MO_reserve) 82 = .ok (.ifCond .ne 12, 3) := by decide +kernel
theorem d_MO_reserve_85 : decode (mB M_MO_reserve) 85 = .ok (.aload_n 0, 1) := by decide +kernel
theorem d_MO_reserve_86 : decode (mB M_MO_reserve) 86 = .ok (.iload_n 1, 1) := by decide +kernel
theorem d_MO_reserve_87 : decode (mB M_MO_reserve) 87 = .ok (.iload_n 2, 1) := by decide +kernel
theorem d_MO_reserve_88 : decode (mB M_MO_reserve) 88 = .ok (.invokevirtual 131, 3) := by decide +kernel
theorem d_MO_reserve_91 : decode (mB M_MO_reserve) 91 = .ok (.ifCond .ne 7, 3) := by decide +kernel
theorem d_MO_reserve_94 : decode (mB M_MO_reserve) 94 = .ok (.iconst 1, 1) := by decide +kernel
theorem d_MO_reserve_95 : decode (mB M_MO_reserve) 95 = .ok (.goto 4, 3) := by decide +kernel
theorem d_MO_reserve_98 : decode (mB M_MO_reserve) 98 = .ok (.iconst 0, 1) := by decide +kernel
theorem d_MO_reserve_99 : decode (mB M_MO_reserve) 99 = .ok (.iconst 0, 1) := by decide +kernel
theorem d_MO_reserve_100 : decode (mB M_MO_reserve) 100 = .ok (.invokevirtual 85, 3) := by decide +kernel
theorem d_MO_reserve_103 : decode (mB M_MO_reserve) 103 = .ok (.ifCond .eq 5, 3) := by decide +kernel
theorem d_MO_reserve_106 : decode (mB M_MO_reserve) 106 = .ok (.iconst 0, 1) := by decide +kernel
theorem d_MO_reserve_107 : decode (mB M_MO_reserve) 107 = .ok (.ireturn, 1) := by decide +kernel
theorem d_MO_reserve_108 : decode (mB M_MO_reserve) 108 = .ok (.aload_n 0, 1) := by decide +kernel
theorem d_MO_reserve_109 : decode (mB M_MO_reserve) 109 = .ok (.getfield 34, 3) := by decide +kernel
theorem d_MO_reserve_112 : decode (mB M_MO_reserve) 112 = .ok (.iload_n 2, 1) := by decide +kernel
theorem d_MO_reserve_113 : decode (mB M_MO_reserve) 113 = .ok (.iconst 1, 1) := by decide +kernel
theorem d_MO_reserve_114 : decode (mB M_MO_reserve) 114 = .ok (.iastore, 1) := by decide +kernel
theorem d_MO_reserve_115 : decode (mB M_MO_reserve) 115 = .ok (.aload_n 0, 1) := by decide +kernel
theorem d_MO_reserve_116 : decode (mB M_MO_reserve) 116 = .ok (.getfield 37, 3) := by decide +kernel
theorem d_MO_reserve_119 : decode (mB M_MO_reserve) 119 = .ok (.iload_n 2, 1) := by decide +kernel
theorem d_MO_reserve_120 : decode (mB M_MO_reserve) 120 = .ok (.iload_n 1, 1) := by decide +kernel
theorem d_MO_reserve_121 : decode (mB M_MO_reserve) 121 = .ok (.iastore, 1) := by decide +kernel
theorem d_MO_reserve_122 : decode (mB M_MO_reserve) 122 = .ok (.aload_n 0, 1) := by decide +kernel
theorem d_MO_reserve_123 : decode (mB M_MO_reserve) 123 = .ok (.getfield 40, 3) := by decide +kernel
theorem d_MO_reserve_126 : decode (mB M_MO_reserve) 126 = .ok (.iload_n 2, 1) := by decide +kernel
theorem d_MO_reserve_127 : decode (mB M_MO_reserve) 127 = .ok (.aload_n 0, 1) := by decide +kernel
theorem d_MO_reserve_128 : decode (mB M_MO_reserve) 128 = .ok (.getfield 89, 3) := by decide +kernel
theorem d_MO_reserve_131 : decode (mB M_MO_reserve) 131 = .ok (.iastore, 1) := by decide +kernel
theorem d_MO_reserve_132 : decode (mB M_MO_reserve) 132 = .ok (.aload_n 0, 1) := by decide +kernel
theorem d_MO_reserve_133 : decode (mB M_MO_reserve) 133 = .ok (.getfield 89, 3) := by decide +kernel
theorem d_MO_reserve_136 : decode (mB M_MO_reserve) 136 = .ok (.sipush 4320, 3) := by decide +kernel
theorem d_MO_reserve_139 : decode (mB M_MO_reserve) 139 = .ok (.iadd, 1) := by decide +kernel
theorem d_MO_reserve_140 : decode (mB M_MO_reserve) 140 = .ok (.ireturn, 1) := by decide +kernel
theorem d_MO_release_0 : decode (mB M_MO_release) 0 = .ok (.aload_n 0, 1) := by decide +kernel
theorem d_MO_release_1 : decode (mB M_MO_release) 1 = .ok (.iload_n 1, 1) := by decide +kernel
theorem d_MO_release_2 : decode (mB M_MO_release) 2 = .ok (.invokevirtual 111, 3) := by decide +kernel
theorem d_MO_release_5 : decode (mB M_MO_release) 5 = .ok (.istore_n 2, 1) := by decide +kernel
theorem d_MO_release_6 : decode (mB M_MO_release) 6 = .ok (.aload_n 0, 1) := by decide +kernel
theorem d_MO_release_7 : decode (mB M_MO_release) 7 = .ok (.iload_n 2, 1) := by decide +kernel
theorem d_MO_release_8 : decode (mB M_MO_release) 8 = .ok (.ifCond .ne 7, 3) := by decide +kernel
theorem d_MO_release_11 : decode (mB M_MO_release) 11 = .ok (.iconst 1, 1) := by decide +kernel
theorem d_MO_release_12 : decode (mB M_MO_release) 12 = .ok (.goto 4, 3) := by decide +kernel
theorem d_MO_release_15 : decode (mB M_MO_release) 15 = .ok (.iconst 0, 1) := by decide +kernel
theorem d_MO_release_16 : decode (mB M_MO_release) 16 = .ok (.iload_n 2, 1) := by decide +kernel
theorem d_MO_release_17 : decode (mB M_MO_release) 17 = .ok (.ifCond .eq 16, 3) := by decide +kernel
theorem d_MO_release_20 : decode (mB M_MO_release) 20 = .ok (.aload_n 0, 1) := by decide +kernel
theorem d_MO_release_21 : decode (mB M_MO_release) 21 = .ok (.iload_n 1, 1) := by decide +kernel
theorem d_MO_release_22 : decode (mB M_MO_release) 22 = .ok (.invokevirtual 95, 3) := by decide +kernel
theorem d_MO_release_25 : decode (mB M_MO_release) 25 = .ok (.iconst 1, 1) := by decide +kernel
theorem d_MO_release_26 : decode (mB M_MO_release) 26 = .ok (.if_icmp .eq 7, 3) := by decide +kernel
theorem d_MO_release_29 : decode (mB M_MO_release) 29 = .ok (.iconst 1, 1) := by decide +kernel
theorem d_MO_release_30 : decode (mB M_MO_release) 30 = .ok (.goto 4, 3) := by decide +kernel
theorem d_MO_release_33 : decode (mB M_MO_release) 33 = .ok (.iconst 0, 1) := by decide +kernel
theorem d_MO_release_34 : decode (mB M_MO_release) 34 = .ok (.iconst 0, 1) := by decide +kernel
theorem d_MO_release_35 : decode (mB M_MO_release) 35 = .ok (.iconst 0, 1) := by decide +kernel
theorem d_MO_release_36 : decode (mB M_MO_release) 36 = .ok (.invokevirtual 85, 3) := by decide +kernel
theorem d_MO_release_39 : decode (mB M_MO_release) 39 = .ok (.ifCond .eq 5, 3) := by decide +kernel
theorem d_MO_release_42 : decode (mB M_MO_release) 42 = .ok (.iconst 0, 1) := by decide +kernel
theorem d_MO_release_43 : decode (mB M_MO_release) 43 = .ok (.ireturn, 1) := by decide +kernel
theorem d_MO_release_44 : decode (mB M_MO_release) 44 = .ok (.aload_n 0, 1) := by decide +kernel
theorem d_MO_release_45 : decode (mB M_MO_release) 45 = .ok (.getfield 34, 3) := by decide +kernel
theorem d_MO_release_48 : decode (mB M_MO_release) 48 = .ok (.iload_n 1, 1) := by decide +kernel
theorem d_MO_release_49 : decode (mB M_MO_release) 49 = .ok (.iconst 0, 1) := by decide +kernel
theorem d_MO_release_50 : decode (mB M_MO_release) 50 = .ok (.iastore, 1) := by decide +kernel
theorem d_MO_release_51 : decode (mB M_MO_release) 51 = .ok (.aload_n 0, 1) := by decide +kernel
theorem d_MO_release_52 : decode (mB M_MO_release) 52 = .ok (.getfield 37, 3) := by decide +kernel
theorem d_MO_release_55 : decode (mB M_MO_release) 55 = .ok (.iload_n 1, 1) := by decide +kernel
theorem d_MO_release_56 : decode (mB M_MO_release) 56 = .ok (.iaload, 1) := by decide +kernel
theorem d_MO_release_57 : decode (mB M_MO_release) 57 = .ok (.ireturn, 1) := by decide +kernel
theorem d_MO_mayGo_0 : decode (mB M_MO_mayGo) 0 = .ok (.aload_n 0, 1) := by decide +kernel
theorem d_MO_mayGo_1 : decode (mB M_MO_mayGo) 1 = .ok (.iload_n 2, 1) := by decide +kernel
theorem d_MO_mayGo_2 : decode (mB M_MO_mayGo) 2 = .ok (.invokevirtual 95, 3) := by decide +kernel
theorem d_MO_mayGo_5 : decode (mB M_MO_mayGo) 5 = .ok (.istore_n 3, 1) := by decide +kernel
theorem d_MO_mayGo_6 : decode (mB M_MO_mayGo) 6 = .ok (.iload_n 3, 1) := by decide +kernel
theorem d_MO_mayGo_7 : decode (mB M_MO_mayGo) 7 = .ok (.ifCond .eq 18, 3) := by decide +kernel
theorem d_MO_mayGo_10 : decode (mB M_MO_mayGo) 10 = .ok (.iload_n 3, 1) := by decide +kernel
theorem d_MO_mayGo_11 : decode (mB M_MO_mayGo) 11 = .ok (.iconst 1, 1) := by decide +kernel
theorem d_MO_mayGo_12 : decode (mB M_MO_mayGo) 12 = .ok (.if_icmp .ne 17, 3) := by decide +kernel
theorem d_MO_mayGo_15 : decode (mB M_MO_mayGo) 15 = .ok (.aload_n 0, 1) := by decide +kernel
theorem d_MO_mayGo_16 : decode (mB M_MO_mayGo) 16 = .ok (.getfield 37, 3) := by decide +kernel
theorem d_MO_mayGo_19 : decode (mB M_MO_mayGo) 19 = .ok (.iload_n 2, 1) := by decide +kernel
theorem d_MO_mayGo_20 : decode (mB M_MO_mayGo) 20 = .ok (.iaload, 1) := by decide +kernel
theorem d_MO_mayGo_21 : decode (mB M_MO_mayGo) 21 = .ok (.iload_n 1, 1) := by decide +kernel
theorem d_MO_mayGo_22 : decode (mB M_MO_mayGo) 22 = .ok (.if_icmp .ne 7, 3) := by decide +kernel
theorem d_MO_mayGo_25 : decode (mB M_MO_mayGo) 25 = .ok (.iconst 1, 1) := by decide +kernel
theorem d_MO_mayGo_26 : decode (mB M_MO_mayGo) 26 = .ok (.goto 4, 3) := by decide +kernel
theorem d_MO_mayGo_29 : decode (mB M_MO_mayGo) 29 = .ok (.iconst 0, 1) := by decide +kernel
theorem d_MO_mayGo_30 : decode (mB M_MO_mayGo) 30 = .ok (.istore 4, 2) := by decide +kernel
theorem d_MO_mayGo_32 : decode (mB M_MO_mayGo) 32 = .ok (.iload 4, 2) := by decide +kernel
theorem d_MO_mayGo_34 : decode (mB M_MO_mayGo) 34 = .ok (.ifCond .eq 33, 3) := by decide +kernel
theorem d_MO_mayGo_37 : decode (mB M_MO_mayGo) 37 = .ok (.aload_n 0, 1) := by decide +kernel
theorem d_MO_mayGo_38 : decode (mB M_MO_mayGo) 38 = .ok (.iload_n 2, 1) := by decide +kernel
theorem d_MO_mayGo_39 : decode (mB M_MO_mayGo) 39 = .ok (.invokevirtual 99, 3) := by decide +kernel
theorem d_MO_mayGo_42 : decode (mB M_MO_mayGo) 42 = .ok (.ifCond .ne 25, 3) := by decide +kernel
theorem d_MO_mayGo_45 : decode (mB M_MO_mayGo) 45 = .ok (.aload_n 0, 1) := by decide +kernel
theorem d_MO_mayGo_46 : decode (mB M_MO_mayGo) 46 = .ok (.iload_n 2, 1) := by decide +kernel
theorem d_MO_mayGo_47 : decode (mB M_MO_mayGo) 47 = .ok (.invokevirtual 103, 3) := by decide +kernel
theorem d_MO_mayGo_50 : decode (mB M_MO_mayGo) 50 = .ok (.ifCond .ne 17, 3) := by decide +kernel
theorem d_MO_mayGo_53 : decode (mB M_MO_mayGo) 53 = .ok (.aload_n 0, 1) := by decide +kernel
theorem d_MO_mayGo_54 : decode (mB M_MO_mayGo) 54 = .ok (.getfield 58, 3) := by decide +kernel
theorem d_MO_mayGo_57 : decode (mB M_MO_mayGo) 57 = .ok (.iload_n 1, 1) := by decide +kernel
theorem d_MO_mayGo_58 : decode (mB M_MO_mayGo) 58 = .ok (.iaload, 1) := by decide +kernel
theorem d_MO_mayGo_59 : decode (mB M_MO_mayGo) 59 = .ok (.iconst 2, 1) := by decide +kernel
theorem d_MO_mayGo_60 : decode (mB M_MO_mayGo) 60 = .ok (.if_icmp .eq 7, 3) := by decide +kernel
theorem d_MO_mayGo_63 : decode (mB M_MO_mayGo) 63 = .ok (.iconst 1, 1) := by decide +kernel
theorem d_MO_mayGo_64 : decode (mB M_MO_mayGo) 64 = .ok (.goto 4, 3) := by decide +kernel
theorem d_MO_mayGo_67 : decode (mB M_MO_mayGo) 67 = .ok (.iconst 0, 1) := by decide +kernel
theorem d_MO_mayGo_68 : decode (mB M_MO_mayGo) 68 = .ok (.ireturn, 1) := by decide +kernel
theorem d_MO_go_0 : decode (mB M_MO_go) 0 = .ok (.aload_n 0, 1) := by decide +kernel
theorem d_MO_go_1 : decode (mB M_MO_go) 1 = .ok (.getfield 34, 3) := by decide +kernel
theorem d_MO_go_4 : decode (mB M_MO_go) 4 = .ok (.iload_n 2, 1) := by decide +kernel
theorem d_MO_go_5 : decode (mB M_MO_go) 5 = .ok (.iconst 2, 1) := by decide +kernel
theorem d_MO_go_6 : decode (mB M_MO_go) 6 = .ok (.iastore, 1) := by decide +kernel
theorem d_MO_go_7 : decode (mB M_MO_go) 7 = .ok (.aload_n 0, 1) := by decide +kernel
theorem d_MO_go_8 : decode (mB M_MO_go) 8 = .ok (.getfield 37, 3) := by decide +kernel
theorem d_MO_go_11 : decode (mB M_MO_go) 11 = .ok (.iload_n 2, 1) := by decide +kernel
theorem d_MO_go_12 : decode (mB M_MO_go) 12 = .ok (.iload_n 1, 1) := by decide +kernel
theorem d_MO_go_13 : decode (mB M_MO_go) 13 = .ok (.iastore, 1) := by decide +kernel
theorem d_MO_go_14 : decode (mB M_MO_go) 14 = .ok (.aload_n 0, 1) := by decide +kernel
theorem d_MO_go_15 : decode (mB M_MO_go) 15 = .ok (.getfield 40, 3) := by decide +kernel
theorem d_MO_go_18 : decode (mB M_MO_go) 18 = .ok (.iload_n 2, 1) := by decide +kernel
theorem d_MO_go_19 : decode (mB M_MO_go) 19 = .ok (.aload_n 0, 1) := by decide +kernel
theorem d_MO_go_20 : decode (mB M_MO_go) 20 = .ok (.getfield 89, 3) := by decide +kernel
theorem d_MO_go_23 : decode (mB M_MO_go) 23 = .ok (.iastore, 1) := by decide +kernel
theorem d_MO_go_24 : decode (mB M_MO_go) 24 = .ok (.aload_n 0, 1) := by decide +kernel
theorem d_MO_go_25 : decode (mB M_MO_go) 25 = .ok (.dup, 1) := by decide +kernel
theorem d_MO_go_26 : decode (mB M_MO_go) 26 = .ok (.getfield 134, 3) := by decide +kernel
theorem d_MO_go_29 : decode (mB M_MO_go) 29 = .ok (.iconst 1, 1) := by decide +kernel
theorem d_MO_go_30 : decode (mB M_MO_go) 30 = .ok (.iadd, 1) := by decide +kernel
theorem d_MO_go_31 : decode (mB M_MO_go) 31 = .ok (.putfield 134, 3) := by decide +kernel
theorem d_MO_go_34 : decode (mB M_MO_go) 34 = .ok (.aload_n 0, 1) := by decide +kernel
theorem d_MO_go_35 : decode (mB M_MO_go) 35 = .ok (.getfield 43, 3) := by decide +kernel
theorem d_MO_go_38 : decode (mB M_MO_go) 38 = .ok (.iload_n 2, 1) := by decide +kernel
theorem d_MO_go_39 : decode (mB M_MO_go) 39 = .ok (.aload_n 0, 1) := by decide +kernel
theorem d_MO_go_40 : decode (mB M_MO_go) 40 = .ok (.getfield 134, 3) := by decide +kernel
theorem d_MO_go_43 : decode (mB M_MO_go) 43 = .ok (.iastore, 1) := by decide +kernel
theorem d_MO_go_44 : decode (mB M_MO_go) 44 = .ok (.aload_n 0, 1) := by decide +kernel
theorem d_MO_go_45 : decode (mB M_MO_go) 45 = .ok (.getfield 46, 3) := by decide +kernel
theorem d_MO_go_48 : decode (mB M_MO_go) 48 = .ok (.iload_n 2, 1) := by decide +kernel
theorem d_MO_go_49 : decode (mB M_MO_go) 49 = .ok (.iload_n 3, 1) := by decide +kernel
theorem d_MO_go_50 : decode (mB M_MO_go) 50 = .ok (.iastore, 1) := by decide +kernel
theorem d_MO_go_51 : decode (mB M_MO_go) 51 = .ok (.iconst 0, 1) := by decide +kernel
theorem d_MO_go_52 : decode (mB M_MO_go) 52 = .ok (.istore 4, 2) := by decide +kernel
theorem d_MO_go_54 : decode (mB M_MO_go) 54 = .ok (.iconst 0, 1) := by decide +kernel
theorem d_MO_go_55 : decode (mB M_MO_go) 55 = .ok (.istore 5, 2) := by decide +kernel
theorem d_MO_go_57 : decode (mB M_MO_go) 57 = .ok (.iload 5, 2) := by decide +kernel
theorem d_MO_go_59 : decode (mB M_MO_go) 59 = .ok (.aload_n 0, 1) := by decide +kernel
theorem d_MO_go_60 : decode (mB M_MO_go) 60 = .ok (.getfield 74, 3) := by decide +kernel
theorem d_MO_go_63 : decode (mB M_MO_go) 63 = .ok (.if_icmp .ge 41, 3) := by decide +kernel
theorem d_MO_go_66 : decode (mB M_MO_go) 66 = .ok (.aload_n 0, 1) := by decide +kernel
theorem d_MO_go_67 : decode (mB M_MO_go) 67 = .ok (.getfield 43, 3) := by decide +kernel
theorem d_MO_go_70 : decode (mB M_MO_go) 70 = .ok (.iload 5, 2) := by decide +kernel
theorem d_MO_go_72 : decode (mB M_MO_go) 72 = .ok (.iaload, 1) := by decide +kernel
theorem d_MO_go_73 : decode (mB M_MO_go) 73 = .ok (.ifCond .le 21, 3) := by decide +kernel
theorem d_MO_go_76 : decode (mB M_MO_go) 76 = .ok (.aload_n 0, 1) := by decide +kernel
theorem d_MO_go_77 : decode (mB M_MO_go) 77 = .ok (.getfield 37, 3) := by decide +kernel
theorem d_MO_go_80 : decode (mB M_MO_go) 80 = .ok (.iload 5, 2) := by decide +kernel
theorem d_MO_go_82 : decode (mB M_MO_go) 82 = .ok (.iaload, 1) := by decide +kernel
theorem d_MO_go_83 : decode (mB M_MO_go) 83 = .ok (.iload_n 1, 1) := by decide +kernel
theorem d_MO_go_84 : decode (mB M_MO_go) 84 = .ok (.if_icmp .ne 10, 3) := by decide +kernel
theorem d_MO_go_87 : decode (mB M_MO_go) 87 = .ok (.iload 4, 2) := by decide +kernel
theorem d_MO_go_89 : decode (mB M_MO_go) 89 = .ok (.iconst 1, 1) := by decide +kernel
theorem d_MO_go_90 : decode (mB M_MO_go) 90 = .ok (.iadd, 1) := by decide +kernel
theorem d_MO_go_91 : decode (mB M_MO_go) 91 = .ok (.goto 5, 3) := by decide +kernel
theorem d_MO_go_94 : decode (mB M_MO_go) 94 = .ok (.iload 4, 2) := by decide +kernel
theorem d_MO_go_96 : decode (mB M_MO_go) 96 = .ok (.istore 4, 2) := by decide +kernel
theorem d_MO_go_98 : decode (mB M_MO_go) 98 = .ok (.iinc 5 1, 3) := by decide +kernel
theorem d_MO_go_101 : decode (mB M_MO_go) 101 = .ok (.goto (-44), 3) := by decide +kernel
theorem d_MO_go_104 : decode (mB M_MO_go) 104 = .ok (.iload 4, 2) := by decide +kernel
theorem d_MO_go_106 : decode (mB M_MO_go) 106 = .ok (.ireturn, 1) := by decide +kernel
