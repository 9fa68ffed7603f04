/-! what the bytes of the methods are (by program) -/
theorem d_MO_issue_0 : decode (mB M_MO_issue) 0 = .ok (.aload_n 0, 1) := by decide +kernel
theorem d_MO_issue_1 : decode (mB M_MO_issue) 1 = .ok (.iload_n 1, 1) := by decide +kernel
theorem d_MO_issue_2 : decode (mB M_MO_issue) 2 = .ok (.invokevirtual 121, 3) := by decide +kernel
theorem d_MO_issue_5 : decode (mB M_MO_issue) 5 = .ok (.ifCond .eq 15, 3) := by decide +kernel
theorem d_MO_issue_8 : decode (mB M_MO_issue) 8 = .ok (.aload_n 0, 1) := by decide +kernel
theorem d_MO_issue_9 : decode (mB M_MO_issue) 9 = .ok (.iload_n 2, 1) := by decide +kernel
theorem d_MO_issue_10 : decode (mB M_MO_issue) 10 = .ok (.invokevirtual 111, 3) := by decide +kernel
theorem d_MO_issue_13 : decode (mB M_MO_issue) 13 = .ok (.ifCond .eq 7, 3) := by decide +kernel
theorem d_MO_issue_16 : decode (mB M_MO_issue) 16 = .ok (.iconst 1, 1) := by decide +kernel
theorem d_MO_issue_17 : decode (mB M_MO_issue) 17 = .ok (.goto 4, 3) := by decide +kernel
theorem d_MO_issue_20 : decode (mB M_MO_issue) 20 = .ok (.iconst 0, 1) := by decide +kernel
theorem d_MO_issue_21 : decode (mB M_MO_issue) 21 = .ok (.istore_n 3, 1) := by decide +kernel
theorem d_MO_issue_22 : decode (mB M_MO_issue) 22 = .ok (.iload_n 3, 1) := by decide +kernel
theorem d_MO_issue_23 : decode (mB M_MO_issue) 23 = .ok (.ifCond .eq 42, 3) := by decide +kernel
theorem d_MO_issue_26 : decode (mB M_MO_issue) 26 = .ok (.aload_n 0, 1) := by decide +kernel
theorem d_MO_issue_27 : decode (mB M_MO_issue) 27 = .ok (.iload_n 1, 1) := by decide +kernel
theorem d_MO_issue_28 : decode (mB M_MO_issue) 28 = .ok (.iload_n 2, 1) := by decide +kernel
theorem d_MO_issue_29 : decode (mB M_MO_issue) 29 = .ok (.invokevirtual 137, 3) := by decide +kernel
theorem d_MO_issue_32 : decode (mB M_MO_issue) 32 = .ok (.ifCond .eq 33, 3) := by decide +kernel
theorem d_MO_issue_35 : decode (mB M_MO_issue) 35 = .ok (.aload_n 0, 1) := by decide +kernel
theorem d_MO_issue_36 : decode (mB M_MO_issue) 36 = .ok (.getfield 52, 3) := by decide +kernel
theorem d_MO_issue_39 : decode (mB M_MO_issue) 39 = .ok (.iload_n 1, 1) := by decide +kernel
theorem d_MO_issue_40 : decode (mB M_MO_issue) 40 = .ok (.iaload, 1) := by decide +kernel
theorem d_MO_issue_41 : decode (mB M_MO_issue) 41 = .ok (.ifCond .lt 24, 3) := by decide +kernel
theorem d_MO_issue_44 : decode (mB M_MO_issue) 44 = .ok (.aload_n 0, 1) := by decide +kernel
theorem d_MO_issue_45 : decode (mB M_MO_issue) 45 = .ok (.getfield 89, 3) := by decide +kernel
theorem d_MO_issue_48 : decode (mB M_MO_issue) 48 = .ok (.aload_n 0, 1) := by decide +kernel
theorem d_MO_issue_49 : decode (mB M_MO_issue) 49 = .ok (.getfield 55, 3) := by decide +kernel
theorem d_MO_issue_52 : decode (mB M_MO_issue) 52 = .ok (.iload_n 1, 1) := by decide +kernel
theorem d_MO_issue_53 : decode (mB M_MO_issue) 53 = .ok (.iaload, 1) := by decide +kernel
theorem d_MO_issue_54 : decode (mB M_MO_issue) 54 = .ok (.isub, 1) := by decide +kernel
theorem d_MO_issue_55 : decode (mB M_MO_issue) 55 = .ok (.sipush 4320, 3) := by decide +kernel
theorem d_MO_issue_58 : decode (mB M_MO_issue) 58 = .ok (.if_icmp .ge 7, 3) := by decide +kernel
theorem d_MO_issue_61 : decode (mB M_MO_issue) 61 = .ok (.iconst 1, 1) := by decide +kernel
theorem d_MO_issue_62 : decode (mB M_MO_issue) 62 = .ok (.goto 4, 3) := by decide +kernel
theorem d_MO_issue_65 : decode (mB M_MO_issue) 65 = .ok (.iconst 0, 1) := by decide +kernel
theorem d_MO_issue_66 : decode (mB M_MO_issue) 66 = .ok (.istore 4, 2) := by decide +kernel
theorem d_MO_issue_68 : decode (mB M_MO_issue) 68 = .ok (.aload_n 0, 1) := by decide +kernel
theorem d_MO_issue_69 : decode (mB M_MO_issue) 69 = .ok (.iload_n 3, 1) := by decide +kernel
theorem d_MO_issue_70 : decode (mB M_MO_issue) 70 = .ok (.ifCond .ne 7, 3) := by decide +kernel
theorem d_MO_issue_73 : decode (mB M_MO_issue) 73 = .ok (.iconst 1, 1) := by decide +kernel
theorem d_MO_issue_74 : decode (mB M_MO_issue) 74 = .ok (.goto 4, 3) := by decide +kernel
theorem d_MO_issue_77 : decode (mB M_MO_issue) 77 = .ok (.iconst 0, 1) := by decide +kernel
theorem d_MO_issue_78 : decode (mB M_MO_issue) 78 = .ok (.iload 4, 2) := by decide +kernel
theorem d_MO_issue_80 : decode (mB M_MO_issue) 80 = .ok (.ifCond .ne 7, 3) := by decide +kernel
theorem d_MO_issue_83 : decode (mB M_MO_issue) 83 = .ok (.iconst 1, 1) := by decide +kernel
theorem d_MO_issue_84 : decode (mB M_MO_issue) 84 = .ok (.goto 4, 3) := by decide +kernel
theorem d_MO_issue_87 : decode (mB M_MO_issue) 87 = .ok (.iconst 0, 1) := by decide +kernel
theorem d_MO_issue_88 : decode (mB M_MO_issue) 88 = .ok (.iload 4, 2) := by decide +kernel
theorem d_MO_issue_90 : decode (mB M_MO_issue) 90 = .ok (.ifCond .eq 25, 3) := by decide +kernel
theorem d_MO_issue_93 : decode (mB M_MO_issue) 93 = .ok (.aload_n 0, 1) := by decide +kernel
theorem d_MO_issue_94 : decode (mB M_MO_issue) 94 = .ok (.iload_n 1, 1) := by decide +kernel
theorem d_MO_issue_95 : decode (mB M_MO_issue) 95 = .ok (.iload_n 2, 1) := by decide +kernel
theorem d_MO_issue_96 : decode (mB M_MO_issue) 96 = .ok (.invokevirtual 127, 3) := by decide +kernel
theorem d_MO_issue_99 : decode (mB M_MO_issue) 99 = .ok (.ifCond .ne 12, 3) := by decide +kernel
theorem d_MO_issue_102 : decode (mB M_MO_issue) 102 = .ok (.aload_n 0, 1) := by decide +kernel
theorem d_MO_issue_103 : decode (mB M_MO_issue) 103 = .ok (.iload_n 1, 1) := by decide +kernel
theorem d_MO_issue_104 : decode (mB M_MO_issue) 104 = .ok (.iload_n 2, 1) := by decide +kernel
theorem d_MO_issue_105 : decode (mB M_MO_issue) 105 = .ok (.invokevirtual 131, 3) := by decide +kernel
theorem d_MO_issue_108 : decode (mB M_MO_issue) 108 = .ok (.ifCond .ne 7, 3) := by decide +kernel
theorem d_MO_issue_111 : decode (mB M_MO_issue) 111 = .ok (.iconst 1, 1) := by decide +kernel
theorem d_MO_issue_112 : decode (mB M_MO_issue) 112 = .ok (.goto 4, 3) := by decide +kernel
theorem d_MO_issue_115 : decode (mB M_MO_issue) 115 = .ok (.iconst 0, 1) := by decide +kernel
theorem d_MO_issue_116 : decode (mB M_MO_issue) 116 = .ok (.iconst 0, 1) := by decide +kernel
theorem d_MO_issue_117 : decode (mB M_MO_issue) 117 = .ok (.invokevirtual 85, 3) := by decide +kernel
theorem d_MO_issue_120 : decode (mB M_MO_issue) 120 = .ok (.ifCond .eq 5, 3) := by decide +kernel
theorem d_MO_issue_123 : decode (mB M_MO_issue) 123 = .ok (.iconst 0, 1) := by decide +kernel
theorem d_MO_issue_124 : decode (mB M_MO_issue) 124 = .ok (.ireturn, 1) := by decide +kernel
theorem d_MO_issue_125 : decode (mB M_MO_issue) 125 = .ok (.aload_n 0, 1) := by decide +kernel
theorem d_MO_issue_126 : decode (mB M_MO_issue) 126 = .ok (.iload_n 1, 1) := by decide +kernel
theorem d_MO_issue_127 : decode (mB M_MO_issue) 127 = .ok (.iload_n 2, 1) := by decide +kernel
theorem d_MO_issue_128 : decode (mB M_MO_issue) 128 = .ok (.iconst 0, 1) := by decide +kernel
theorem d_MO_issue_129 : decode (mB M_MO_issue) 129 = .ok (.invokevirtual 140, 3) := by decide +kernel
theorem d_MO_issue_132 : decode (mB M_MO_issue) 132 = .ok (.ireturn, 1) := by decide +kernel
theorem d_MO_emergency_0 : decode (mB M_MO_emergency) 0 = .ok (.aload_n 0, 1) := by decide +kernel
theorem d_MO_emergency_1 : decode (mB M_MO_emergency) 1 = .ok (.iload_n 1, 1) := by decide +kernel
theorem d_MO_emergency_2 : decode (mB M_MO_emergency) 2 = .ok (.invokevirtual 121, 3) := by decide +kernel
theorem d_MO_emergency_5 : decode (mB M_MO_emergency) 5 = .ok (.ifCond .eq 15, 3) := by decide +kernel
theorem d_MO_emergency_8 : decode (mB M_MO_emergency) 8 = .ok (.aload_n 0, 1) := by decide +kernel
theorem d_MO_emergency_9 : decode (mB M_MO_emergency) 9 = .ok (.iload_n 2, 1) := by decide +kernel
theorem d_MO_emergency_10 : decode (mB M_MO_emergency) 10 = .ok (.invokevirtual 111, 3) := by decide +kernel
theorem d_MO_emergency_13 : decode (mB M_MO_emergency) 13 = .ok (.ifCond .eq 7, 3) := by decide +kernel
theorem d_MO_emergency_16 : decode (mB M_MO_emergency) 16 = .ok (.iconst 1, 1) := by decide +kernel
theorem d_MO_emergency_17 : decode (mB M_MO_emergency) 17 = .ok (.goto 4, 3) := by decide +kernel
theorem d_MO_emergency_20 : decode (mB M_MO_emergency) 20 = .ok (.iconst 0, 1) := by decide +kernel
theorem d_MO_emergency_21 : decode (mB M_MO_emergency) 21 = .ok (.istore 4, 2) := by decide +kernel
theorem d_MO_emergency_23 : decode (mB M_MO_emergency) 23 = .ok (.iload 4, 2) := by decide +kernel
theorem d_MO_emergency_25 : decode (mB M_MO_emergency) 25 = .ok (.ifCond .eq 16, 3) := by decide +kernel
theorem d_MO_emergency_28 : decode (mB M_MO_emergency) 28 = .ok (.aload_n 0, 1) := by decide +kernel
theorem d_MO_emergency_29 : decode (mB M_MO_emergency) 29 = .ok (.iload_n 1, 1) := by decide +kernel
theorem d_MO_emergency_30 : decode (mB M_MO_emergency) 30 = .ok (.iload_n 2, 1) := by decide +kernel
theorem d_MO_emergency_31 : decode (mB M_MO_emergency) 31 = .ok (.invokevirtual 137, 3) := by decide +kernel
theorem d_MO_emergency_34 : decode (mB M_MO_emergency) 34 = .ok (.ifCond .eq 7, 3) := by decide +kernel
theorem d_MO_emergency_37 : decode (mB M_MO_emergency) 37 = .ok (.iconst 1, 1) := by decide +kernel
theorem d_MO_emergency_38 : decode (mB M_MO_emergency) 38 = .ok (.goto 4, 3) := by decide +kernel
theorem d_MO_emergency_41 : decode (mB M_MO_emergency) 41 = .ok (.iconst 0, 1) := by decide +kernel
theorem d_MO_emergency_42 : decode (mB M_MO_emergency) 42 = .ok (.istore 5, 2) := by decide +kernel
theorem d_MO_emergency_44 : decode (mB M_MO_emergency) 44 = .ok (.iload 4, 2) := by decide +kernel
theorem d_MO_emergency_46 : decode (mB M_MO_emergency) 46 = .ok (.ifCond .eq 45, 3) := by decide +kernel
theorem d_MO_emergency_49 : decode (mB M_MO_emergency) 49 = .ok (.aload_n 0, 1) := by decide +kernel
theorem d_MO_emergency_50 : decode (mB M_MO_emergency) 50 = .ok (.getfield 7, 3) := by decide +kernel
theorem d_MO_emergency_53 : decode (mB M_MO_emergency) 53 = .ok (.iload_n 2, 1) := by decide +kernel
theorem d_MO_emergency_54 : decode (mB M_MO_emergency) 54 = .ok (.iaload, 1) := by decide +kernel
theorem d_MO_emergency_55 : decode (mB M_MO_emergency) 55 = .ok (.ifCond .ne 12, 3) := by decide +kernel
theorem d_MO_emergency_58 : decode (mB M_MO_emergency) 58 = .ok (.aload_n 0, 1) := by decide +kernel
theorem d_MO_emergency_59 : decode (mB M_MO_emergency) 59 = .ok (.getfield 13, 3) := by decide +kernel
theorem d_MO_emergency_62 : decode (mB M_MO_emergency) 62 = .ok (.iload_n 2, 1) := by decide +kernel
theorem d_MO_emergency_63 : decode (mB M_MO_emergency) 63 = .ok (.iaload, 1) := by decide +kernel
theorem d_MO_emergency_64 : decode (mB M_MO_emergency) 64 = .ok (.ifCond .eq 23, 3) := by decide +kernel
theorem d_MO_emergency_67 : decode (mB M_MO_emergency) 67 = .ok (.aload_n 0, 1) := by decide +kernel
theorem d_MO_emergency_68 : decode (mB M_MO_emergency) 68 = .ok (.getfield 7, 3) := by decide +kernel
theorem d_MO_emergency_71 : decode (mB M_MO_emergency) 71 = .ok (.iload_n 2, 1) := by decide +kernel
theorem d_MO_emergency_72 : decode (mB M_MO_emergency) 72 = .ok (.iaload, 1) := by decide +kernel
theorem d_MO_emergency_73 : decode (mB M_MO_emergency) 73 = .ok (.iconst 1, 1) := by decide +kernel
theorem d_MO_emergency_74 : decode (mB M_MO_emergency) 74 = .ok (.if_icmp .ne 17, 3) := by decide +kernel
theorem d_MO_emergency_77 : decode (mB M_MO_emergency) 77 = .ok (.aload_n 0, 1) := by decide +kernel
theorem d_MO_emergency_78 : decode (mB M_MO_emergency) 78 = .ok (.getfield 13, 3) := by decide +kernel
theorem d_MO_emergency_81 : decode (mB M_MO_emergency) 81 = .ok (.iload_n 2, 1) := by decide +kernel
theorem d_MO_emergency_82 : decode (mB M_MO_emergency) 82 = .ok (.iaload, 1) := by decide +kernel
theorem d_MO_emergency_83 : decode (mB M_MO_emergency) 83 = .ok (.iconst 3, 1) := by decide +kernel
theorem d_MO_emergency_84 : decode (mB M_MO_emergency) 84 = .ok (.if_icmp .ne 7, 3) := by decide +kernel
theorem d_MO_emergency_87 : decode (mB M_MO_emergency) 87 = .ok (.iconst 1, 1) := by decide +kernel
theorem d_MO_emergency_88 : decode (mB M_MO_emergency) 88 = .ok (.goto 4, 3) := by decide +kernel
theorem d_MO_emergency_91 : decode (mB M_MO_emergency) 91 = .ok (.iconst 0, 1) := by decide +kernel
theorem d_MO_emergency_92 : decode (mB M_MO_emergency) 92 = .ok (.istore 6, 2) := by decide +kernel
theorem d_MO_emergency_94 : decode (mB M_MO_emergency) 94 = .ok (.aload_n 0, 1) := by decide +kernel
theorem d_MO_emergency_95 : decode (mB M_MO_emergency) 95 = .ok (.iload 4, 2) := by decide +kernel
theorem d_MO_emergency_97 : decode (mB M_MO_emergency) 97 = .ok (.ifCond .ne 7, 3) := by decide +kernel
theorem d_MO_emergency_100 : decode (mB M_MO_emergency) 100 = .ok (.iconst 1, 1) := by decide +kernel
theorem d_MO_emergency_101 : decode (mB M_MO_emergency) 101 = .ok (.goto 4, 3) := by decide +kernel
theorem d_MO_emergency_104 : decode (mB M_MO_emergency) 104 = .ok (.iconst 0, 1) := by decide +kernel
theorem d_MO_emergency_105 : decode (mB M_MO_emergency) 105 = .ok (.iload_n 3, 1) := by decide +kernel
theorem d_MO_emergency_106 : decode (mB M_MO_emergency) 106 = .ok (.iconst 1, 1) := by decide +kernel
theorem d_MO_emergency_107 : decode (mB M_MO_emergency) 107 = .ok (.sipush 999, 3) := by decide +kernel
theorem d_MO_emergency_110 : decode (mB M_MO_emergency) 110 = .ok (.invokestatic 77, 3) := by decide +kernel
theorem d_MO_emergency_113 : decode (mB M_MO_emergency) 113 = .ok (.ifCond .ne 7, 3) := by decide +kernel
theorem d_MO_emergency_116 : decode (mB M_MO_emergency) 116 = .ok (.iconst 1, 1) := by decide +kernel
theorem d_MO_emergency_117 : decode (mB M_MO_emergency) 117 = .ok (.goto 4, 3) := by decide +kernel
theorem d_MO_emergency_120 : decode (mB M_MO_emergency) 120 = .ok (.iconst 0, 1) := by decide +kernel
theorem d_MO_emergency_121 : decode (mB M_MO_emergency) 121 = .ok (.iload 5, 2) := by decide +kernel
theorem d_MO_emergency_123 : decode (mB M_MO_emergency) 123 = .ok (.ifCond .ne 7, 3) := by decide +kernel
theorem d_MO_emergency_126 : decode (mB M_MO_emergency) 126 = .ok (.iconst 1, 1) := by decide +kernel
theorem d_MO_emergency_127 : decode (mB M_MO_emergency) 127 = .ok (.goto 4, 3) := by decide +kernel
theorem d_MO_emergency_130 : decode (mB M_MO_emergency) 130 = .ok (.iconst 0, 1) := by decide +kernel
theorem d_MO_emergency_131 : decode (mB M_MO_emergency) 131 = .ok (.iload 5, 2) := by decide +kernel
theorem d_MO_emergency_133 : decode (mB M_MO_emergency) 133 = .ok (.ifCond .eq 21, 3) := by decide +kernel
theorem d_MO_emergency_136 : decode (mB M_MO_emergency) 136 = .ok (.iload 6, 2) := by decide +kernel
theorem d_MO_emergency_138 : decode (mB M_MO_emergency) 138 = .ok (.ifCond .eq 12, 3) := by decide +kernel
theorem d_MO_emergency_141 : decode (mB M_MO_emergency) 141 = .ok (.aload_n 0, 1) := by decide +kernel
theorem d_MO_emergency_142 : decode (mB M_MO_emergency) 142 = .ok (.iload_n 1, 1) := by decide +kernel
theorem d_MO_emergency_143 : decode (mB M_MO_emergency) 143 = .ok (.iload_n 2, 1) := by decide +kernel
theorem d_MO_emergency_144 : decode (mB M_MO_emergency) 144 = .ok (.invokevirtual 127, 3) := by decide +kernel
theorem d_MO_emergency_147 : decode (mB M_MO_emergency) 147 = .ok (.ifCond .eq 7, 3) := by decide +kernel
theorem d_MO_emergency_150 : decode (mB M_MO_emergency) 150 = .ok (.iconst 1, 1) := by decide +kernel
theorem d_MO_emergency_151 : decode (mB M_MO_emergency) 151 = .ok (.goto 4, 3) := by decide +kernel
theorem d_MO_emergency_154 : decode (mB M_MO_emergency) 154 = .ok (.iconst 0, 1) := by decide +kernel
theorem d_MO_emergency_155 : decode (mB M_MO_emergency) 155 = .ok (.invokevirtual 85, 3) := by decide +kernel
theorem d_MO_emergency_158 : decode (mB M_MO_emergency) 158 = .ok (.ifCond .eq 5, 3) := by decide +kernel
theorem d_MO_emergency_161 : decode (mB M_MO_emergency) 161 = .ok (.iconst 0, 1) := by decide +kernel
theorem d_MO_emergency_162 : decode (mB M_MO_emergency) 162 = .ok (.ireturn, 1) := by decide +kernel
theorem d_MO_emergency_163 : decode (mB M_MO_emergency) 163 = .ok (.aload_n 0, 1) := by decide +kernel
theorem d_MO_emergency_164 : decode (mB M_MO_emergency) 164 = .ok (.iload_n 1, 1) := by decide +kernel
theorem d_MO_emergency_165 : decode (mB M_MO_emergency) 165 = .ok (.iload_n 2, 1) := by decide +kernel
theorem d_MO_emergency_166 : decode (mB M_MO_emergency) 166 = .ok (.iload_n 3, 1) := by decide +kernel
theorem d_MO_emergency_167 : decode (mB M_MO_emergency) 167 = .ok (.invokevirtual 140, 3) := by decide +kernel
theorem d_MO_emergency_170 : decode (mB M_MO_emergency) 170 = .ok (.ireturn, 1) := by decide +kernel
theorem d_MO_giveBack_0 : decode (mB M_MO_giveBack) 0 = .ok (.aload_n 0, 1) := by decide +kernel
theorem d_MO_giveBack_1 : decode (mB M_MO_giveBack) 1 = .ok (.iload_n 1, 1) := by decide +kernel
theorem d_MO_giveBack_2 : decode (mB M_MO_giveBack) 2 = .ok (.invokevirtual 111, 3) := by decide +kernel
theorem d_MO_giveBack_5 : decode (mB M_MO_giveBack) 5 = .ok (.istore_n 2, 1) := by decide +kernel
theorem d_MO_giveBack_6 : decode (mB M_MO_giveBack) 6 = .ok (.aload_n 0, 1) := by decide +kernel
theorem d_MO_giveBack_7 : decode (mB M_MO_giveBack) 7 = .ok (.iload_n 2, 1) := by decide +kernel
theorem d_MO_giveBack_8 : decode (mB M_MO_giveBack) 8 = .ok (.ifCond .ne 7, 3) := by decide +kernel
theorem d_MO_giveBack_11 : decode (mB M_MO_giveBack) 11 = .ok (.iconst 1, 1) := by decide +kernel
theorem d_MO_giveBack_12 : decode (mB M_MO_giveBack) 12 = .ok (.goto 4, 3) := by decide +kernel
theorem d_MO_giveBack_15 : decode (mB M_MO_giveBack) 15 = .ok (.iconst 0, 1) := by decide +kernel
theorem d_MO_giveBack_16 : decode (mB M_MO_giveBack) 16 = .ok (.iload_n 2, 1) := by decide +kernel
theorem d_MO_giveBack_17 : decode (mB M_MO_giveBack) 17 = .ok (.ifCond .eq 33, 3) := by decide +kernel
theorem d_MO_giveBack_20 : decode (mB M_MO_giveBack) 20 = .ok (.aload_n 0, 1) := by decide +kernel
theorem d_MO_giveBack_21 : decode (mB M_MO_giveBack) 21 = .ok (.getfield 34, 3) := by decide +kernel
theorem d_MO_giveBack_24 : decode (mB M_MO_giveBack) 24 = .ok (.iload_n 1, 1) := by decide +kernel
theorem d_MO_giveBack_25 : decode (mB M_MO_giveBack) 25 = .ok (.iaload, 1) := by decide +kernel
theorem d_MO_giveBack_26 : decode (mB M_MO_giveBack) 26 = .ok (.iconst 2, 1) := by decide +kernel
theorem d_MO_giveBack_27 : decode (mB M_MO_giveBack) 27 = .ok (.if_icmp .ne 19, 3) := by decide +kernel
theorem d_MO_giveBack_30 : decode (mB M_MO_giveBack) 30 = .ok (.aload_n 0, 1) := by decide +kernel
theorem d_MO_giveBack_31 : decode (mB M_MO_giveBack) 31 = .ok (.getfield 89, 3) := by decide +kernel
theorem d_MO_giveBack_34 : decode (mB M_MO_giveBack) 34 = .ok (.aload_n 0, 1) := by decide +kernel
theorem d_MO_giveBack_35 : decode (mB M_MO_giveBack) 35 = .ok (.getfield 40, 3) := by decide +kernel
theorem d_MO_giveBack_38 : decode (mB M_MO_giveBack) 38 = .ok (.iload_n 1, 1) := by decide +kernel
theorem d_MO_giveBack_39 : decode (mB M_MO_giveBack) 39 = .ok (.iaload, 1) := by decide +kernel
theorem d_MO_giveBack_40 : decode (mB M_MO_giveBack) 40 = .ok (.isub, 1) := by decide +kernel
theorem d_MO_giveBack_41 : decode (mB M_MO_giveBack) 41 = .ok (.bipush 30, 2) := by decide +kernel
theorem d_MO_giveBack_43 : decode (mB M_MO_giveBack) 43 = .ok (.if_icmp .lt 7, 3) := by decide +kernel
theorem d_MO_giveBack_46 : decode (mB M_MO_giveBack) 46 = .ok (.iconst 1, 1) := by decide +kernel
theorem d_MO_giveBack_47 : decode (mB M_MO_giveBack) 47 = .ok (.goto 4, 3) := by decide +kernel
theorem d_MO_giveBack_50 : decode (mB M_MO_giveBack) 50 = .ok (.iconst 0, 1) := by decide +kernel
theorem d_MO_giveBack_51 : decode (mB M_MO_giveBack) 51 = .ok (.iconst 0, 1) := by decide +kernel
theorem d_MO_giveBack_52 : decode (mB M_MO_giveBack) 52 = .ok (.iconst 0, 1) := by decide +kernel
theorem d_MO_giveBack_53 : decode (mB M_MO_giveBack) 53 = .ok (.invokevirtual 85, 3) := by decide +kernel
theorem d_MO_giveBack_56 : decode (mB M_MO_giveBack) 56 = .ok (.ifCond .eq 5, 3) := by decide +kernel
theorem d_MO_giveBack_59 : decode (mB M_MO_giveBack) 59 = .ok (.iconst 0, 1) := by decide +kernel
theorem d_MO_giveBack_60 : decode (mB M_MO_giveBack) 60 = .ok (.ireturn, 1) := by decide +kernel
theorem d_MO_giveBack_61 : decode (mB M_MO_giveBack) 61 = .ok (.aload_n 0, 1) := by decide +kernel
theorem d_MO_giveBack_62 : decode (mB M_MO_giveBack) 62 = .ok (.getfield 34, 3) := by decide +kernel
theorem d_MO_giveBack_65 : decode (mB M_MO_giveBack) 65 = .ok (.iload_n 1, 1) := by decide +kernel
theorem d_MO_giveBack_66 : decode (mB M_MO_giveBack) 66 = .ok (.iconst 0, 1) := by decide +kernel
theorem d_MO_giveBack_67 : decode (mB M_MO_giveBack) 67 = .ok (.iastore, 1) := by decide +kernel
theorem d_MO_giveBack_68 : decode (mB M_MO_giveBack) 68 = .ok (.aload_n 0, 1) := by decide +kernel
theorem d_MO_giveBack_69 : decode (mB M_MO_giveBack) 69 = .ok (.getfield 43, 3) := by decide +kernel
theorem d_MO_giveBack_72 : decode (mB M_MO_giveBack) 72 = .ok (.iload_n 1, 1) := by decide +kernel
theorem d_MO_giveBack_73 : decode (mB M_MO_giveBack) 73 = .ok (.iconst 0, 1) := by decide +kernel
theorem d_MO_giveBack_74 : decode (mB M_MO_giveBack) 74 = .ok (.iastore, 1) := by decide +kernel
theorem d_MO_giveBack_75 : decode (mB M_MO_giveBack) 75 = .ok (.aload_n 0, 1) := by decide +kernel
theorem d_MO_giveBack_76 : decode (mB M_MO_giveBack) 76 = .ok (.getfield 46, 3) := by decide +kernel
theorem d_MO_giveBack_79 : decode (mB M_MO_giveBack) 79 = .ok (.iload_n 1, 1) := by decide +kernel
theorem d_MO_giveBack_80 : decode (mB M_MO_giveBack) 80 = .ok (.iconst 0, 1) := by decide +kernel
theorem d_MO_giveBack_81 : decode (mB M_MO_giveBack) 81 = .ok (.iastore, 1) := by decide +kernel
theorem d_MO_giveBack_82 : decode (mB M_MO_giveBack) 82 = .ok (.aload_n 0, 1) := by decide +kernel
theorem d_MO_giveBack_83 : decode (mB M_MO_giveBack) 83 = .ok (.getfield 89, 3) := by decide +kernel
theorem d_MO_giveBack_86 : decode (mB M_MO_giveBack) 86 = .ok (.aload_n 0, 1) := by decide +kernel
theorem d_MO_giveBack_87 : decode (mB M_MO_giveBack) 87 = .ok (.getfield 40, 3) := by decide +kernel
theorem d_MO_giveBack_90 : decode (mB M_MO_giveBack) 90 = .ok (.iload_n 1, 1) := by decide +kernel
theorem d_MO_giveBack_91 : decode (mB M_MO_giveBack) 91 = .ok (.iaload, 1) := by decide +kernel
theorem d_MO_giveBack_92 : decode (mB M_MO_giveBack) 92 = .ok (.isub, 1) := by decide +kernel
theorem d_MO_giveBack_93 : decode (mB M_MO_giveBack) 93 = .ok (.ireturn, 1) := by decide +kernel
theorem d_MO_transfused_0 : decode (mB M_MO_transfused) 0 = .ok (.aload_n 0, 1) := by decide +kernel
theorem d_MO_transfused_1 : decode (mB M_MO_transfused) 1 = .ok (.iload_n 1, 1) := by decide +kernel
theorem d_MO_transfused_2 : decode (mB M_MO_transfused) 2 = .ok (.invokevirtual 111, 3) := by decide +kernel
theorem d_MO_transfused_5 : decode (mB M_MO_transfused) 5 = .ok (.istore_n 2, 1) := by decide +kernel
theorem d_MO_transfused_6 : decode (mB M_MO_transfused) 6 = .ok (.aload_n 0, 1) := by decide +kernel
theorem d_MO_transfused_7 : decode (mB M_MO_transfused) 7 = .ok (.iload_n 2, 1) := by decide +kernel
theorem d_MO_transfused_8 : decode (mB M_MO_transfused) 8 = .ok (.ifCond .ne 7, 3) := by decide +kernel
theorem d_MO_transfused_11 : decode (mB M_MO_transfused) 11 = .ok (.iconst 1, 1) := by decide +kernel
theorem d_MO_transfused_12 : decode (mB M_MO_transfused) 12 = .ok (.goto 4, 3) := by decide +kernel
theorem d_MO_transfused_15 : decode (mB M_MO_transfused) 15 = .ok (.iconst 0, 1) := by decide +kernel
theorem d_MO_transfused_16 : decode (mB M_MO_transfused) 16 = .ok (.iload_n 2, 1) := by decide +kernel
theorem d_MO_transfused_17 : decode (mB M_MO_transfused) 17 = .ok (.ifCond .eq 17, 3) := by decide +kernel
theorem d_MO_transfused_20 : decode (mB M_MO_transfused) 20 = .ok (.aload_n 0, 1) := by decide +kernel
theorem d_MO_transfused_21 : decode (mB M_MO_transfused) 21 = .ok (.getfield 34, 3) := by decide +kernel
theorem d_MO_transfused_24 : decode (mB M_MO_transfused) 24 = .ok (.iload_n 1, 1) := by decide +kernel
theorem d_MO_transfused_25 : decode (mB M_MO_transfused) 25 = .ok (.iaload, 1) := by decide +kernel
theorem d_MO_transfused_26 : decode (mB M_MO_transfused) 26 = .ok (.iconst 2, 1) := by decide +kernel
theorem d_MO_transfused_27 : decode (mB M_MO_transfused) 27 = .ok (.if_icmp .eq 7, 3) := by decide +kernel
theorem d_MO_transfused_30 : decode (mB M_MO_transfused) 30 = .ok (.iconst 1, 1) := by decide +kernel
theorem d_MO_transfused_31 : decode (mB M_MO_transfused) 31 = .ok (.goto 4, 3) := by decide +kernel
theorem d_MO_transfused_34 : decode (mB M_MO_transfused) 34 = .ok (.iconst 0, 1) := by decide +kernel
theorem d_MO_transfused_35 : decode (mB M_MO_transfused) 35 = .ok (.iconst 0, 1) := by decide +kernel
theorem d_MO_transfused_36 : decode (mB M_MO_transfused) 36 = .ok (.iconst 0, 1) := by decide +kernel
theorem d_MO_transfused_37 : decode (mB M_MO_transfused) 37 = .ok (.invokevirtual 85, 3) := by decide +kernel
theorem d_MO_transfused_40 : decode (mB M_MO_transfused) 40 = .ok (.ifCond .eq 5, 3) := by decide +kernel
theorem d_MO_transfused_43 : decode (mB M_MO_transfused) 43 = .ok (.iconst 0, 1) := by decide +kernel
theorem d_MO_transfused_44 : decode (mB M_MO_transfused) 44 = .ok (.ireturn, 1) := by decide +kernel
theorem d_MO_transfused_45 : decode (mB M_MO_transfused) 45 = .ok (.aload_n 0, 1) := by decide +kernel
theorem d_MO_transfused_46 : decode (mB M_MO_transfused) 46 = .ok (.getfield 34, 3) := by decide +kernel
theorem d_MO_transfused_49 : decode (mB M_MO_transfused) 49 = .ok (.iload_n 1, 1) := by decide +kernel
theorem d_MO_transfused_50 : decode (mB M_MO_transfused) 50 = .ok (.iconst 3, 1) := by decide +kernel
theorem d_MO_transfused_51 : decode (mB M_MO_transfused) 51 = .ok (.iastore, 1) := by decide +kernel
theorem d_MO_transfused_52 : decode (mB M_MO_transfused) 52 = .ok (.aload_n 0, 1) := by decide +kernel
theorem d_MO_transfused_53 : decode (mB M_MO_transfused) 53 = .ok (.getfield 37, 3) := by decide +kernel
theorem d_MO_transfused_56 : decode (mB M_MO_transfused) 56 = .ok (.iload_n 1, 1) := by decide +kernel
theorem d_MO_transfused_57 : decode (mB M_MO_transfused) 57 = .ok (.iaload, 1) := by decide +kernel
theorem d_MO_transfused_58 : decode (mB M_MO_transfused) 58 = .ok (.ireturn, 1) := by decide +kernel
theorem d_MO_discard_0 : decode (mB M_MO_discard) 0 = .ok (.aload_n 0, 1) := by decide +kernel
theorem d_MO_discard_1 : decode (mB M_MO_discard) 1 = .ok (.iload_n 1, 1) := by decide +kernel
theorem d_MO_discard_2 : decode (mB M_MO_discard) 2 = .ok (.invokevirtual 111, 3) := by decide +kernel
theorem d_MO_discard_5 : decode (mB M_MO_discard) 5 = .ok (.istore_n 3, 1) := by decide +kernel
theorem d_MO_discard_6 : decode (mB M_MO_discard) 6 = .ok (.aload_n 0, 1) := by decide +kernel
theorem d_MO_discard_7 : decode (mB M_MO_discard) 7 = .ok (.iload_n 3, 1) := by decide +kernel
theorem d_MO_discard_8 : decode (mB M_MO_discard) 8 = .ok (.ifCond .ne 7, 3) := by decide +kernel
theorem d_MO_discard_11 : decode (mB M_MO_discard) 11 = .ok (.iconst 1, 1) := by decide +kernel
theorem d_MO_discard_12 : decode (mB M_MO_discard) 12 = .ok (.goto 4, 3) := by decide +kernel
theorem d_MO_discard_15 : decode (mB M_MO_discard) 15 = .ok (.iconst 0, 1) := by decide +kernel
theorem d_MO_discard_16 : decode (mB M_MO_discard) 16 = .ok (.iload_n 2, 1) := by decide +kernel
theorem d_MO_discard_17 : decode (mB M_MO_discard) 17 = .ok (.iconst 1, 1) := by decide +kernel
theorem d_MO_discard_18 : decode (mB M_MO_discard) 18 = .ok (.iconst 5, 1) := by decide +kernel
theorem d_MO_discard_19 : decode (mB M_MO_discard) 19 = .ok (.invokestatic 77, 3) := by decide +kernel
theorem d_MO_discard_22 : decode (mB M_MO_discard) 22 = .ok (.ifCond .ne 7, 3) := by decide +kernel
theorem d_MO_discard_25 : decode (mB M_MO_discard) 25 = .ok (.iconst 1, 1) := by decide +kernel
theorem d_MO_discard_26 : decode (mB M_MO_discard) 26 = .ok (.goto 4, 3) := by decide +kernel
theorem d_MO_discard_29 : decode (mB M_MO_discard) 29 = .ok (.iconst 0, 1) := by decide +kernel
theorem d_MO_discard_30 : decode (mB M_MO_discard) 30 = .ok (.iload_n 3, 1) := by decide +kernel
theorem d_MO_discard_31 : decode (mB M_MO_discard) 31 = .ok (.ifCond .eq 16, 3) := by decide +kernel
theorem d_MO_discard_34 : decode (mB M_MO_discard) 34 = .ok (.aload_n 0, 1) := by decide +kernel
theorem d_MO_discard_35 : decode (mB M_MO_discard) 35 = .ok (.iload_n 1, 1) := by decide +kernel
theorem d_MO_discard_36 : decode (mB M_MO_discard) 36 = .ok (.invokevirtual 95, 3) := by decide +kernel
theorem d_MO_discard_39 : decode (mB M_MO_discard) 39 = .ok (.iconst 2, 1) := by decide +kernel
theorem d_MO_discard_40 : decode (mB M_MO_discard) 40 = .ok (.if_icmp .le 7, 3) := by decide +kernel
theorem d_MO_discard_43 : decode (mB M_MO_discard) 43 = .ok (.iconst 1, 1) := by decide +kernel
theorem d_MO_discard_44 : decode (mB M_MO_discard) 44 = .ok (.goto 4, 3) := by decide +kernel
theorem d_MO_discard_47 : decode (mB M_MO_discard) 47 = .ok (.iconst 0, 1) := by decide +kernel
theorem d_MO_discard_48 : decode (mB M_MO_discard) 48 = .ok (.iconst 0, 1) := by decide +kernel
theorem d_MO_discard_49 : decode (mB M_MO_discard) 49 = .ok (.invokevirtual 85, 3) := by decide +kernel
theorem d_MO_discard_52 : decode (mB M_MO_discard) 52 = .ok (.ifCond .eq 5, 3) := by decide +kernel
theorem d_MO_discard_55 : decode (mB M_MO_discard) 55 = .ok (.iconst 0, 1) := by decide +kernel
theorem d_MO_discard_56 : decode (mB M_MO_discard) 56 = .ok (.ireturn, 1) := by decide +kernel
theorem d_MO_discard_57 : decode (mB M_MO_discard) 57 = .ok (.aload_n 0, 1) := by decide +kernel
theorem d_MO_discard_58 : decode (mB M_MO_discard) 58 = .ok (.iload_n 1, 1) := by decide +kernel
theorem d_MO_discard_59 : decode (mB M_MO_discard) 59 = .ok (.invokevirtual 95, 3) := by decide +kernel
theorem d_MO_discard_62 : decode (mB M_MO_discard) 62 = .ok (.istore 4, 2) := by decide +kernel
theorem d_MO_discard_64 : decode (mB M_MO_discard) 64 = .ok (.aload_n 0, 1) := by decide +kernel
theorem d_MO_discard_65 : decode (mB M_MO_discard) 65 = .ok (.getfield 34, 3) := by decide +kernel
theorem d_MO_discard_68 : decode (mB M_MO_discard) 68 = .ok (.iload_n 1, 1) := by decide +kernel
theorem d_MO_discard_69 : decode (mB M_MO_discard) 69 = .ok (.iconst 4, 1) := by decide +kernel
theorem d_MO_discard_70 : decode (mB M_MO_discard) 70 = .ok (.iastore, 1) := by decide +kernel
theorem d_MO_discard_71 : decode (mB M_MO_discard) 71 = .ok (.aload_n 0, 1) := by decide +kernel
theorem d_MO_discard_72 : decode (mB M_MO_discard) 72 = .ok (.getfield 49, 3) := by decide +kernel
theorem d_MO_discard_75 : decode (mB M_MO_discard) 75 = .ok (.iload_n 1, 1) := by decide +kernel
theorem d_MO_discard_76 : decode (mB M_MO_discard) 76 = .ok (.iload_n 2, 1) := by decide +kernel
theorem d_MO_discard_77 : decode (mB M_MO_discard) 77 = .ok (.iastore, 1) := by decide +kernel
theorem d_MO_discard_78 : decode (mB M_MO_discard) 78 = .ok (.iload 4, 2) := by decide +kernel
theorem d_MO_discard_80 : decode (mB M_MO_discard) 80 = .ok (.ireturn, 1) := by decide +kernel
theorem d_MO_quarantine_0 : decode (mB M_MO_quarantine) 0 = .ok (.aload_n 0, 1) := by decide +kernel
theorem d_MO_quarantine_1 : decode (mB M_MO_quarantine) 1 = .ok (.iload_n 1, 1) := by decide +kernel
theorem d_MO_quarantine_2 : decode (mB M_MO_quarantine) 2 = .ok (.iconst 0, 1) := by decide +kernel
theorem d_MO_quarantine_3 : decode (mB M_MO_quarantine) 3 = .ok (.bipush 15, 2) := by decide +kernel
theorem d_MO_quarantine_5 : decode (mB M_MO_quarantine) 5 = .ok (.invokestatic 77, 3) := by decide +kernel
theorem d_MO_quarantine_8 : decode (mB M_MO_quarantine) 8 = .ok (.ifCond .ne 7, 3) := by decide +kernel
theorem d_MO_quarantine_11 : decode (mB M_MO_quarantine) 11 = .ok (.iconst 1, 1) := by decide +kernel
theorem d_MO_quarantine_12 : decode (mB M_MO_quarantine) 12 = .ok (.goto 4, 3) := by decide +kernel
theorem d_MO_quarantine_15 : decode (mB M_MO_quarantine) 15 = .ok (.iconst 0, 1) := by decide +kernel
theorem d_MO_quarantine_16 : decode (mB M_MO_quarantine) 16 = .ok (.iconst 0, 1) := by decide +kernel
theorem d_MO_quarantine_17 : decode (mB M_MO_quarantine) 17 = .ok (.iconst 0, 1) := by decide +kernel
theorem d_MO_quarantine_18 : decode (mB M_MO_quarantine) 18 = .ok (.iconst 0, 1) := by decide +kernel
theorem d_MO_quarantine_19 : decode (mB M_MO_quarantine) 19 = .ok (.invokevirtual 85, 3) := by decide +kernel
theorem d_MO_quarantine_22 : decode (mB M_MO_quarantine) 22 = .ok (.ifCond .eq 5, 3) := by decide +kernel
theorem d_MO_quarantine_25 : decode (mB M_MO_quarantine) 25 = .ok (.iconst 0, 1) := by decide +kernel
theorem d_MO_quarantine_26 : decode (mB M_MO_quarantine) 26 = .ok (.ireturn, 1) := by decide +kernel
theorem d_MO_quarantine_27 : decode (mB M_MO_quarantine) 27 = .ok (.aload_n 0, 1) := by decide +kernel
theorem d_MO_quarantine_28 : decode (mB M_MO_quarantine) 28 = .ok (.iload_n 2, 1) := by decide +kernel
theorem d_MO_quarantine_29 : decode (mB M_MO_quarantine) 29 = .ok (.ifCond .eq 14, 3) := by decide +kernel
theorem d_MO_quarantine_32 : decode (mB M_MO_quarantine) 32 = .ok (.aload_n 0, 1) := by decide +kernel
theorem d_MO_quarantine_33 : decode (mB M_MO_quarantine) 33 = .ok (.getfield 92, 3) := by decide +kernel
theorem d_MO_quarantine_36 : decode (mB M_MO_quarantine) 36 = .ok (.iconst 1, 1) := by decide +kernel
theorem d_MO_quarantine_37 : decode (mB M_MO_quarantine) 37 = .ok (.iload_n 1, 1) := by decide +kernel
theorem d_MO_quarantine_38 : decode (mB M_MO_quarantine) 38 = .ok (.ishl, 1) := by decide +kernel
theorem d_MO_quarantine_39 : decode (mB M_MO_quarantine) 39 = .ok (.ior, 1) := by decide +kernel
theorem d_MO_quarantine_40 : decode (mB M_MO_quarantine) 40 = .ok (.goto 13, 3) := by decide +kernel
theorem d_MO_quarantine_43 : decode (mB M_MO_quarantine) 43 = .ok (.aload_n 0, 1) := by decide +kernel
theorem d_MO_quarantine_44 : decode (mB M_MO_quarantine) 44 = .ok (.getfield 92, 3) := by decide +kernel
theorem d_MO_quarantine_47 : decode (mB M_MO_quarantine) 47 = .ok (.iconst 1, 1) := by decide +kernel
theorem d_MO_quarantine_48 : decode (mB M_MO_quarantine) 48 = .ok (.iload_n 1, 1) := by decide +kernel
theorem d_MO_quarantine_49 : decode (mB M_MO_quarantine) 49 = .ok (.ishl, 1) := by decide +kernel
theorem d_MO_quarantine_50 : decode (mB M_MO_quarantine) 50 = .ok (.iconst (-1), 1) := by decide +kernel
theorem d_MO_quarantine_51 : decode (mB M_MO_quarantine) 51 = .ok (.ixor, 1) := by decide +kernel
theorem d_MO_quarantine_52 : decode (mB M_MO_quarantine) 52 = .ok (.iand, 1) := by decide +kernel
theorem d_MO_quarantine_53 : decode (mB M_MO_quarantine) 53 = .ok (.putfield 92, 3) := by decide +kernel
theorem d_MO_quarantine_56 : decode (mB M_MO_quarantine) 56 = .ok (.iconst 0, 1) := by decide +kernel
theorem d_MO_quarantine_57 : decode (mB M_MO_quarantine) 57 = .ok (.istore_n 3, 1) := by decide +kernel
theorem d_MO_quarantine_58 : decode (mB M_MO_quarantine) 58 = .ok (.iconst 0, 1) := by decide +kernel
theorem d_MO_quarantine_59 : decode (mB M_MO_quarantine) 59 = .ok (.istore 4, 2) := by decide +kernel
theorem d_MO_quarantine_61 : decode (mB M_MO_quarantine) 61 = .ok (.iload 4, 2) := by decide +kernel
theorem d_MO_quarantine_63 : decode (mB M_MO_quarantine) 63 = .ok (.aload_n 0, 1) := by decide +kernel
theorem d_MO_quarantine_64 : decode (mB M_MO_quarantine) 64 = .ok (.getfield 74, 3) := by decide +kernel
theorem d_MO_quarantine_67 : decode (mB M_MO_quarantine) 67 = .ok (.if_icmp .ge 45, 3) := by decide +kernel
theorem d_MO_quarantine_70 : decode (mB M_MO_quarantine) 70 = .ok (.aload_n 0, 1) := by decide +kernel
theorem d_MO_quarantine_71 : decode (mB M_MO_quarantine) 71 = .ok (.iload 4, 2) := by decide +kernel
theorem d_MO_quarantine_73 : decode (mB M_MO_quarantine) 73 = .ok (.invokevirtual 103, 3) := by decide +kernel
theorem d_MO_quarantine_76 : decode (mB M_MO_quarantine) 76 = .ok (.ifCond .eq 28, 3) := by decide +kernel
theorem d_MO_quarantine_79 : decode (mB M_MO_quarantine) 79 = .ok (.aload_n 0, 1) := by decide +kernel
theorem d_MO_quarantine_80 : decode (mB M_MO_quarantine) 80 = .ok (.iload 4, 2) := by decide +kernel
theorem d_MO_quarantine_82 : decode (mB M_MO_quarantine) 82 = .ok (.invokevirtual 95, 3) := by decide +kernel
theorem d_MO_quarantine_85 : decode (mB M_MO_quarantine) 85 = .ok (.ifCond .eq 13, 3) := by decide +kernel
theorem d_MO_quarantine_88 : decode (mB M_MO_quarantine) 88 = .ok (.aload_n 0, 1) := by decide +kernel
theorem d_MO_quarantine_89 : decode (mB M_MO_quarantine) 89 = .ok (.iload 4, 2) := by decide +kernel
theorem d_MO_quarantine_91 : decode (mB M_MO_quarantine) 91 = .ok (.invokevirtual 95, 3) := by decide +kernel
theorem d_MO_quarantine_94 : decode (mB M_MO_quarantine) 94 = .ok (.iconst 1, 1) := by decide +kernel
theorem d_MO_quarantine_95 : decode (mB M_MO_quarantine) 95 = .ok (.if_icmp .ne 9, 3) := by decide +kernel
theorem d_MO_quarantine_98 : decode (mB M_MO_quarantine) 98 = .ok (.iload_n 3, 1) := by decide +kernel
theorem d_MO_quarantine_99 : decode (mB M_MO_quarantine) 99 = .ok (.iconst 1, 1) := by decide +kernel
theorem d_MO_quarantine_100 : decode (mB M_MO_quarantine) 100 = .ok (.iadd, 1) := by decide +kernel
theorem d_MO_quarantine_101 : decode (mB M_MO_quarantine) 101 = .ok (.goto 4, 3) := by decide +kernel
theorem d_MO_quarantine_104 : decode (mB M_MO_quarantine) 104 = .ok (.iload_n 3, 1) := by decide +kernel
theorem d_MO_quarantine_105 : decode (mB M_MO_quarantine) 105 = .ok (.istore_n 3, 1) := by decide +kernel
theorem d_MO_quarantine_106 : decode (mB M_MO_quarantine) 106 = .ok (.iinc 4 1, 3) := by decide +kernel
theorem d_MO_quarantine_109 : decode (mB M_MO_quarantine) 109 = .ok (.goto (-48), 3) := by decide +kernel
theorem d_MO_quarantine_112 : decode (mB M_MO_quarantine) 112 = .ok (.iload_n 3, 1) := by decide +kernel
theorem d_MO_quarantine_113 : decode (mB M_MO_quarantine) 113 = .ok (.ireturn, 1) := by decide +kernel
theorem d_MO_field_0 : decode (mB M_MO_field) 0 = .ok (.iload_n 2, 1) := by decide +kernel
theorem d_MO_field_1 : decode (mB M_MO_field) 1 = .ok (.tableswitch 142 0 8 #[51, 57, 64, 71, 78, 85, 92, 121, 135], 51) := by decide +kernel
theorem d_MO_field_52 : decode (mB M_MO_field) 52 = .ok (.aload_n 0, 1) := by decide +kernel
theorem d_MO_field_53 : decode (mB M_MO_field) 53 = .ok (.iload_n 1, 1) := by decide +kernel
theorem d_MO_field_54 : decode (mB M_MO_field) 54 = .ok (.invokevirtual 95, 3) := by decide +kernel
theorem d_MO_field_57 : decode (mB M_MO_field) 57 = .ok (.ireturn, 1) := by decide +kernel
theorem d_MO_field_58 : decode (mB M_MO_field) 58 = .ok (.aload_n 0, 1) := by decide +kernel
theorem d_MO_field_59 : decode (mB M_MO_field) 59 = .ok (.getfield 7, 3) := by decide +kernel
theorem d_MO_field_62 : decode (mB M_MO_field) 62 = .ok (.iload_n 1, 1) := by decide +kernel
theorem d_MO_field_63 : decode (mB M_MO_field) 63 = .ok (.iaload, 1) := by decide +kernel
theorem d_MO_field_64 : decode (mB M_MO_field) 64 = .ok (.ireturn, 1) := by decide +kernel
theorem d_MO_field_65 : decode (mB M_MO_field) 65 = .ok (.aload_n 0, 1) := by decide +kernel
theorem d_MO_field_66 : decode (mB M_MO_field) 66 = .ok (.getfield 13, 3) := by decide +kernel
theorem d_MO_field_69 : decode (mB M_MO_field) 69 = .ok (.iload_n 1, 1) := by decide +kernel
theorem d_MO_field_70 : decode (mB M_MO_field) 70 = .ok (.iaload, 1) := by decide +kernel
theorem d_MO_field_71 : decode (mB M_MO_field) 71 = .ok (.ireturn, 1) := by decide +kernel
theorem d_MO_field_72 : decode (mB M_MO_field) 72 = .ok (.aload_n 0, 1) := by decide +kernel
theorem d_MO_field_73 : decode (mB M_MO_field) 73 = .ok (.getfield 16, 3) := by decide +kernel
theorem d_MO_field_76 : decode (mB M_MO_field) 76 = .ok (.iload_n 1, 1) := by decide +kernel
theorem d_MO_field_77 : decode (mB M_MO_field) 77 = .ok (.iaload, 1) := by decide +kernel
theorem d_MO_field_78 : decode (mB M_MO_field) 78 = .ok (.ireturn, 1) := by decide +kernel
theorem d_MO_field_79 : decode (mB M_MO_field) 79 = .ok (.aload_n 0, 1) := by decide +kernel
theorem d_MO_field_80 : decode (mB M_MO_field) 80 = .ok (.getfield 25, 3) := by decide +kernel
theorem d_MO_field_83 : decode (mB M_MO_field) 83 = .ok (.iload_n 1, 1) := by decide +kernel
theorem d_MO_field_84 : decode (mB M_MO_field) 84 = .ok (.iaload, 1) := by decide +kernel
theorem d_MO_field_85 : decode (mB M_MO_field) 85 = .ok (.ireturn, 1) := by decide +kernel
theorem d_MO_field_86 : decode (mB M_MO_field) 86 = .ok (.aload_n 0, 1) := by decide +kernel
theorem d_MO_field_87 : decode (mB M_MO_field) 87 = .ok (.getfield 28, 3) := by decide +kernel
theorem d_MO_field_90 : decode (mB M_MO_field) 90 = .ok (.iload_n 1, 1) := by decide +kernel
theorem d_MO_field_91 : decode (mB M_MO_field) 91 = .ok (.iaload, 1) := by decide +kernel
theorem d_MO_field_92 : decode (mB M_MO_field) 92 = .ok (.ireturn, 1) := by decide +kernel
theorem d_MO_field_93 : decode (mB M_MO_field) 93 = .ok (.aload_n 0, 1) := by decide +kernel
theorem d_MO_field_94 : decode (mB M_MO_field) 94 = .ok (.getfield 43, 3) := by decide +kernel
theorem d_MO_field_97 : decode (mB M_MO_field) 97 = .ok (.iload_n 1, 1) := by decide +kernel
theorem d_MO_field_98 : decode (mB M_MO_field) 98 = .ok (.iaload, 1) := by decide +kernel
theorem d_MO_field_99 : decode (mB M_MO_field) 99 = .ok (.ifCond .gt 12, 3) := by decide +kernel
theorem d_MO_field_102 : decode (mB M_MO_field) 102 = .ok (.aload_n 0, 1) := by decide +kernel
theorem d_MO_field_103 : decode (mB M_MO_field) 103 = .ok (.iload_n 1, 1) := by decide +kernel
theorem d_MO_field_104 : decode (mB M_MO_field) 104 = .ok (.invokevirtual 95, 3) := by decide +kernel
theorem d_MO_field_107 : decode (mB M_MO_field) 107 = .ok (.iconst 1, 1) := by decide +kernel
theorem d_MO_field_108 : decode (mB M_MO_field) 108 = .ok (.if_icmp .ne 12, 3) := by decide +kernel
theorem d_MO_field_111 : decode (mB M_MO_field) 111 = .ok (.aload_n 0, 1) := by decide +kernel
theorem d_MO_field_112 : decode (mB M_MO_field) 112 = .ok (.getfield 37, 3) := by decide +kernel
theorem d_MO_field_115 : decode (mB M_MO_field) 115 = .ok (.iload_n 1, 1) := by decide +kernel
theorem d_MO_field_116 : decode (mB M_MO_field) 116 = .ok (.iaload, 1) := by decide +kernel
theorem d_MO_field_117 : decode (mB M_MO_field) 117 = .ok (.goto 4, 3) := by decide +kernel
theorem d_MO_field_120 : decode (mB M_MO_field) 120 = .ok (.iconst (-1), 1) := by decide +kernel
theorem d_MO_field_121 : decode (mB M_MO_field) 121 = .ok (.ireturn, 1) := by decide +kernel
theorem d_MO_field_122 : decode (mB M_MO_field) 122 = .ok (.aload_n 0, 1) := by decide +kernel
theorem d_MO_field_123 : decode (mB M_MO_field) 123 = .ok (.iload_n 1, 1) := by decide +kernel
theorem d_MO_field_124 : decode (mB M_MO_field) 124 = .ok (.invokevirtual 103, 3) := by decide +kernel
theorem d_MO_field_127 : decode (mB M_MO_field) 127 = .ok (.ifCond .eq 7, 3) := by decide +kernel
theorem d_MO_field_130 : decode (mB M_MO_field) 130 = .ok (.iconst 1, 1) := by decide +kernel
theorem d_MO_field_131 : decode (mB M_MO_field) 131 = .ok (.goto 4, 3) := by decide +kernel
theorem d_MO_field_134 : decode (mB M_MO_field) 134 = .ok (.iconst 0, 1) := by decide +kernel
theorem d_MO_field_135 : decode (mB M_MO_field) 135 = .ok (.ireturn, 1) := by decide +kernel
theorem d_MO_field_136 : decode (mB M_MO_field) 136 = .ok (.aload_n 0, 1) := by decide +kernel
theorem d_MO_field_137 : decode (mB M_MO_field) 137 = .ok (.getfield 46, 3) := by decide +kernel
theorem d_MO_field_140 : decode (mB M_MO_field) 140 = .ok (.iload_n 1, 1) := by decide +kernel
theorem d_MO_field_141 : decode (mB M_MO_field) 141 = .ok (.iaload, 1) := by decide +kernel
theorem d_MO_field_142 : decode (mB M_MO_field) 142 = .ok (.ireturn, 1) := by decide +kernel
theorem d_MO_field_143 : decode (mB M_MO_field) 143 = .ok (.aload_n 0, 1) := by decide +kernel
theorem d_MO_field_144 : decode (mB M_MO_field) 144 = .ok (.getfield 49, 3) := by decide +kernel
theorem d_MO_field_147 : decode (mB M_MO_field) 147 = .ok (.iload_n 1, 1) := by decide +kernel
theorem d_MO_field_148 : decode (mB M_MO_field) 148 = .ok (.iaload, 1) := by decide +kernel
theorem d_MO_field_149 : decode (mB M_MO_field) 149 = .ok (.ireturn, 1) := by decide +kernel
theorem d_MO_of_0 : decode (mB M_MO_of) 0 = .ok (.aload_n 0, 1) := by decide +kernel
theorem d_MO_of_1 : decode (mB M_MO_of) 1 = .ok (.aload_n 0, 1) := by decide +kernel
theorem d_MO_of_2 : decode (mB M_MO_of) 2 = .ok (.iload_n 1, 1) := by decide +kernel
theorem d_MO_of_3 : decode (mB M_MO_of) 3 = .ok (.invokevirtual 111, 3) := by decide +kernel
theorem d_MO_of_6 : decode (mB M_MO_of) 6 = .ok (.ifCond .ne 7, 3) := by decide +kernel
theorem d_MO_of_9 : decode (mB M_MO_of) 9 = .ok (.iconst 1, 1) := by decide +kernel
theorem d_MO_of_10 : decode (mB M_MO_of) 10 = .ok (.goto 4, 3) := by decide +kernel
theorem d_MO_of_13 : decode (mB M_MO_of) 13 = .ok (.iconst 0, 1) := by decide +kernel
theorem d_MO_of_14 : decode (mB M_MO_of) 14 = .ok (.iload_n 2, 1) := by decide +kernel
theorem d_MO_of_15 : decode (mB M_MO_of) 15 = .ok (.iconst 0, 1) := by decide +kernel
theorem d_MO_of_16 : decode (mB M_MO_of) 16 = .ok (.bipush 9, 2) := by decide +kernel
theorem d_MO_of_18 : decode (mB M_MO_of) 18 = .ok (.invokestatic 77, 3) := by decide +kernel
theorem d_MO_of_21 : decode (mB M_MO_of) 21 = .ok (.ifCond .ne 7, 3) := by decide +kernel
theorem d_MO_of_24 : decode (mB M_MO_of) 24 = .ok (.iconst 1, 1) := by decide +kernel
theorem d_MO_of_25 : decode (mB M_MO_of) 25 = .ok (.goto 4, 3) := by decide +kernel
theorem d_MO_of_28 : decode (mB M_MO_of) 28 = .ok (.iconst 0, 1) := by decide +kernel
theorem d_MO_of_29 : decode (mB M_MO_of) 29 = .ok (.iconst 0, 1) := by decide +kernel
theorem d_MO_of_30 : decode (mB M_MO_of) 30 = .ok (.iconst 0, 1) := by decide +kernel
theorem d_MO_of_31 : decode (mB M_MO_of) 31 = .ok (.invokevirtual 85, 3) := by decide +kernel
theorem d_MO_of_34 : decode (mB M_MO_of) 34 = .ok (.ifCond .eq 7, 3) := by decide +kernel
theorem d_MO_of_37 : decode (mB M_MO_of) 37 = .ok (.iconst 0, 1) := by decide +kernel
theorem d_MO_of_38 : decode (mB M_MO_of) 38 = .ok (.goto 9, 3) := by decide +kernel
theorem d_MO_of_41 : decode (mB M_MO_of) 41 = .ok (.aload_n 0, 1) := by decide +kernel
theorem d_MO_of_42 : decode (mB M_MO_of) 42 = .ok (.iload_n 1, 1) := by decide +kernel
theorem d_MO_of_43 : decode (mB M_MO_of) 43 = .ok (.iload_n 2, 1) := by decide +kernel
theorem d_MO_of_44 : decode (mB M_MO_of) 44 = .ok (.invokevirtual 144, 3) := by decide +kernel
theorem d_MO_of_47 : decode (mB M_MO_of) 47 = .ok (.ireturn, 1) := by decide +kernel
theorem d_MO_has_0 : decode (mB M_MO_has) 0 = .ok (.aload_n 0, 1) := by decide +kernel
theorem d_MO_has_1 : decode (mB M_MO_has) 1 = .ok (.aload_n 0, 1) := by decide +kernel
theorem d_MO_has_2 : decode (mB M_MO_has) 2 = .ok (.iload_n 1, 1) := by decide +kernel
theorem d_MO_has_3 : decode (mB M_MO_has) 3 = .ok (.invokevirtual 111, 3) := by decide +kernel
theorem d_MO_has_6 : decode (mB M_MO_has) 6 = .ok (.ifCond .ne 7, 3) := by decide +kernel
theorem d_MO_has_9 : decode (mB M_MO_has) 9 = .ok (.iconst 1, 1) := by decide +kernel
theorem d_MO_has_10 : decode (mB M_MO_has) 10 = .ok (.goto 4, 3) := by decide +kernel
theorem d_MO_has_13 : decode (mB M_MO_has) 13 = .ok (.iconst 0, 1) := by decide +kernel
theorem d_MO_has_14 : decode (mB M_MO_has) 14 = .ok (.iload_n 2, 1) := by decide +kernel
theorem d_MO_has_15 : decode (mB M_MO_has) 15 = .ok (.iconst 0, 1) := by decide +kernel
theorem d_MO_has_16 : decode (mB M_MO_has) 16 = .ok (.bipush 7, 2) := by decide +kernel
theorem d_MO_has_18 : decode (mB M_MO_has) 18 = .ok (.invokestatic 77, 3) := by decide +kernel
theorem d_MO_has_21 : decode (mB M_MO_has) 21 = .ok (.ifCond .ne 7, 3) := by decide +kernel
theorem d_MO_has_24 : decode (mB M_MO_has) 24 = .ok (.iconst 1, 1) := by decide +kernel
theorem d_MO_has_25 : decode (mB M_MO_has) 25 = .ok (.goto 4, 3) := by decide +kernel
theorem d_MO_has_28 : decode (mB M_MO_has) 28 = .ok (.iconst 0, 1) := by decide +kernel
theorem d_MO_has_29 : decode (mB M_MO_has) 29 = .ok (.iconst 0, 1) := by decide +kernel
theorem d_MO_has_30 : decode (mB M_MO_has) 30 = .ok (.iconst 0, 1) := by decide +kernel
theorem d_MO_has_31 : decode (mB M_MO_has) 31 = .ok (.invokevirtual 85, 3) := by decide +kernel
theorem d_MO_has_34 : decode (mB M_MO_has) 34 = .ok (.ifCond .eq 5, 3) := by decide +kernel
theorem d_MO_has_37 : decode (mB M_MO_has) 37 = .ok (.iconst 0, 1) := by decide +kernel
theorem d_MO_has_38 : decode (mB M_MO_has) 38 = .ok (.ireturn, 1) := by decide +kernel
theorem d_MO_has_39 : decode (mB M_MO_has) 39 = .ok (.aload_n 0, 1) := by decide +kernel
theorem d_MO_has_40 : decode (mB M_MO_has) 40 = .ok (.getfield 19, 3) := by decide +kernel
theorem d_MO_has_43 : decode (mB M_MO_has) 43 = .ok (.iload_n 1, 1) := by decide +kernel
theorem d_MO_has_44 : decode (mB M_MO_has) 44 = .ok (.iaload, 1) := by decide +kernel
theorem d_MO_has_45 : decode (mB M_MO_has) 45 = .ok (.iload_n 2, 1) := by decide +kernel
theorem d_MO_has_46 : decode (mB M_MO_has) 46 = .ok (.ishr, 1) := by decide +kernel
theorem d_MO_has_47 : decode (mB M_MO_has) 47 = .ok (.iconst 1, 1) := by decide +kernel
theorem d_MO_has_48 : decode (mB M_MO_has) 48 = .ok (.iand, 1) := by decide +kernel
theorem d_MO_has_49 : decode (mB M_MO_has) 49 = .ok (.iconst 1, 1) := by decide +kernel
theorem d_MO_has_50 : decode (mB M_MO_has) 50 = .ok (.if_icmp .ne 7, 3) := by decide +kernel
theorem d_MO_has_53 : decode (mB M_MO_has) 53 = .ok (.iconst 1, 1) := by decide +kernel
theorem d_MO_has_54 : decode (mB M_MO_has) 54 = .ok (.goto 22, 3) := by decide +kernel
theorem d_MO_has_57 : decode (mB M_MO_has) 57 = .ok (.aload_n 0, 1) := by decide +kernel
theorem d_MO_has_58 : decode (mB M_MO_has) 58 = .ok (.getfield 22, 3) := by decide +kernel
theorem d_MO_has_61 : decode (mB M_MO_has) 61 = .ok (.iload_n 1, 1) := by decide +kernel
theorem d_MO_has_62 : decode (mB M_MO_has) 62 = .ok (.iaload, 1) := by decide +kernel
theorem d_MO_has_63 : decode (mB M_MO_has) 63 = .ok (.iload_n 2, 1) := by decide +kernel
theorem d_MO_has_64 : decode (mB M_MO_has) 64 = .ok (.ishr, 1) := by decide +kernel
theorem d_MO_has_65 : decode (mB M_MO_has) 65 = .ok (.iconst 1, 1) := by decide +kernel
theorem d_MO_has_66 : decode (mB M_MO_has) 66 = .ok (.iand, 1) := by decide +kernel
theorem d_MO_has_67 : decode (mB M_MO_has) 67 = .ok (.iconst 1, 1) := by decide +kernel
theorem d_MO_has_68 : decode (mB M_MO_has) 68 = .ok (.if_icmp .ne 7, 3) := by decide +kernel
theorem d_MO_has_71 : decode (mB M_MO_has) 71 = .ok (.iconst 0, 1) := by decide +kernel
theorem d_MO_has_72 : decode (mB M_MO_has) 72 = .ok (.goto 4, 3) := by decide +kernel
theorem d_MO_has_75 : decode (mB M_MO_has) 75 = .ok (.iconst 2, 1) := by decide +kernel
theorem d_MO_has_76 : decode (mB M_MO_has) 76 = .ok (.ireturn, 1) := by decide +kernel
theorem d_MO_who_0 : decode (mB M_MO_who) 0 = .ok (.aload_n 0, 1) := by decide +kernel
theorem d_MO_who_1 : decode (mB M_MO_who) 1 = .ok (.aload_n 0, 1) := by decide +kernel
theorem d_MO_who_2 : decode (mB M_MO_who) 2 = .ok (.iload_n 1, 1) := by decide +kernel
theorem d_MO_who_3 : decode (mB M_MO_who) 3 = .ok (.invokevirtual 121, 3) := by decide +kernel
theorem d_MO_who_6 : decode (mB M_MO_who) 6 = .ok (.ifCond .ne 7, 3) := by decide +kernel
theorem d_MO_who_9 : decode (mB M_MO_who) 9 = .ok (.iconst 1, 1) := by decide +kernel
theorem d_MO_who_10 : decode (mB M_MO_who) 10 = .ok (.goto 4, 3) := by decide +kernel
theorem d_MO_who_13 : decode (mB M_MO_who) 13 = .ok (.iconst 0, 1) := by decide +kernel
theorem d_MO_who_14 : decode (mB M_MO_who) 14 = .ok (.iload_n 2, 1) := by decide +kernel
theorem d_MO_who_15 : decode (mB M_MO_who) 15 = .ok (.iconst 0, 1) := by decide +kernel
theorem d_MO_who_16 : decode (mB M_MO_who) 16 = .ok (.iconst 4, 1) := by decide +kernel
theorem d_MO_who_17 : decode (mB M_MO_who) 17 = .ok (.invokestatic 77, 3) := by decide +kernel
theorem d_MO_who_20 : decode (mB M_MO_who) 20 = .ok (.ifCond .ne 7, 3) := by decide +kernel
theorem d_MO_who_23 : decode (mB M_MO_who) 23 = .ok (.iconst 1, 1) := by decide +kernel
theorem d_MO_who_24 : decode (mB M_MO_who) 24 = .ok (.goto 4, 3) := by decide +kernel
theorem d_MO_who_27 : decode (mB M_MO_who) 27 = .ok (.iconst 0, 1) := by decide +kernel
theorem d_MO_who_28 : decode (mB M_MO_who) 28 = .ok (.iconst 0, 1) := by decide +kernel
theorem d_MO_who_29 : decode (mB M_MO_who) 29 = .ok (.iconst 0, 1) := by decide +kernel
theorem d_MO_who_30 : decode (mB M_MO_who) 30 = .ok (.invokevirtual 85, 3) := by decide +kernel
theorem d_MO_who_33 : decode (mB M_MO_who) 33 = .ok (.ifCond .eq 5, 3) := by decide +kernel
theorem d_MO_who_36 : decode (mB M_MO_who) 36 = .ok (.iconst 0, 1) := by decide +kernel
theorem d_MO_who_37 : decode (mB M_MO_who) 37 = .ok (.ireturn, 1) := by decide +kernel
theorem d_MO_who_38 : decode (mB M_MO_who) 38 = .ok (.iload_n 2, 1) := by decide +kernel
theorem d_MO_who_39 : decode (mB M_MO_who) 39 = .ok (.iconst 1, 1) := by decide +kernel
theorem d_MO_who_40 : decode (mB M_MO_who) 40 = .ok (.if_icmp .eq 8, 3) := by decide +kernel
theorem d_MO_who_43 : decode (mB M_MO_who) 43 = .ok (.iload_n 2, 1) := by decide +kernel
theorem d_MO_who_44 : decode (mB M_MO_who) 44 = .ok (.iconst 2, 1) := by decide +kernel
theorem d_MO_who_45 : decode (mB M_MO_who) 45 = .ok (.if_icmp .ne 42, 3) := by decide +kernel
theorem d_MO_who_48 : decode (mB M_MO_who) 48 = .ok (.aload_n 0, 1) := by decide +kernel
theorem d_MO_who_49 : decode (mB M_MO_who) 49 = .ok (.getfield 58, 3) := by decide +kernel
theorem d_MO_who_52 : decode (mB M_MO_who) 52 = .ok (.iload_n 1, 1) := by decide +kernel
theorem d_MO_who_53 : decode (mB M_MO_who) 53 = .ok (.iaload, 1) := by decide +kernel
theorem d_MO_who_54 : decode (mB M_MO_who) 54 = .ok (.iconst 1, 1) := by decide +kernel
theorem d_MO_who_55 : decode (mB M_MO_who) 55 = .ok (.if_icmp .eq 7, 3) := by decide +kernel
theorem d_MO_who_58 : decode (mB M_MO_who) 58 = .ok (.iconst (-1), 1) := by decide +kernel
theorem d_MO_who_59 : decode (mB M_MO_who) 59 = .ok (.goto 27, 3) := by decide +kernel
theorem d_MO_who_62 : decode (mB M_MO_who) 62 = .ok (.iload_n 2, 1) := by decide +kernel
theorem d_MO_who_63 : decode (mB M_MO_who) 63 = .ok (.iconst 1, 1) := by decide +kernel
theorem d_MO_who_64 : decode (mB M_MO_who) 64 = .ok (.if_icmp .ne 14, 3) := by decide +kernel
theorem d_MO_who_67 : decode (mB M_MO_who) 67 = .ok (.aload_n 0, 1) := by decide +kernel
theorem d_MO_who_68 : decode (mB M_MO_who) 68 = .ok (.getfield 52, 3) := by decide +kernel
theorem d_MO_who_71 : decode (mB M_MO_who) 71 = .ok (.iload_n 1, 1) := by decide +kernel
theorem d_MO_who_72 : decode (mB M_MO_who) 72 = .ok (.iaload, 1) := by decide +kernel
theorem d_MO_who_73 : decode (mB M_MO_who) 73 = .ok (.iconst 2, 1) := by decide +kernel
theorem d_MO_who_74 : decode (mB M_MO_who) 74 = .ok (.idiv, 1) := by decide +kernel
theorem d_MO_who_75 : decode (mB M_MO_who) 75 = .ok (.goto 11, 3) := by decide +kernel
theorem d_MO_who_78 : decode (mB M_MO_who) 78 = .ok (.aload_n 0, 1) := by decide +kernel
theorem d_MO_who_79 : decode (mB M_MO_who) 79 = .ok (.getfield 52, 3) := by decide +kernel
theorem d_MO_who_82 : decode (mB M_MO_who) 82 = .ok (.iload_n 1, 1) := by decide +kernel
theorem d_MO_who_83 : decode (mB M_MO_who) 83 = .ok (.iaload, 1) := by decide +kernel
theorem d_MO_who_84 : decode (mB M_MO_who) 84 = .ok (.iconst 2, 1) := by decide +kernel
theorem d_MO_who_85 : decode (mB M_MO_who) 85 = .ok (.irem, 1) := by decide +kernel
theorem d_MO_who_86 : decode (mB M_MO_who) 86 = .ok (.ireturn, 1) := by decide +kernel
theorem d_MO_who_87 : decode (mB M_MO_who) 87 = .ok (.iload_n 2, 1) := by decide +kernel
theorem d_MO_who_88 : decode (mB M_MO_who) 88 = .ok (.ifCond .ne 12, 3) := by decide +kernel
theorem d_MO_who_91 : decode (mB M_MO_who) 91 = .ok (.aload_n 0, 1) := by decide +kernel
theorem d_MO_who_92 : decode (mB M_MO_who) 92 = .ok (.getfield 58, 3) := by decide +kernel
theorem d_MO_who_95 : decode (mB M_MO_who) 95 = .ok (.iload_n 1, 1) := by decide +kernel
theorem d_MO_who_96 : decode (mB M_MO_who) 96 = .ok (.iaload, 1) := by decide +kernel
theorem d_MO_who_97 : decode (mB M_MO_who) 97 = .ok (.goto 23, 3) := by decide +kernel
theorem d_MO_who_100 : decode (mB M_MO_who) 100 = .ok (.iload_n 2, 1) := by decide +kernel
theorem d_MO_who_101 : decode (mB M_MO_who) 101 = .ok (.iconst 3, 1) := by decide +kernel
theorem d_MO_who_102 : decode (mB M_MO_who) 102 = .ok (.if_icmp .ne 12, 3) := by decide +kernel
theorem d_MO_who_105 : decode (mB M_MO_who) 105 = .ok (.aload_n 0, 1) := by decide +kernel
theorem d_MO_who_106 : decode (mB M_MO_who) 106 = .ok (.getfield 61, 3) := by decide +kernel
theorem d_MO_who_109 : decode (mB M_MO_who) 109 = .ok (.iload_n 1, 1) := by decide +kernel
theorem d_MO_who_110 : decode (mB M_MO_who) 110 = .ok (.iaload, 1) := by decide +kernel
theorem d_MO_who_111 : decode (mB M_MO_who) 111 = .ok (.goto 9, 3) := by decide +kernel
theorem d_MO_who_114 : decode (mB M_MO_who) 114 = .ok (.aload_n 0, 1) := by decide +kernel
theorem d_MO_who_115 : decode (mB M_MO_who) 115 = .ok (.getfield 64, 3) := by decide +kernel
theorem d_MO_who_118 : decode (mB M_MO_who) 118 = .ok (.iload_n 1, 1) := by decide +kernel
theorem d_MO_who_119 : decode (mB M_MO_who) 119 = .ok (.iaload, 1) := by decide +kernel
theorem d_MO_who_120 : decode (mB M_MO_who) 120 = .ok (.ireturn, 1) := by decide +kernel
theorem d_MO_why_0 : decode (mB M_MO_why) 0 = .ok (.aload_n 0, 1) := by decide +kernel
theorem d_MO_why_1 : decode (mB M_MO_why) 1 = .ok (.aload_n 0, 1) := by decide +kernel
theorem d_MO_why_2 : decode (mB M_MO_why) 2 = .ok (.iload_n 1, 1) := by decide +kernel
theorem d_MO_why_3 : decode (mB M_MO_why) 3 = .ok (.invokevirtual 121, 3) := by decide +kernel
theorem d_MO_why_6 : decode (mB M_MO_why) 6 = .ok (.ifCond .eq 11, 3) := by decide +kernel
theorem d_MO_why_9 : decode (mB M_MO_why) 9 = .ok (.aload_n 0, 1) := by decide +kernel
theorem d_MO_why_10 : decode (mB M_MO_why) 10 = .ok (.iload_n 2, 1) := by decide +kernel
theorem d_MO_why_11 : decode (mB M_MO_why) 11 = .ok (.invokevirtual 111, 3) := by decide +kernel
theorem d_MO_why_14 : decode (mB M_MO_why) 14 = .ok (.ifCond .ne 7, 3) := by decide +kernel
theorem d_MO_why_17 : decode (mB M_MO_why) 17 = .ok (.iconst 1, 1) := by decide +kernel
theorem d_MO_why_18 : decode (mB M_MO_why) 18 = .ok (.goto 4, 3) := by decide +kernel
theorem d_MO_why_21 : decode (mB M_MO_why) 21 = .ok (.iconst 0, 1) := by decide +kernel
theorem d_MO_why_22 : decode (mB M_MO_why) 22 = .ok (.iconst 0, 1) := by decide +kernel
theorem d_MO_why_23 : decode (mB M_MO_why) 23 = .ok (.iconst 0, 1) := by decide +kernel
theorem d_MO_why_24 : decode (mB M_MO_why) 24 = .ok (.iconst 0, 1) := by decide +kernel
theorem d_MO_why_25 : decode (mB M_MO_why) 25 = .ok (.invokevirtual 85, 3) := by decide +kernel
theorem d_MO_why_28 : decode (mB M_MO_why) 28 = .ok (.ifCond .eq 7, 3) := by decide +kernel
theorem d_MO_why_31 : decode (mB M_MO_why) 31 = .ok (.iconst 0, 1) := by decide +kernel
theorem d_MO_why_32 : decode (mB M_MO_why) 32 = .ok (.goto 9, 3) := by decide +kernel
theorem d_MO_why_35 : decode (mB M_MO_why) 35 = .ok (.aload_n 0, 1) := by decide +kernel
theorem d_MO_why_36 : decode (mB M_MO_why) 36 = .ok (.iload_n 1, 1) := by decide +kernel
theorem d_MO_why_37 : decode (mB M_MO_why) 37 = .ok (.iload_n 2, 1) := by decide +kernel
theorem d_MO_why_38 : decode (mB M_MO_why) 38 = .ok (.invokevirtual 127, 3) := by decide +kernel
theorem d_MO_why_41 : decode (mB M_MO_why) 41 = .ok (.ireturn, 1) := by decide +kernel
theorem d_MO_isBefore_0 : decode (mB M_MO_isBefore) 0 = .ok (.aload_n 0, 1) := by decide +kernel
theorem d_MO_isBefore_1 : decode (mB M_MO_isBefore) 1 = .ok (.getfield 28, 3) := by decide +kernel
theorem d_MO_isBefore_4 : decode (mB M_MO_isBefore) 4 = .ok (.iload_n 1, 1) := by decide +kernel
theorem d_MO_isBefore_5 : decode (mB M_MO_isBefore) 5 = .ok (.iaload, 1) := by decide +kernel
theorem d_MO_isBefore_6 : decode (mB M_MO_isBefore) 6 = .ok (.aload_n 0, 1) := by decide +kernel
theorem d_MO_isBefore_7 : decode (mB M_MO_isBefore) 7 = .ok (.getfield 28, 3) := by decide +kernel
theorem d_MO_isBefore_10 : decode (mB M_MO_isBefore) 10 = .ok (.iload_n 2, 1) := by decide +kernel
theorem d_MO_isBefore_11 : decode (mB M_MO_isBefore) 11 = .ok (.iaload, 1) := by decide +kernel
theorem d_MO_isBefore_12 : decode (mB M_MO_isBefore) 12 = .ok (.if_icmp .lt 23, 3) := by decide +kernel
theorem d_MO_isBefore_15 : decode (mB M_MO_isBefore) 15 = .ok (.aload_n 0, 1) := by decide +kernel
theorem d_MO_isBefore_16 : decode (mB M_MO_isBefore) 16 = .ok (.getfield 28, 3) := by decide +kernel
theorem d_MO_isBefore_19 : decode (mB M_MO_isBefore) 19 = .ok (.iload_n 1, 1) := by decide +kernel
theorem d_MO_isBefore_20 : decode (mB M_MO_isBefore) 20 = .ok (.iaload, 1) := by decide +kernel
theorem d_MO_isBefore_21 : decode (mB M_MO_isBefore) 21 = .ok (.aload_n 0, 1) := by decide +kernel
theorem d_MO_isBefore_22 : decode (mB M_MO_isBefore) 22 = .ok (.getfield 28, 3) := by decide +kernel
theorem d_MO_isBefore_25 : decode (mB M_MO_isBefore) 25 = .ok (.iload_n 2, 1) := by decide +kernel
theorem d_MO_isBefore_26 : decode (mB M_MO_isBefore) 26 = .ok (.iaload, 1) := by decide +kernel
theorem d_MO_isBefore_27 : decode (mB M_MO_isBefore) 27 = .ok (.if_icmp .ne 12, 3) := by decide +kernel
theorem d_MO_isBefore_30 : decode (mB M_MO_isBefore) 30 = .ok (.iload_n 1, 1) := by decide +kernel
theorem d_MO_isBefore_31 : decode (mB M_MO_isBefore) 31 = .ok (.iload_n 2, 1) := by decide +kernel
theorem d_MO_isBefore_32 : decode (mB M_MO_isBefore) 32 = .ok (.if_icmp .ge 7, 3) := by decide +kernel
theorem d_MO_isBefore_35 : decode (mB M_MO_isBefore) 35 = .ok (.iconst 1, 1) := by decide +kernel
theorem d_MO_isBefore_36 : decode (mB M_MO_isBefore) 36 = .ok (.goto 4, 3) := by decide +kernel
theorem d_MO_isBefore_39 : decode (mB M_MO_isBefore) 39 = .ok (.iconst 0, 1) := by decide +kernel
theorem d_MO_isBefore_40 : decode (mB M_MO_isBefore) 40 = .ok (.ireturn, 1) := by decide +kernel
theorem d_MO_isOffered_0 : decode (mB M_MO_isOffered) 0 = .ok (.aload_n 0, 1) := by decide +kernel
theorem d_MO_isOffered_1 : decode (mB M_MO_isOffered) 1 = .ok (.getfield 7, 3) := by decide +kernel
theorem d_MO_isOffered_4 : decode (mB M_MO_isOffered) 4 = .ok (.iload_n 3, 1) := by decide +kernel
theorem d_MO_isOffered_5 : decode (mB M_MO_isOffered) 5 = .ok (.iaload, 1) := by decide +kernel
theorem d_MO_isOffered_6 : decode (mB M_MO_isOffered) 6 = .ok (.iload_n 2, 1) := by decide +kernel
theorem d_MO_isOffered_7 : decode (mB M_MO_isOffered) 7 = .ok (.if_icmp .ne 24, 3) := by decide +kernel
theorem d_MO_isOffered_10 : decode (mB M_MO_isOffered) 10 = .ok (.aload_n 0, 1) := by decide +kernel
theorem d_MO_isOffered_11 : decode (mB M_MO_isOffered) 11 = .ok (.iload_n 3, 1) := by decide +kernel
theorem d_MO_isOffered_12 : decode (mB M_MO_isOffered) 12 = .ok (.invokevirtual 114, 3) := by decide +kernel
theorem d_MO_isOffered_15 : decode (mB M_MO_isOffered) 15 = .ok (.ifCond .eq 16, 3) := by decide +kernel
theorem d_MO_isOffered_18 : decode (mB M_MO_isOffered) 18 = .ok (.aload_n 0, 1) := by decide +kernel
theorem d_MO_isOffered_19 : decode (mB M_MO_isOffered) 19 = .ok (.iload_n 1, 1) := by decide +kernel
theorem d_MO_isOffered_20 : decode (mB M_MO_isOffered) 20 = .ok (.iload_n 3, 1) := by decide +kernel
theorem d_MO_isOffered_21 : decode (mB M_MO_isOffered) 21 = .ok (.invokevirtual 127, 3) := by decide +kernel
theorem d_MO_isOffered_24 : decode (mB M_MO_isOffered) 24 = .ok (.ifCond .ne 7, 3) := by decide +kernel
theorem d_MO_isOffered_27 : decode (mB M_MO_isOffered) 27 = .ok (.iconst 1, 1) := by decide +kernel
theorem d_MO_isOffered_28 : decode (mB M_MO_isOffered) 28 = .ok (.goto 4, 3) := by decide +kernel
theorem d_MO_isOffered_31 : decode (mB M_MO_isOffered) 31 = .ok (.iconst 0, 1) := by decide +kernel
theorem d_MO_isOffered_32 : decode (mB M_MO_isOffered) 32 = .ok (.ireturn, 1) := by decide +kernel
theorem d_MO_offer_0 : decode (mB M_MO_offer) 0 = .ok (.aload_n 0, 1) := by decide +kernel
theorem d_MO_offer_1 : decode (mB M_MO_offer) 1 = .ok (.aload_n 0, 1) := by decide +kernel
theorem d_MO_offer_2 : decode (mB M_MO_offer) 2 = .ok (.iload_n 1, 1) := by decide +kernel
theorem d_MO_offer_3 : decode (mB M_MO_offer) 3 = .ok (.invokevirtual 121, 3) := by decide +kernel
theorem d_MO_offer_6 : decode (mB M_MO_offer) 6 = .ok (.ifCond .ne 7, 3) := by decide +kernel
theorem d_MO_offer_9 : decode (mB M_MO_offer) 9 = .ok (.iconst 1, 1) := by decide +kernel
theorem d_MO_offer_10 : decode (mB M_MO_offer) 10 = .ok (.goto 4, 3) := by decide +kernel
theorem d_MO_offer_13 : decode (mB M_MO_offer) 13 = .ok (.iconst 0, 1) := by decide +kernel
theorem d_MO_offer_14 : decode (mB M_MO_offer) 14 = .ok (.iload_n 2, 1) := by decide +kernel
theorem d_MO_offer_15 : decode (mB M_MO_offer) 15 = .ok (.iconst 0, 1) := by decide +kernel
theorem d_MO_offer_16 : decode (mB M_MO_offer) 16 = .ok (.iconst 3, 1) := by decide +kernel
theorem d_MO_offer_17 : decode (mB M_MO_offer) 17 = .ok (.invokestatic 77, 3) := by decide +kernel
theorem d_MO_offer_20 : decode (mB M_MO_offer) 20 = .ok (.ifCond .ne 7, 3) := by decide +kernel
theorem d_MO_offer_23 : decode (mB M_MO_offer) 23 = .ok (.iconst 1, 1) := by decide +kernel
theorem d_MO_offer_24 : decode (mB M_MO_offer) 24 = .ok (.goto 4, 3) := by decide +kernel
theorem d_MO_offer_27 : decode (mB M_MO_offer) 27 = .ok (.iconst 0, 1) := by decide +kernel
theorem d_MO_offer_28 : decode (mB M_MO_offer) 28 = .ok (.iconst 0, 1) := by decide +kernel
theorem d_MO_offer_29 : decode (mB M_MO_offer) 29 = .ok (.iconst 0, 1) := by decide +kernel
theorem d_MO_offer_30 : decode (mB M_MO_offer) 30 = .ok (.invokevirtual 85, 3) := by decide +kernel
theorem d_MO_offer_33 : decode (mB M_MO_offer) 33 = .ok (.ifCond .eq 5, 3) := by decide +kernel
theorem d_MO_offer_36 : decode (mB M_MO_offer) 36 = .ok (.iconst 0, 1) := by decide +kernel
theorem d_MO_offer_37 : decode (mB M_MO_offer) 37 = .ok (.ireturn, 1) := by decide +kernel
theorem d_MO_offer_38 : decode (mB M_MO_offer) 38 = .ok (.iconst 0, 1) := by decide +kernel
theorem d_MO_offer_39 : decode (mB M_MO_offer) 39 = .ok (.istore 4, 2) := by decide +kernel
theorem d_MO_offer_41 : decode (mB M_MO_offer) 41 = .ok (.iload 4, 2) := by decide +kernel
theorem d_MO_offer_43 : decode (mB M_MO_offer) 43 = .ok (.aload_n 0, 1) := by decide +kernel
theorem d_MO_offer_44 : decode (mB M_MO_offer) 44 = .ok (.getfield 74, 3) := by decide +kernel
theorem d_MO_offer_47 : decode (mB M_MO_offer) 47 = .ok (.if_icmp .ge 83, 3) := by decide +kernel
theorem d_MO_offer_50 : decode (mB M_MO_offer) 50 = .ok (.iconst 0, 1) := by decide +kernel
theorem d_MO_offer_51 : decode (mB M_MO_offer) 51 = .ok (.istore 5, 2) := by decide +kernel
theorem d_MO_offer_53 : decode (mB M_MO_offer) 53 = .ok (.iconst 0, 1) := by decide +kernel
theorem d_MO_offer_54 : decode (mB M_MO_offer) 54 = .ok (.istore 6, 2) := by decide +kernel
theorem d_MO_offer_56 : decode (mB M_MO_offer) 56 = .ok (.iload 6, 2) := by decide +kernel
theorem d_MO_offer_58 : decode (mB M_MO_offer) 58 = .ok (.aload_n 0, 1) := by decide +kernel
theorem d_MO_offer_59 : decode (mB M_MO_offer) 59 = .ok (.getfield 74, 3) := by decide +kernel
theorem d_MO_offer_62 : decode (mB M_MO_offer) 62 = .ok (.if_icmp .ge 42, 3) := by decide +kernel
theorem d_MO_offer_65 : decode (mB M_MO_offer) 65 = .ok (.aload_n 0, 1) := by decide +kernel
theorem d_MO_offer_66 : decode (mB M_MO_offer) 66 = .ok (.iload_n 1, 1) := by decide +kernel
theorem d_MO_offer_67 : decode (mB M_MO_offer) 67 = .ok (.iload_n 2, 1) := by decide +kernel
theorem d_MO_offer_68 : decode (mB M_MO_offer) 68 = .ok (.iload 6, 2) := by decide +kernel
theorem d_MO_offer_70 : decode (mB M_MO_offer) 70 = .ok (.invokevirtual 147, 3) := by decide +kernel
theorem d_MO_offer_73 : decode (mB M_MO_offer) 73 = .ok (.ifCond .eq 21, 3) := by decide +kernel
theorem d_MO_offer_76 : decode (mB M_MO_offer) 76 = .ok (.aload_n 0, 1) := by decide +kernel
theorem d_MO_offer_77 : decode (mB M_MO_offer) 77 = .ok (.iload 6, 2) := by decide +kernel
theorem d_MO_offer_79 : decode (mB M_MO_offer) 79 = .ok (.iload 4, 2) := by decide +kernel
theorem d_MO_offer_81 : decode (mB M_MO_offer) 81 = .ok (.invokevirtual 150, 3) := by decide +kernel
theorem d_MO_offer_84 : decode (mB M_MO_offer) 84 = .ok (.ifCond .eq 10, 3) := by decide +kernel
theorem d_MO_offer_87 : decode (mB M_MO_offer) 87 = .ok (.iload 5, 2) := by decide +kernel
theorem d_MO_offer_89 : decode (mB M_MO_offer) 89 = .ok (.iconst 1, 1) := by decide +kernel
theorem d_MO_offer_90 : decode (mB M_MO_offer) 90 = .ok (.iadd, 1) := by decide +kernel
theorem d_MO_offer_91 : decode (mB M_MO_offer) 91 = .ok (.goto 5, 3) := by decide +kernel
theorem d_MO_offer_94 : decode (mB M_MO_offer) 94 = .ok (.iload 5, 2) := by decide +kernel
theorem d_MO_offer_96 : decode (mB M_MO_offer) 96 = .ok (.istore 5, 2) := by decide +kernel
theorem d_MO_offer_98 : decode (mB M_MO_offer) 98 = .ok (.iinc 6 1, 3) := by decide +kernel
theorem d_MO_offer_101 : decode (mB M_MO_offer) 101 = .ok (.goto (-45), 3) := by decide +kernel
theorem d_MO_offer_104 : decode (mB M_MO_offer) 104 = .ok (.iload 5, 2) := by decide +kernel
theorem d_MO_offer_106 : decode (mB M_MO_offer) 106 = .ok (.iload_n 3, 1) := by decide +kernel
theorem d_MO_offer_107 : decode (mB M_MO_offer) 107 = .ok (.if_icmp .ne 17, 3) := by decide +kernel
theorem d_MO_offer_110 : decode (mB M_MO_offer) 110 = .ok (.aload_n 0, 1) := by decide +kernel
theorem d_MO_offer_111 : decode (mB M_MO_offer) 111 = .ok (.iload_n 1, 1) := by decide +kernel
theorem d_MO_offer_112 : decode (mB M_MO_offer) 112 = .ok (.iload_n 2, 1) := by decide +kernel
theorem d_MO_offer_113 : decode (mB M_MO_offer) 113 = .ok (.iload 4, 2) := by decide +kernel
theorem d_MO_offer_115 : decode (mB M_MO_offer) 115 = .ok (.invokevirtual 147, 3) := by decide +kernel
theorem d_MO_offer_118 : decode (mB M_MO_offer) 118 = .ok (.ifCond .eq 6, 3) := by decide +kernel
theorem d_MO_offer_121 : decode (mB M_MO_offer) 121 = .ok (.iload 4, 2) := by decide +kernel
theorem d_MO_offer_123 : decode (mB M_MO_offer) 123 = .ok (.ireturn, 1) := by decide +kernel
theorem d_MO_offer_124 : decode (mB M_MO_offer) 124 = .ok (.iinc 4 1, 3) := by decide +kernel
theorem d_MO_offer_127 : decode (mB M_MO_offer) 127 = .ok (.goto (-86), 3) := by decide +kernel
theorem d_MO_offer_130 : decode (mB M_MO_offer) 130 = .ok (.iconst (-1), 1) := by decide +kernel
theorem d_MO_offer_131 : decode (mB M_MO_offer) 131 = .ok (.ireturn, 1) := by decide +kernel
theorem d_MO_stock_0 : decode (mB M_MO_stock) 0 = .ok (.aload_n 0, 1) := by decide +kernel
theorem d_MO_stock_1 : decode (mB M_MO_stock) 1 = .ok (.iload_n 1, 1) := by decide +kernel
theorem d_MO_stock_2 : decode (mB M_MO_stock) 2 = .ok (.iconst 0, 1) := by decide +kernel
theorem d_MO_stock_3 : decode (mB M_MO_stock) 3 = .ok (.iconst 3, 1) := by decide +kernel
theorem d_MO_stock_4 : decode (mB M_MO_stock) 4 = .ok (.invokestatic 77, 3) := by decide +kernel
theorem d_MO_stock_7 : decode (mB M_MO_stock) 7 = .ok (.ifCond .eq 21, 3) := by decide +kernel
theorem d_MO_stock_10 : decode (mB M_MO_stock) 10 = .ok (.iload_n 2, 1) := by decide +kernel
theorem d_MO_stock_11 : decode (mB M_MO_stock) 11 = .ok (.iconst (-1), 1) := by decide +kernel
theorem d_MO_stock_12 : decode (mB M_MO_stock) 12 = .ok (.iconst 3, 1) := by decide +kernel
theorem d_MO_stock_13 : decode (mB M_MO_stock) 13 = .ok (.invokestatic 77, 3) := by decide +kernel
theorem d_MO_stock_16 : decode (mB M_MO_stock) 16 = .ok (.ifCond .eq 12, 3) := by decide +kernel
theorem d_MO_stock_19 : decode (mB M_MO_stock) 19 = .ok (.iload_n 3, 1) := by decide +kernel
theorem d_MO_stock_20 : decode (mB M_MO_stock) 20 = .ok (.iconst (-1), 1) := by decide +kernel
theorem d_MO_stock_21 : decode (mB M_MO_stock) 21 = .ok (.iconst 1, 1) := by decide +kernel
theorem d_MO_stock_22 : decode (mB M_MO_stock) 22 = .ok (.invokestatic 77, 3) := by decide +kernel
theorem d_MO_stock_25 : decode (mB M_MO_stock) 25 = .ok (.ifCond .ne 7, 3) := by decide +kernel
theorem d_MO_stock_28 : decode (mB M_MO_stock) 28 = .ok (.iconst 1, 1) := by decide +kernel
theorem d_MO_stock_29 : decode (mB M_MO_stock) 29 = .ok (.goto 4, 3) := by decide +kernel
theorem d_MO_stock_32 : decode (mB M_MO_stock) 32 = .ok (.iconst 0, 1) := by decide +kernel
theorem d_MO_stock_33 : decode (mB M_MO_stock) 33 = .ok (.iconst 0, 1) := by decide +kernel
theorem d_MO_stock_34 : decode (mB M_MO_stock) 34 = .ok (.iconst 0, 1) := by decide +kernel
theorem d_MO_stock_35 : decode (mB M_MO_stock) 35 = .ok (.iconst 0, 1) := by decide +kernel
theorem d_MO_stock_36 : decode (mB M_MO_stock) 36 = .ok (.invokevirtual 85, 3) := by decide +kernel
theorem d_MO_stock_39 : decode (mB M_MO_stock) 39 = .ok (.ifCond .eq 5, 3) := by decide +kernel
theorem d_MO_stock_42 : decode (mB M_MO_stock) 42 = .ok (.iconst 0, 1) := by decide +kernel
theorem d_MO_stock_43 : decode (mB M_MO_stock) 43 = .ok (.ireturn, 1) := by decide +kernel
theorem d_MO_stock_44 : decode (mB M_MO_stock) 44 = .ok (.iconst 0, 1) := by decide +kernel
theorem d_MO_stock_45 : decode (mB M_MO_stock) 45 = .ok (.istore 4, 2) := by decide +kernel
theorem d_MO_stock_47 : decode (mB M_MO_stock) 47 = .ok (.iconst 0, 1) := by decide +kernel
theorem d_MO_stock_48 : decode (mB M_MO_stock) 48 = .ok (.istore 5, 2) := by decide +kernel
theorem d_MO_stock_50 : decode (mB M_MO_stock) 50 = .ok (.iload 5, 2) := by decide +kernel
theorem d_MO_stock_52 : decode (mB M_MO_stock) 52 = .ok (.aload_n 0, 1) := by decide +kernel
theorem d_MO_stock_53 : decode (mB M_MO_stock) 53 = .ok (.getfield 74, 3) := by decide +kernel
theorem d_MO_stock_56 : decode (mB M_MO_stock) 56 = .ok (.if_icmp .ge 82, 3) := by decide +kernel
theorem d_MO_stock_59 : decode (mB M_MO_stock) 59 = .ok (.aload_n 0, 1) := by decide +kernel
theorem d_MO_stock_60 : decode (mB M_MO_stock) 60 = .ok (.getfield 7, 3) := by decide +kernel
theorem d_MO_stock_63 : decode (mB M_MO_stock) 63 = .ok (.iload 5, 2) := by decide +kernel
theorem d_MO_stock_65 : decode (mB M_MO_stock) 65 = .ok (.iaload, 1) := by decide +kernel
theorem d_MO_stock_66 : decode (mB M_MO_stock) 66 = .ok (.iload_n 1, 1) := by decide +kernel
theorem d_MO_stock_67 : decode (mB M_MO_stock) 67 = .ok (.if_icmp .ne 37, 3) := by decide +kernel
theorem d_MO_stock_70 : decode (mB M_MO_stock) 70 = .ok (.iload_n 2, 1) := by decide +kernel
theorem d_MO_stock_71 : decode (mB M_MO_stock) 71 = .ok (.ifCond .lt 14, 3) := by decide +kernel
theorem d_MO_stock_74 : decode (mB M_MO_stock) 74 = .ok (.aload_n 0, 1) := by decide +kernel
theorem d_MO_stock_75 : decode (mB M_MO_stock) 75 = .ok (.getfield 13, 3) := by decide +kernel
theorem d_MO_stock_78 : decode (mB M_MO_stock) 78 = .ok (.iload 5, 2) := by decide +kernel
theorem d_MO_stock_80 : decode (mB M_MO_stock) 80 = .ok (.iaload, 1) := by decide +kernel
theorem d_MO_stock_81 : decode (mB M_MO_stock) 81 = .ok (.iload_n 2, 1) := by decide +kernel
theorem d_MO_stock_82 : decode (mB M_MO_stock) 82 = .ok (.if_icmp .ne 22, 3) := by decide +kernel
theorem d_MO_stock_85 : decode (mB M_MO_stock) 85 = .ok (.iload_n 3, 1) := by decide +kernel
theorem d_MO_stock_86 : decode (mB M_MO_stock) 86 = .ok (.ifCond .lt 14, 3) := by decide +kernel
theorem d_MO_stock_89 : decode (mB M_MO_stock) 89 = .ok (.aload_n 0, 1) := by decide +kernel
theorem d_MO_stock_90 : decode (mB M_MO_stock) 90 = .ok (.getfield 16, 3) := by decide +kernel
theorem d_MO_stock_93 : decode (mB M_MO_stock) 93 = .ok (.iload 5, 2) := by decide +kernel
theorem d_MO_stock_95 : decode (mB M_MO_stock) 95 = .ok (.iaload, 1) := by decide +kernel
theorem d_MO_stock_96 : decode (mB M_MO_stock) 96 = .ok (.iload_n 3, 1) := by decide +kernel
theorem d_MO_stock_97 : decode (mB M_MO_stock) 97 = .ok (.if_icmp .ne 7, 3) := by decide +kernel
theorem d_MO_stock_100 : decode (mB M_MO_stock) 100 = .ok (.iconst 1, 1) := by decide +kernel
theorem d_MO_stock_101 : decode (mB M_MO_stock) 101 = .ok (.goto 4, 3) := by decide +kernel
theorem d_MO_stock_104 : decode (mB M_MO_stock) 104 = .ok (.iconst 0, 1) := by decide +kernel
theorem d_MO_stock_105 : decode (mB M_MO_stock) 105 = .ok (.istore 6, 2) := by decide +kernel
theorem d_MO_stock_107 : decode (mB M_MO_stock) 107 = .ok (.iload 6, 2) := by decide +kernel
theorem d_MO_stock_109 : decode (mB M_MO_stock) 109 = .ok (.ifCond .eq 19, 3) := by decide +kernel
theorem d_MO_stock_112 : decode (mB M_MO_stock) 112 = .ok (.aload_n 0, 1) := by decide +kernel
theorem d_MO_stock_113 : decode (mB M_MO_stock) 113 = .ok (.iload 5, 2) := by decide +kernel
theorem d_MO_stock_115 : decode (mB M_MO_stock) 115 = .ok (.invokevirtual 114, 3) := by decide +kernel
theorem d_MO_stock_118 : decode (mB M_MO_stock) 118 = .ok (.ifCond .eq 10, 3) := by decide +kernel
theorem d_MO_stock_121 : decode (mB M_MO_stock) 121 = .ok (.iload 4, 2) := by decide +kernel
theorem d_MO_stock_123 : decode (mB M_MO_stock) 123 = .ok (.iconst 1, 1) := by decide +kernel
theorem d_MO_stock_124 : decode (mB M_MO_stock) 124 = .ok (.iadd, 1) := by decide +kernel
theorem d_MO_stock_125 : decode (mB M_MO_stock) 125 = .ok (.goto 5, 3) := by decide +kernel
theorem d_MO_stock_128 : decode (mB M_MO_stock) 128 = .ok (.iload 4, 2) := by decide +kernel
theorem d_MO_stock_130 : decode (mB M_MO_stock) 130 = .ok (.istore 4, 2) := by decide +kernel
theorem d_MO_stock_132 : decode (mB M_MO_stock) 132 = .ok (.iinc 5 1, 3) := by decide +kernel
theorem d_MO_stock_135 : decode (mB M_MO_stock) 135 = .ok (.goto (-85), 3) := by decide +kernel
theorem d_MO_stock_138 : decode (mB M_MO_stock) 138 = .ok (.iload 4, 2) := by decide +kernel
theorem d_MO_stock_140 : decode (mB M_MO_stock) 140 = .ok (.ireturn, 1) := by decide +kernel
theorem d_MO_expiresIn_0 : decode (mB M_MO_expiresIn) 0 = .ok (.aload_n 0, 1) := by decide +kernel
theorem d_MO_expiresIn_1 : decode (mB M_MO_expiresIn) 1 = .ok (.iload_n 1, 1) := by decide +kernel
theorem d_MO_expiresIn_2 : decode (mB M_MO_expiresIn) 2 = .ok (.invokevirtual 95, 3) := by decide +kernel
theorem d_MO_expiresIn_5 : decode (mB M_MO_expiresIn) 5 = .ok (.ifCond .eq 12, 3) := by decide +kernel
theorem d_MO_expiresIn_8 : decode (mB M_MO_expiresIn) 8 = .ok (.aload_n 0, 1) := by decide +kernel
theorem d_MO_expiresIn_9 : decode (mB M_MO_expiresIn) 9 = .ok (.iload_n 1, 1) := by decide +kernel
theorem d_MO_expiresIn_10 : decode (mB M_MO_expiresIn) 10 = .ok (.invokevirtual 95, 3) := by decide +kernel
theorem d_MO_expiresIn_13 : decode (mB M_MO_expiresIn) 13 = .ok (.iconst 1, 1) := by decide +kernel
theorem d_MO_expiresIn_14 : decode (mB M_MO_expiresIn) 14 = .ok (.if_icmp .ne 30, 3) := by decide +kernel
theorem d_MO_expiresIn_17 : decode (mB M_MO_expiresIn) 17 = .ok (.aload_n 0, 1) := by decide +kernel
theorem d_MO_expiresIn_18 : decode (mB M_MO_expiresIn) 18 = .ok (.iload_n 1, 1) := by decide +kernel
theorem d_MO_expiresIn_19 : decode (mB M_MO_expiresIn) 19 = .ok (.invokevirtual 99, 3) := by decide +kernel
theorem d_MO_expiresIn_22 : decode (mB M_MO_expiresIn) 22 = .ok (.ifCond .ne 22, 3) := by decide +kernel
theorem d_MO_expiresIn_25 : decode (mB M_MO_expiresIn) 25 = .ok (.aload_n 0, 1) := by decide +kernel
theorem d_MO_expiresIn_26 : decode (mB M_MO_expiresIn) 26 = .ok (.getfield 28, 3) := by decide +kernel
theorem d_MO_expiresIn_29 : decode (mB M_MO_expiresIn) 29 = .ok (.iload_n 1, 1) := by decide +kernel
theorem d_MO_expiresIn_30 : decode (mB M_MO_expiresIn) 30 = .ok (.iaload, 1) := by decide +kernel
theorem d_MO_expiresIn_31 : decode (mB M_MO_expiresIn) 31 = .ok (.aload_n 0, 1) := by decide +kernel
theorem d_MO_expiresIn_32 : decode (mB M_MO_expiresIn) 32 = .ok (.getfield 89, 3) := by decide +kernel
theorem d_MO_expiresIn_35 : decode (mB M_MO_expiresIn) 35 = .ok (.iload_n 2, 1) := by decide +kernel
theorem d_MO_expiresIn_36 : decode (mB M_MO_expiresIn) 36 = .ok (.iadd, 1) := by decide +kernel
theorem d_MO_expiresIn_37 : decode (mB M_MO_expiresIn) 37 = .ok (.if_icmp .gt 7, 3) := by decide +kernel
theorem d_MO_expiresIn_40 : decode (mB M_MO_expiresIn) 40 = .ok (.iconst 1, 1) := by decide +kernel
theorem d_MO_expiresIn_41 : decode (mB M_MO_expiresIn) 41 = .ok (.goto 4, 3) := by decide +kernel
theorem d_MO_expiresIn_44 : decode (mB M_MO_expiresIn) 44 = .ok (.iconst 0, 1) := by decide +kernel
theorem d_MO_expiresIn_45 : decode (mB M_MO_expiresIn) 45 = .ok (.ireturn, 1) := by decide +kernel
theorem d_MO_expiring_0 : decode (mB M_MO_expiring) 0 = .ok (.aload_n 0, 1) := by decide +kernel
theorem d_MO_expiring_1 : decode (mB M_MO_expiring) 1 = .ok (.iload_n 1, 1) := by decide +kernel
theorem d_MO_expiring_2 : decode (mB M_MO_expiring) 2 = .ok (.iconst 0, 1) := by decide +kernel
theorem d_MO_expiring_3 : decode (mB M_MO_expiring) 3 = .ok (.ldc 106, 2) := by decide +kernel
theorem d_MO_expiring_5 : decode (mB M_MO_expiring) 5 = .ok (.invokestatic 77, 3) := by decide +kernel
theorem d_MO_expiring_8 : decode (mB M_MO_expiring) 8 = .ok (.ifCond .ne 7, 3) := by decide +kernel
theorem d_MO_expiring_11 : decode (mB M_MO_expiring) 11 = .ok (.iconst 1, 1) := by decide +kernel
theorem d_MO_expiring_12 : decode (mB M_MO_expiring) 12 = .ok (.goto 4, 3) := by decide +kernel
theorem d_MO_expiring_15 : decode (mB M_MO_expiring) 15 = .ok (.iconst 0, 1) := by decide +kernel
theorem d_MO_expiring_16 : decode (mB M_MO_expiring) 16 = .ok (.iconst 0, 1) := by decide +kernel
theorem d_MO_expiring_17 : decode (mB M_MO_expiring) 17 = .ok (.iconst 0, 1) := by decide +kernel
theorem d_MO_expiring_18 : decode (mB M_MO_expiring) 18 = .ok (.iconst 0, 1) := by decide +kernel
theorem d_MO_expiring_19 : decode (mB M_MO_expiring) 19 = .ok (.invokevirtual 85, 3) := by decide +kernel
theorem d_MO_expiring_22 : decode (mB M_MO_expiring) 22 = .ok (.ifCond .eq 5, 3) := by decide +kernel
theorem d_MO_expiring_25 : decode (mB M_MO_expiring) 25 = .ok (.iconst 0, 1) := by decide +kernel
theorem d_MO_expiring_26 : decode (mB M_MO_expiring) 26 = .ok (.ireturn, 1) := by decide +kernel
theorem d_MO_expiring_27 : decode (mB M_MO_expiring) 27 = .ok (.iconst 0, 1) := by decide +kernel
theorem d_MO_expiring_28 : decode (mB M_MO_expiring) 28 = .ok (.istore_n 3, 1) := by decide +kernel
theorem d_MO_expiring_29 : decode (mB M_MO_expiring) 29 = .ok (.iload_n 3, 1) := by decide +kernel
theorem d_MO_expiring_30 : decode (mB M_MO_expiring) 30 = .ok (.aload_n 0, 1) := by decide +kernel
theorem d_MO_expiring_31 : decode (mB M_MO_expiring) 31 = .ok (.getfield 74, 3) := by decide +kernel
theorem d_MO_expiring_34 : decode (mB M_MO_expiring) 34 = .ok (.if_icmp .ge 78, 3) := by decide +kernel
theorem d_MO_expiring_37 : decode (mB M_MO_expiring) 37 = .ok (.iconst 0, 1) := by decide +kernel
theorem d_MO_expiring_38 : decode (mB M_MO_expiring) 38 = .ok (.istore 4, 2) := by decide +kernel
theorem d_MO_expiring_40 : decode (mB M_MO_expiring) 40 = .ok (.iconst 0, 1) := by decide +kernel
theorem d_MO_expiring_41 : decode (mB M_MO_expiring) 41 = .ok (.istore 5, 2) := by decide +kernel
theorem d_MO_expiring_43 : decode (mB M_MO_expiring) 43 = .ok (.iload 5, 2) := by decide +kernel
theorem d_MO_expiring_45 : decode (mB M_MO_expiring) 45 = .ok (.aload_n 0, 1) := by decide +kernel
theorem d_MO_expiring_46 : decode (mB M_MO_expiring) 46 = .ok (.getfield 74, 3) := by decide +kernel
theorem d_MO_expiring_49 : decode (mB M_MO_expiring) 49 = .ok (.if_icmp .ge 40, 3) := by decide +kernel
theorem d_MO_expiring_52 : decode (mB M_MO_expiring) 52 = .ok (.aload_n 0, 1) := by decide +kernel
theorem d_MO_expiring_53 : decode (mB M_MO_expiring) 53 = .ok (.iload 5, 2) := by decide +kernel
theorem d_MO_expiring_55 : decode (mB M_MO_expiring) 55 = .ok (.iload_n 1, 1) := by decide +kernel
theorem d_MO_expiring_56 : decode (mB M_MO_expiring) 56 = .ok (.invokevirtual 153, 3) := by decide +kernel
theorem d_MO_expiring_59 : decode (mB M_MO_expiring) 59 = .ok (.ifCond .eq 20, 3) := by decide +kernel
theorem d_MO_expiring_62 : decode (mB M_MO_expiring) 62 = .ok (.aload_n 0, 1) := by decide +kernel
theorem d_MO_expiring_63 : decode (mB M_MO_expiring) 63 = .ok (.iload 5, 2) := by decide +kernel
theorem d_MO_expiring_65 : decode (mB M_MO_expiring) 65 = .ok (.iload_n 3, 1) := by decide +kernel
theorem d_MO_expiring_66 : decode (mB M_MO_expiring) 66 = .ok (.invokevirtual 150, 3) := by decide +kernel
theorem d_MO_expiring_69 : decode (mB M_MO_expiring) 69 = .ok (.ifCond .eq 10, 3) := by decide +kernel
theorem d_MO_expiring_72 : decode (mB M_MO_expiring) 72 = .ok (.iload 4, 2) := by decide +kernel
theorem d_MO_expiring_74 : decode (mB M_MO_expiring) 74 = .ok (.iconst 1, 1) := by decide +kernel
theorem d_MO_expiring_75 : decode (mB M_MO_expiring) 75 = .ok (.iadd, 1) := by decide +kernel
theorem d_MO_expiring_76 : decode (mB M_MO_expiring) 76 = .ok (.goto 5, 3) := by decide +kernel
theorem d_MO_expiring_79 : decode (mB M_MO_expiring) 79 = .ok (.iload 4, 2) := by decide +kernel
theorem d_MO_expiring_81 : decode (mB M_MO_expiring) 81 = .ok (.istore 4, 2) := by decide +kernel
theorem d_MO_expiring_83 : decode (mB M_MO_expiring) 83 = .ok (.iinc 5 1, 3) := by decide +kernel
theorem d_MO_expiring_86 : decode (mB M_MO_expiring) 86 = .ok (.goto (-43), 3) := by decide +kernel
theorem d_MO_expiring_89 : decode (mB M_MO_expiring) 89 = .ok (.iload 4, 2) := by decide +kernel
theorem d_MO_expiring_91 : decode (mB M_MO_expiring) 91 = .ok (.iload_n 2, 1) := by decide +kernel
theorem d_MO_expiring_92 : decode (mB M_MO_expiring) 92 = .ok (.if_icmp .ne 14, 3) := by decide +kernel
theorem d_MO_expiring_95 : decode (mB M_MO_expiring) 95 = .ok (.aload_n 0, 1) := by decide +kernel
theorem d_MO_expiring_96 : decode (mB M_MO_expiring) 96 = .ok (.iload_n 3, 1) := by decide +kernel
theorem d_MO_expiring_97 : decode (mB M_MO_expiring) 97 = .ok (.iload_n 1, 1) := by decide +kernel
theorem d_MO_expiring_98 : decode (mB M_MO_expiring) 98 = .ok (.invokevirtual 153, 3) := by decide +kernel
theorem d_MO_expiring_101 : decode (mB M_MO_expiring) 101 = .ok (.ifCond .eq 5, 3) := by decide +kernel
theorem d_MO_expiring_104 : decode (mB M_MO_expiring) 104 = .ok (.iload_n 3, 1) := by decide +kernel
theorem d_MO_expiring_105 : decode (mB M_MO_expiring) 105 = .ok (.ireturn, 1) := by decide +kernel
theorem d_MO_expiring_106 : decode (mB M_MO_expiring) 106 = .ok (.iinc 3 1, 3) := by decide +kernel
theorem d_MO_expiring_109 : decode (mB M_MO_expiring) 109 = .ok (.goto (-80), 3) := by decide +kernel
theorem d_MO_expiring_112 : decode (mB M_MO_expiring) 112 = .ok (.iconst (-1), 1) := by decide +kernel
theorem d_MO_expiring_113 : decode (mB M_MO_expiring) 113 = .ok (.ireturn, 1) := by decide +kernel
theorem d_MO_firstIssue_0 : decode (mB M_MO_firstIssue) 0 = .ok (.iconst 0, 1) := by decide +kernel
theorem d_MO_firstIssue_1 : decode (mB M_MO_firstIssue) 1 = .ok (.istore_n 3, 1) := by decide +kernel
theorem d_MO_firstIssue_2 : decode (mB M_MO_firstIssue) 2 = .ok (.iconst 0, 1) := by decide +kernel
theorem d_MO_firstIssue_3 : decode (mB M_MO_firstIssue) 3 = .ok (.istore 4, 2) := by decide +kernel
theorem d_MO_firstIssue_5 : decode (mB M_MO_firstIssue) 5 = .ok (.iload 4, 2) := by decide +kernel
theorem d_MO_firstIssue_7 : decode (mB M_MO_firstIssue) 7 = .ok (.aload_n 0, 1) := by decide +kernel
theorem d_MO_firstIssue_8 : decode (mB M_MO_firstIssue) 8 = .ok (.getfield 74, 3) := by decide +kernel
theorem d_MO_firstIssue_11 : decode (mB M_MO_firstIssue) 11 = .ok (.if_icmp .ge 84, 3) := by decide +kernel
theorem d_MO_firstIssue_14 : decode (mB M_MO_firstIssue) 14 = .ok (.aload_n 0, 1) := by decide +kernel
theorem d_MO_firstIssue_15 : decode (mB M_MO_firstIssue) 15 = .ok (.getfield 43, 3) := by decide +kernel
theorem d_MO_firstIssue_18 : decode (mB M_MO_firstIssue) 18 = .ok (.iload 4, 2) := by decide +kernel
theorem d_MO_firstIssue_20 : decode (mB M_MO_firstIssue) 20 = .ok (.iaload, 1) := by decide +kernel
theorem d_MO_firstIssue_21 : decode (mB M_MO_firstIssue) 21 = .ok (.ifCond .le 33, 3) := by decide +kernel
theorem d_MO_firstIssue_24 : decode (mB M_MO_firstIssue) 24 = .ok (.aload_n 0, 1) := by decide +kernel
theorem d_MO_firstIssue_25 : decode (mB M_MO_firstIssue) 25 = .ok (.getfield 37, 3) := by decide +kernel
theorem d_MO_firstIssue_28 : decode (mB M_MO_firstIssue) 28 = .ok (.iload 4, 2) := by decide +kernel
theorem d_MO_firstIssue_30 : decode (mB M_MO_firstIssue) 30 = .ok (.iaload, 1) := by decide +kernel
theorem d_MO_firstIssue_31 : decode (mB M_MO_firstIssue) 31 = .ok (.iload_n 1, 1) := by decide +kernel
theorem d_MO_firstIssue_32 : decode (mB M_MO_firstIssue) 32 = .ok (.if_icmp .ne 22, 3) := by decide +kernel
theorem d_MO_firstIssue_35 : decode (mB M_MO_firstIssue) 35 = .ok (.aload_n 0, 1) := by decide +kernel
theorem d_MO_firstIssue_36 : decode (mB M_MO_firstIssue) 36 = .ok (.getfield 31, 3) := by decide +kernel
theorem d_MO_firstIssue_39 : decode (mB M_MO_firstIssue) 39 = .ok (.iload 4, 2) := by decide +kernel
theorem d_MO_firstIssue_41 : decode (mB M_MO_firstIssue) 41 = .ok (.iaload, 1) := by decide +kernel
theorem d_MO_firstIssue_42 : decode (mB M_MO_firstIssue) 42 = .ok (.iload_n 2, 1) := by decide +kernel
theorem d_MO_firstIssue_43 : decode (mB M_MO_firstIssue) 43 = .ok (.ishr, 1) := by decide +kernel
theorem d_MO_firstIssue_44 : decode (mB M_MO_firstIssue) 44 = .ok (.iconst 1, 1) := by decide +kernel
theorem d_MO_firstIssue_45 : decode (mB M_MO_firstIssue) 45 = .ok (.iand, 1) := by decide +kernel
theorem d_MO_firstIssue_46 : decode (mB M_MO_firstIssue) 46 = .ok (.iconst 1, 1) := by decide +kernel
theorem d_MO_firstIssue_47 : decode (mB M_MO_firstIssue) 47 = .ok (.if_icmp .ne 7, 3) := by decide +kernel
theorem d_MO_firstIssue_50 : decode (mB M_MO_firstIssue) 50 = .ok (.iconst 1, 1) := by decide +kernel
theorem d_MO_firstIssue_51 : decode (mB M_MO_firstIssue) 51 = .ok (.goto 4, 3) := by decide +kernel
theorem d_MO_firstIssue_54 : decode (mB M_MO_firstIssue) 54 = .ok (.iconst 0, 1) := by decide +kernel
theorem d_MO_firstIssue_55 : decode (mB M_MO_firstIssue) 55 = .ok (.istore 5, 2) := by decide +kernel
theorem d_MO_firstIssue_57 : decode (mB M_MO_firstIssue) 57 = .ok (.iload 5, 2) := by decide +kernel
theorem d_MO_firstIssue_59 : decode (mB M_MO_firstIssue) 59 = .ok (.ifCond .eq 28, 3) := by decide +kernel
theorem d_MO_firstIssue_62 : decode (mB M_MO_firstIssue) 62 = .ok (.iload_n 3, 1) := by decide +kernel
theorem d_MO_firstIssue_63 : decode (mB M_MO_firstIssue) 63 = .ok (.ifCond .eq 14, 3) := by decide +kernel
theorem d_MO_firstIssue_66 : decode (mB M_MO_firstIssue) 66 = .ok (.aload_n 0, 1) := by decide +kernel
theorem d_MO_firstIssue_67 : decode (mB M_MO_firstIssue) 67 = .ok (.getfield 43, 3) := by decide +kernel
theorem d_MO_firstIssue_70 : decode (mB M_MO_firstIssue) 70 = .ok (.iload 4, 2) := by decide +kernel
theorem d_MO_firstIssue_72 : decode (mB M_MO_firstIssue) 72 = .ok (.iaload, 1) := by decide +kernel
theorem d_MO_firstIssue_73 : decode (mB M_MO_firstIssue) 73 = .ok (.iload_n 3, 1) := by decide +kernel
theorem d_MO_firstIssue_74 : decode (mB M_MO_firstIssue) 74 = .ok (.if_icmp .ge 13, 3) := by decide +kernel
theorem d_MO_firstIssue_77 : decode (mB M_MO_firstIssue) 77 = .ok (.aload_n 0, 1) := by decide +kernel
theorem d_MO_firstIssue_78 : decode (mB M_MO_firstIssue) 78 = .ok (.getfield 43, 3) := by decide +kernel
theorem d_MO_firstIssue_81 : decode (mB M_MO_firstIssue) 81 = .ok (.iload 4, 2) := by decide +kernel
theorem d_MO_firstIssue_83 : decode (mB M_MO_firstIssue) 83 = .ok (.iaload, 1) := by decide +kernel
theorem d_MO_firstIssue_84 : decode (mB M_MO_firstIssue) 84 = .ok (.goto 4, 3) := by decide +kernel
theorem d_MO_firstIssue_87 : decode (mB M_MO_firstIssue) 87 = .ok (.iload_n 3, 1) := by decide +kernel
theorem d_MO_firstIssue_88 : decode (mB M_MO_firstIssue) 88 = .ok (.istore_n 3, 1) := by decide +kernel
theorem d_MO_firstIssue_89 : decode (mB M_MO_firstIssue) 89 = .ok (.iinc 4 1, 3) := by decide +kernel
theorem d_MO_firstIssue_92 : decode (mB M_MO_firstIssue) 92 = .ok (.goto (-87), 3) := by decide +kernel
theorem d_MO_firstIssue_95 : decode (mB M_MO_firstIssue) 95 = .ok (.iload_n 3, 1) := by decide +kernel
theorem d_MO_firstIssue_96 : decode (mB M_MO_firstIssue) 96 = .ok (.ireturn, 1) := by decide +kernel
theorem d_MO_lookback_0 : decode (mB M_MO_lookback) 0 = .ok (.aload_n 0, 1) := by decide +kernel
theorem d_MO_lookback_1 : decode (mB M_MO_lookback) 1 = .ok (.iload_n 1, 1) := by decide +kernel
theorem d_MO_lookback_2 : decode (mB M_MO_lookback) 2 = .ok (.iconst 0, 1) := by decide +kernel
theorem d_MO_lookback_3 : decode (mB M_MO_lookback) 3 = .ok (.bipush 15, 2) := by decide +kernel
theorem d_MO_lookback_5 : decode (mB M_MO_lookback) 5 = .ok (.invokestatic 77, 3) := by decide +kernel
theorem d_MO_lookback_8 : decode (mB M_MO_lookback) 8 = .ok (.ifCond .ne 7, 3) := by decide +kernel
theorem d_MO_lookback_11 : decode (mB M_MO_lookback) 11 = .ok (.iconst 1, 1) := by decide +kernel
theorem d_MO_lookback_12 : decode (mB M_MO_lookback) 12 = .ok (.goto 4, 3) := by decide +kernel
theorem d_MO_lookback_15 : decode (mB M_MO_lookback) 15 = .ok (.iconst 0, 1) := by decide +kernel
theorem d_MO_lookback_16 : decode (mB M_MO_lookback) 16 = .ok (.iconst 0, 1) := by decide +kernel
theorem d_MO_lookback_17 : decode (mB M_MO_lookback) 17 = .ok (.iconst 0, 1) := by decide +kernel
theorem d_MO_lookback_18 : decode (mB M_MO_lookback) 18 = .ok (.iconst 0, 1) := by decide +kernel
theorem d_MO_lookback_19 : decode (mB M_MO_lookback) 19 = .ok (.invokevirtual 85, 3) := by decide +kernel
theorem d_MO_lookback_22 : decode (mB M_MO_lookback) 22 = .ok (.ifCond .eq 5, 3) := by decide +kernel
theorem d_MO_lookback_25 : decode (mB M_MO_lookback) 25 = .ok (.iconst 0, 1) := by decide +kernel
theorem d_MO_lookback_26 : decode (mB M_MO_lookback) 26 = .ok (.ireturn, 1) := by decide +kernel
theorem d_MO_lookback_27 : decode (mB M_MO_lookback) 27 = .ok (.iconst 0, 1) := by decide +kernel
theorem d_MO_lookback_28 : decode (mB M_MO_lookback) 28 = .ok (.istore_n 3, 1) := by decide +kernel
theorem d_MO_lookback_29 : decode (mB M_MO_lookback) 29 = .ok (.iload_n 3, 1) := by decide +kernel
theorem d_MO_lookback_30 : decode (mB M_MO_lookback) 30 = .ok (.aload_n 0, 1) := by decide +kernel
theorem d_MO_lookback_31 : decode (mB M_MO_lookback) 31 = .ok (.getfield 81, 3) := by decide +kernel
theorem d_MO_lookback_34 : decode (mB M_MO_lookback) 34 = .ok (.if_icmp .ge 83, 3) := by decide +kernel
theorem d_MO_lookback_37 : decode (mB M_MO_lookback) 37 = .ok (.aload_n 0, 1) := by decide +kernel
theorem d_MO_lookback_38 : decode (mB M_MO_lookback) 38 = .ok (.iload_n 3, 1) := by decide +kernel
theorem d_MO_lookback_39 : decode (mB M_MO_lookback) 39 = .ok (.iload_n 1, 1) := by decide +kernel
theorem d_MO_lookback_40 : decode (mB M_MO_lookback) 40 = .ok (.invokevirtual 156, 3) := by decide +kernel
theorem d_MO_lookback_43 : decode (mB M_MO_lookback) 43 = .ok (.istore 4, 2) := by decide +kernel
theorem d_MO_lookback_45 : decode (mB M_MO_lookback) 45 = .ok (.iconst 0, 1) := by decide +kernel
theorem d_MO_lookback_46 : decode (mB M_MO_lookback) 46 = .ok (.istore 5, 2) := by decide +kernel
theorem d_MO_lookback_48 : decode (mB M_MO_lookback) 48 = .ok (.iconst 0, 1) := by decide +kernel
theorem d_MO_lookback_49 : decode (mB M_MO_lookback) 49 = .ok (.istore 6, 2) := by decide +kernel
theorem d_MO_lookback_51 : decode (mB M_MO_lookback) 51 = .ok (.iload 6, 2) := by decide +kernel
theorem d_MO_lookback_53 : decode (mB M_MO_lookback) 53 = .ok (.aload_n 0, 1) := by decide +kernel
theorem d_MO_lookback_54 : decode (mB M_MO_lookback) 54 = .ok (.getfield 81, 3) := by decide +kernel
theorem d_MO_lookback_57 : decode (mB M_MO_lookback) 57 = .ok (.if_icmp .ge 41, 3) := by decide +kernel
theorem d_MO_lookback_60 : decode (mB M_MO_lookback) 60 = .ok (.aload_n 0, 1) := by decide +kernel
theorem d_MO_lookback_61 : decode (mB M_MO_lookback) 61 = .ok (.iload 6, 2) := by decide +kernel
theorem d_MO_lookback_63 : decode (mB M_MO_lookback) 63 = .ok (.iload_n 1, 1) := by decide +kernel
theorem d_MO_lookback_64 : decode (mB M_MO_lookback) 64 = .ok (.invokevirtual 156, 3) := by decide +kernel
theorem d_MO_lookback_67 : decode (mB M_MO_lookback) 67 = .ok (.istore 7, 2) := by decide +kernel
theorem d_MO_lookback_69 : decode (mB M_MO_lookback) 69 = .ok (.iload 7, 2) := by decide +kernel
theorem d_MO_lookback_71 : decode (mB M_MO_lookback) 71 = .ok (.ifCond .le 17, 3) := by decide +kernel
theorem d_MO_lookback_74 : decode (mB M_MO_lookback) 74 = .ok (.iload 7, 2) := by decide +kernel
theorem d_MO_lookback_76 : decode (mB M_MO_lookback) 76 = .ok (.iload 4, 2) := by decide +kernel
theorem d_MO_lookback_78 : decode (mB M_MO_lookback) 78 = .ok (.if_icmp .ge 10, 3) := by decide +kernel
theorem d_MO_lookback_81 : decode (mB M_MO_lookback) 81 = .ok (.iload 5, 2) := by decide +kernel
theorem d_MO_lookback_83 : decode (mB M_MO_lookback) 83 = .ok (.iconst 1, 1) := by decide +kernel
theorem d_MO_lookback_84 : decode (mB M_MO_lookback) 84 = .ok (.iadd, 1) := by decide +kernel
theorem d_MO_lookback_85 : decode (mB M_MO_lookback) 85 = .ok (.goto 5, 3) := by decide +kernel
theorem d_MO_lookback_88 : decode (mB M_MO_lookback) 88 = .ok (.iload 5, 2) := by decide +kernel
theorem d_MO_lookback_90 : decode (mB M_MO_lookback) 90 = .ok (.istore 5, 2) := by decide +kernel
theorem d_MO_lookback_92 : decode (mB M_MO_lookback) 92 = .ok (.iinc 6 1, 3) := by decide +kernel
theorem d_MO_lookback_95 : decode (mB M_MO_lookback) 95 = .ok (.goto (-44), 3) := by decide +kernel
theorem d_MO_lookback_98 : decode (mB M_MO_lookback) 98 = .ok (.iload 4, 2) := by decide +kernel
theorem d_MO_lookback_100 : decode (mB M_MO_lookback) 100 = .ok (.ifCond .le 11, 3) := by decide +kernel
theorem d_MO_lookback_103 : decode (mB M_MO_lookback) 103 = .ok (.iload 5, 2) := by decide +kernel
theorem d_MO_lookback_105 : decode (mB M_MO_lookback) 105 = .ok (.iload_n 2, 1) := by decide +kernel
theorem d_MO_lookback_106 : decode (mB M_MO_lookback) 106 = .ok (.if_icmp .ne 5, 3) := by decide +kernel
theorem d_MO_lookback_109 : decode (mB M_MO_lookback) 109 = .ok (.iload_n 3, 1) := by decide +kernel
theorem d_MO_lookback_110 : decode (mB M_MO_lookback) 110 = .ok (.ireturn, 1) := by decide +kernel
theorem d_MO_lookback_111 : decode (mB M_MO_lookback) 111 = .ok (.iinc 3 1, 3) := by decide +kernel
theorem d_MO_lookback_114 : decode (mB M_MO_lookback) 114 = .ok (.goto (-85), 3) := by decide +kernel
theorem d_MO_lookback_117 : decode (mB M_MO_lookback) 117 = .ok (.iconst (-1), 1) := by decide +kernel
theorem d_MO_lookback_118 : decode (mB M_MO_lookback) 118 = .ok (.ireturn, 1) := by decide +kernel
theorem d_MO_received_0 : decode (mB M_MO_received) 0 = .ok (.aload_n 0, 1) := by decide +kernel
theorem d_MO_received_1 : decode (mB M_MO_received) 1 = .ok (.aload_n 0, 1) := by decide +kernel
theorem d_MO_received_2 : decode (mB M_MO_received) 2 = .ok (.iload_n 1, 1) := by decide +kernel
theorem d_MO_received_3 : decode (mB M_MO_received) 3 = .ok (.invokevirtual 121, 3) := by decide +kernel
theorem d_MO_received_6 : decode (mB M_MO_received) 6 = .ok (.ifCond .ne 7, 3) := by decide +kernel
theorem d_MO_received_9 : decode (mB M_MO_received) 9 = .ok (.iconst 1, 1) := by decide +kernel
theorem d_MO_received_10 : decode (mB M_MO_received) 10 = .ok (.goto 4, 3) := by decide +kernel
theorem d_MO_received_13 : decode (mB M_MO_received) 13 = .ok (.iconst 0, 1) := by decide +kernel
theorem d_MO_received_14 : decode (mB M_MO_received) 14 = .ok (.iconst 0, 1) := by decide +kernel
theorem d_MO_received_15 : decode (mB M_MO_received) 15 = .ok (.iconst 0, 1) := by decide +kernel
theorem d_MO_received_16 : decode (mB M_MO_received) 16 = .ok (.iconst 0, 1) := by decide +kernel
theorem d_MO_received_17 : decode (mB M_MO_received) 17 = .ok (.invokevirtual 85, 3) := by decide +kernel
theorem d_MO_received_20 : decode (mB M_MO_received) 20 = .ok (.ifCond .eq 5, 3) := by decide +kernel
theorem d_MO_received_23 : decode (mB M_MO_received) 23 = .ok (.iconst 0, 1) := by decide +kernel
theorem d_MO_received_24 : decode (mB M_MO_received) 24 = .ok (.ireturn, 1) := by decide +kernel
theorem d_MO_received_25 : decode (mB M_MO_received) 25 = .ok (.iconst 0, 1) := by decide +kernel
theorem d_MO_received_26 : decode (mB M_MO_received) 26 = .ok (.istore_n 3, 1) := by decide +kernel
theorem d_MO_received_27 : decode (mB M_MO_received) 27 = .ok (.iload_n 3, 1) := by decide +kernel
theorem d_MO_received_28 : decode (mB M_MO_received) 28 = .ok (.aload_n 0, 1) := by decide +kernel
theorem d_MO_received_29 : decode (mB M_MO_received) 29 = .ok (.getfield 74, 3) := by decide +kernel
theorem d_MO_received_32 : decode (mB M_MO_received) 32 = .ok (.if_icmp .ge 105, 3) := by decide +kernel
theorem d_MO_received_35 : decode (mB M_MO_received) 35 = .ok (.iconst 0, 1) := by decide +kernel
theorem d_MO_received_36 : decode (mB M_MO_received) 36 = .ok (.istore 4, 2) := by decide +kernel
theorem d_MO_received_38 : decode (mB M_MO_received) 38 = .ok (.iconst 0, 1) := by decide +kernel
theorem d_MO_received_39 : decode (mB M_MO_received) 39 = .ok (.istore 5, 2) := by decide +kernel
theorem d_MO_received_41 : decode (mB M_MO_received) 41 = .ok (.iload 5, 2) := by decide +kernel
theorem d_MO_received_43 : decode (mB M_MO_received) 43 = .ok (.aload_n 0, 1) := by decide +kernel
theorem d_MO_received_44 : decode (mB M_MO_received) 44 = .ok (.getfield 74, 3) := by decide +kernel
theorem d_MO_received_47 : decode (mB M_MO_received) 47 = .ok (.if_icmp .ge 57, 3) := by decide +kernel
theorem d_MO_received_50 : decode (mB M_MO_received) 50 = .ok (.aload_n 0, 1) := by decide +kernel
theorem d_MO_received_51 : decode (mB M_MO_received) 51 = .ok (.getfield 43, 3) := by decide +kernel
theorem d_MO_received_54 : decode (mB M_MO_received) 54 = .ok (.iload 5, 2) := by decide +kernel
theorem d_MO_received_56 : decode (mB M_MO_received) 56 = .ok (.iaload, 1) := by decide +kernel
theorem d_MO_received_57 : decode (mB M_MO_received) 57 = .ok (.ifCond .le 37, 3) := by decide +kernel
theorem d_MO_received_60 : decode (mB M_MO_received) 60 = .ok (.aload_n 0, 1) := by decide +kernel
theorem d_MO_received_61 : decode (mB M_MO_received) 61 = .ok (.getfield 37, 3) := by decide +kernel
theorem d_MO_received_64 : decode (mB M_MO_received) 64 = .ok (.iload 5, 2) := by decide +kernel
theorem d_MO_received_66 : decode (mB M_MO_received) 66 = .ok (.iaload, 1) := by decide +kernel
theorem d_MO_received_67 : decode (mB M_MO_received) 67 = .ok (.iload_n 1, 1) := by decide +kernel
theorem d_MO_received_68 : decode (mB M_MO_received) 68 = .ok (.if_icmp .ne 26, 3) := by decide +kernel
theorem d_MO_received_71 : decode (mB M_MO_received) 71 = .ok (.aload_n 0, 1) := by decide +kernel
theorem d_MO_received_72 : decode (mB M_MO_received) 72 = .ok (.getfield 43, 3) := by decide +kernel
theorem d_MO_received_75 : decode (mB M_MO_received) 75 = .ok (.iload 5, 2) := by decide +kernel
theorem d_MO_received_77 : decode (mB M_MO_received) 77 = .ok (.iaload, 1) := by decide +kernel
theorem d_MO_received_78 : decode (mB M_MO_received) 78 = .ok (.aload_n 0, 1) := by decide +kernel
theorem d_MO_received_79 : decode (mB M_MO_received) 79 = .ok (.getfield 43, 3) := by decide +kernel
theorem d_MO_received_82 : decode (mB M_MO_received) 82 = .ok (.iload_n 3, 1) := by decide +kernel
theorem d_MO_received_83 : decode (mB M_MO_received) 83 = .ok (.iaload, 1) := by decide +kernel
theorem d_MO_received_84 : decode (mB M_MO_received) 84 = .ok (.if_icmp .ge 10, 3) := by decide +kernel
theorem d_MO_received_87 : decode (mB M_MO_received) 87 = .ok (.iload 4, 2) := by decide +kernel
theorem d_MO_received_89 : decode (mB M_MO_received) 89 = .ok (.iconst 1, 1) := by decide +kernel
theorem d_MO_received_90 : decode (mB M_MO_received) 90 = .ok (.iadd, 1) := by decide +kernel
theorem d_MO_received_91 : decode (mB M_MO_received) 91 = .ok (.goto 5, 3) := by decide +kernel
theorem d_MO_received_94 : decode (mB M_MO_received) 94 = .ok (.iload 4, 2) := by decide +kernel
theorem d_MO_received_96 : decode (mB M_MO_received) 96 = .ok (.istore 4, 2) := by decide +kernel
theorem d_MO_received_98 : decode (mB M_MO_received) 98 = .ok (.iinc 5 1, 3) := by decide +kernel
theorem d_MO_received_101 : decode (mB M_MO_received) 101 = .ok (.goto (-60), 3) := by decide +kernel
theorem d_MO_received_104 : decode (mB M_MO_received) 104 = .ok (.aload_n 0, 1) := by decide +kernel
theorem d_MO_received_105 : decode (mB M_MO_received) 105 = .ok (.getfield 43, 3) := by decide +kernel
theorem d_MO_received_108 : decode (mB M_MO_received) 108 = .ok (.iload_n 3, 1) := by decide +kernel
theorem d_MO_received_109 : decode (mB M_MO_received) 109 = .ok (.iaload, 1) := by decide +kernel
theorem d_MO_received_110 : decode (mB M_MO_received) 110 = .ok (.ifCond .le 21, 3) := by decide +kernel
theorem d_MO_received_113 : decode (mB M_MO_received) 113 = .ok (.aload_n 0, 1) := by decide +kernel
theorem d_MO_received_114 : decode (mB M_MO_received) 114 = .ok (.getfield 37, 3) := by decide +kernel
theorem d_MO_received_117 : decode (mB M_MO_received) 117 = .ok (.iload_n 3, 1) := by decide +kernel
theorem d_MO_received_118 : decode (mB M_MO_received) 118 = .ok (.iaload, 1) := by decide +kernel
theorem d_MO_received_119 : decode (mB M_MO_received) 119 = .ok (.iload_n 1, 1) := by decide +kernel
theorem d_MO_received_120 : decode (mB M_MO_received) 120 = .ok (.if_icmp .ne 11, 3) := by decide +kernel
theorem d_MO_received_123 : decode (mB M_MO_received) 123 = .ok (.iload 4, 2) := by decide +kernel
theorem d_MO_received_125 : decode (mB M_MO_received) 125 = .ok (.iload_n 2, 1) := by decide +kernel
theorem d_MO_received_126 : decode (mB M_MO_received) 126 = .ok (.if_icmp .ne 5, 3) := by decide +kernel
theorem d_MO_received_129 : decode (mB M_MO_received) 129 = .ok (.iload_n 3, 1) := by decide +kernel
theorem d_MO_received_130 : decode (mB M_MO_received) 130 = .ok (.ireturn, 1) := by decide +kernel
theorem d_MO_received_131 : decode (mB M_MO_received) 131 = .ok (.iinc 3 1, 3) := by decide +kernel
theorem d_MO_received_134 : decode (mB M_MO_received) 134 = .ok (.goto (-107), 3) := by decide +kernel
theorem d_MO_received_137 : decode (mB M_MO_received) 137 = .ok (.iconst (-1), 1) := by decide +kernel
theorem d_MO_received_138 : decode (mB M_MO_received) 138 = .ok (.ireturn, 1) := by decide +kernel
theorem d_MO_count_0 : decode (mB M_MO_count) 0 = .ok (.aload_n 0, 1) := by decide +kernel
theorem d_MO_count_1 : decode (mB M_MO_count) 1 = .ok (.iload_n 1, 1) := by decide +kernel
theorem d_MO_count_2 : decode (mB M_MO_count) 2 = .ok (.iconst 0, 1) := by decide +kernel
theorem d_MO_count_3 : decode (mB M_MO_count) 3 = .ok (.iconst 3, 1) := by decide +kernel
theorem d_MO_count_4 : decode (mB M_MO_count) 4 = .ok (.invokestatic 77, 3) := by decide +kernel
theorem d_MO_count_7 : decode (mB M_MO_count) 7 = .ok (.ifCond .eq 12, 3) := by decide +kernel
theorem d_MO_count_10 : decode (mB M_MO_count) 10 = .ok (.iload_n 2, 1) := by decide +kernel
theorem d_MO_count_11 : decode (mB M_MO_count) 11 = .ok (.iconst 0, 1) := by decide +kernel
theorem d_MO_count_12 : decode (mB M_MO_count) 12 = .ok (.iconst 5, 1) := by decide +kernel
theorem d_MO_count_13 : decode (mB M_MO_count) 13 = .ok (.invokestatic 77, 3) := by decide +kernel
theorem d_MO_count_16 : decode (mB M_MO_count) 16 = .ok (.ifCond .ne 7, 3) := by decide +kernel
theorem d_MO_count_19 : decode (mB M_MO_count) 19 = .ok (.iconst 1, 1) := by decide +kernel
theorem d_MO_count_20 : decode (mB M_MO_count) 20 = .ok (.goto 4, 3) := by decide +kernel
theorem d_MO_count_23 : decode (mB M_MO_count) 23 = .ok (.iconst 0, 1) := by decide +kernel
theorem d_MO_count_24 : decode (mB M_MO_count) 24 = .ok (.iconst 0, 1) := by decide +kernel
theorem d_MO_count_25 : decode (mB M_MO_count) 25 = .ok (.iconst 0, 1) := by decide +kernel
theorem d_MO_count_26 : decode (mB M_MO_count) 26 = .ok (.iconst 0, 1) := by decide +kernel
theorem d_MO_count_27 : decode (mB M_MO_count) 27 = .ok (.invokevirtual 85, 3) := by decide +kernel
theorem d_MO_count_30 : decode (mB M_MO_count) 30 = .ok (.ifCond .eq 5, 3) := by decide +kernel
theorem d_MO_count_33 : decode (mB M_MO_count) 33 = .ok (.iconst 0, 1) := by decide +kernel
theorem d_MO_count_34 : decode (mB M_MO_count) 34 = .ok (.ireturn, 1) := by decide +kernel
theorem d_MO_count_35 : decode (mB M_MO_count) 35 = .ok (.iconst 0, 1) := by decide +kernel
theorem d_MO_count_36 : decode (mB M_MO_count) 36 = .ok (.istore_n 3, 1) := by decide +kernel
theorem d_MO_count_37 : decode (mB M_MO_count) 37 = .ok (.iconst 0, 1) := by decide +kernel
theorem d_MO_count_38 : decode (mB M_MO_count) 38 = .ok (.istore 4, 2) := by decide +kernel
theorem d_MO_count_40 : decode (mB M_MO_count) 40 = .ok (.iload 4, 2) := by decide +kernel
theorem d_MO_count_42 : decode (mB M_MO_count) 42 = .ok (.aload_n 0, 1) := by decide +kernel
theorem d_MO_count_43 : decode (mB M_MO_count) 43 = .ok (.getfield 74, 3) := by decide +kernel
theorem d_MO_count_46 : decode (mB M_MO_count) 46 = .ok (.if_icmp .ge 38, 3) := by decide +kernel
theorem d_MO_count_49 : decode (mB M_MO_count) 49 = .ok (.aload_n 0, 1) := by decide +kernel
theorem d_MO_count_50 : decode (mB M_MO_count) 50 = .ok (.getfield 7, 3) := by decide +kernel
theorem d_MO_count_53 : decode (mB M_MO_count) 53 = .ok (.iload 4, 2) := by decide +kernel
theorem d_MO_count_55 : decode (mB M_MO_count) 55 = .ok (.iaload, 1) := by decide +kernel
theorem d_MO_count_56 : decode (mB M_MO_count) 56 = .ok (.iload_n 1, 1) := by decide +kernel
theorem d_MO_count_57 : decode (mB M_MO_count) 57 = .ok (.if_icmp .ne 19, 3) := by decide +kernel
theorem d_MO_count_60 : decode (mB M_MO_count) 60 = .ok (.aload_n 0, 1) := by decide +kernel
theorem d_MO_count_61 : decode (mB M_MO_count) 61 = .ok (.iload 4, 2) := by decide +kernel
theorem d_MO_count_63 : decode (mB M_MO_count) 63 = .ok (.invokevirtual 95, 3) := by decide +kernel
theorem d_MO_count_66 : decode (mB M_MO_count) 66 = .ok (.iload_n 2, 1) := by decide +kernel
theorem d_MO_count_67 : decode (mB M_MO_count) 67 = .ok (.if_icmp .ne 9, 3) := by decide +kernel
theorem d_MO_count_70 : decode (mB M_MO_count) 70 = .ok (.iload_n 3, 1) := by decide +kernel
theorem d_MO_count_71 : decode (mB M_MO_count) 71 = .ok (.iconst 1, 1) := by decide +kernel
theorem d_MO_count_72 : decode (mB M_MO_count) 72 = .ok (.iadd, 1) := by decide +kernel
theorem d_MO_count_73 : decode (mB M_MO_count) 73 = .ok (.goto 4, 3) := by decide +kernel
theorem d_MO_count_76 : decode (mB M_MO_count) 76 = .ok (.iload_n 3, 1) := by decide +kernel
theorem d_MO_count_77 : decode (mB M_MO_count) 77 = .ok (.istore_n 3, 1) := by decide +kernel
theorem d_MO_count_78 : decode (mB M_MO_count) 78 = .ok (.iinc 4 1, 3) := by decide +kernel
theorem d_MO_count_81 : decode (mB M_MO_count) 81 = .ok (.goto (-41), 3) := by decide +kernel
theorem d_MO_count_84 : decode (mB M_MO_count) 84 = .ok (.iload_n 3, 1) := by decide +kernel
theorem d_MO_count_85 : decode (mB M_MO_count) 85 = .ok (.ireturn, 1) := by decide +kernel
