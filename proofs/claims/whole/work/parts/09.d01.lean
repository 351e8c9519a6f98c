theorem dX11_readLine_37 : decode cX11_readLine 37 = .ok (.invokevirtual 198, 3) := by decide +kernel
theorem dX11_readLine_40 : decode cX11_readLine 40 = .ok (.ifCond .eq 15, 3) := by decide +kernel
theorem dX11_readLine_55 : decode cX11_readLine 55 = .ok (.aload_n 0, 1) := by decide +kernel
theorem dX11_readLine_56 : decode cX11_readLine 56 = .ok (.ldc 142, 2) := by decide +kernel
theorem dX11_readLine_58 : decode cX11_readLine 58 = .ok (.iconst 1, 1) := by decide +kernel
theorem dX11_readLine_59 : decode cX11_readLine 59 = .ok (.iconst 1, 1) := by decide +kernel
theorem dX11_readLine_60 : decode cX11_readLine 60 = .ok (.invokevirtual 198, 3) := by decide +kernel
theorem dX11_readLine_63 : decode cX11_readLine 63 = .ok (.ifCond .eq 16, 3) := by decide +kernel
theorem dX11_readLine_79 : decode cX11_readLine 79 = .ok (.aload_n 0, 1) := by decide +kernel
theorem dX11_readLine_80 : decode cX11_readLine 80 = .ok (.ldc 144, 2) := by decide +kernel
theorem dX11_readLine_82 : decode cX11_readLine 82 = .ok (.invokevirtual 124, 3) := by decide +kernel
theorem dX11_readLine_85 : decode cX11_readLine 85 = .ok (.ifCond .eq 10, 3) := by decide +kernel
theorem dX11_readLine_95 : decode cX11_readLine 95 = .ok (.aload_n 0, 1) := by decide +kernel
theorem dX11_readLine_96 : decode cX11_readLine 96 = .ok (.ldc 146, 2) := by decide +kernel
theorem dX11_readLine_98 : decode cX11_readLine 98 = .ok (.aload_n 0, 1) := by decide +kernel
theorem dX11_readLine_99 : decode cX11_readLine 99 = .ok (.getfield 23, 3) := by decide +kernel
theorem dX11_readLine_102 : decode cX11_readLine 102 = .ok (.bipush 52, 2) := by decide +kernel
theorem dX11_readLine_104 : decode cX11_readLine 104 = .ok (.iaload, 1) := by decide +kernel
theorem dX11_readLine_105 : decode cX11_readLine 105 = .ok (.bipush 8, 2) := by decide +kernel
theorem dX11_readLine_107 : decode cX11_readLine 107 = .ok (.if_icmp .ge 7, 3) := by decide +kernel
theorem dX11_readLine_110 : decode cX11_readLine 110 = .ok (.iconst 1, 1) := by decide +kernel
theorem dX11_readLine_111 : decode cX11_readLine 111 = .ok (.goto 4, 3) := by decide +kernel
theorem dX11_readLine_115 : decode cX11_readLine 115 = .ok (.iconst 5, 1) := by decide +kernel
theorem dX11_readLine_116 : decode cX11_readLine 116 = .ok (.invokevirtual 198, 3) := by decide +kernel
theorem dX11_readLine_119 : decode cX11_readLine 119 = .ok (.ifCond .eq 10, 3) := by decide +kernel
theorem dX11_readLine_129 : decode cX11_readLine 129 = .ok (.aload_n 0, 1) := by decide +kernel
theorem dX11_readLine_130 : decode cX11_readLine 130 = .ok (.ldc 148, 2) := by decide +kernel
theorem dX11_readLine_132 : decode cX11_readLine 132 = .ok (.aload_n 0, 1) := by decide +kernel
theorem dX11_readLine_133 : decode cX11_readLine 133 = .ok (.getfield 23, 3) := by decide +kernel
theorem dX11_readLine_136 : decode cX11_readLine 136 = .ok (.bipush 85, 2) := by decide +kernel
theorem dX11_readLine_138 : decode cX11_readLine 138 = .ok (.iaload, 1) := by decide +kernel
theorem dX11_readLine_139 : decode cX11_readLine 139 = .ok (.bipush 18, 2) := by decide +kernel
theorem dX11_readLine_141 : decode cX11_readLine 141 = .ok (.if_icmp .ge 7, 3) := by decide +kernel
theorem dX11_readLine_144 : decode cX11_readLine 144 = .ok (.iconst 1, 1) := by decide +kernel
theorem dX11_readLine_145 : decode cX11_readLine 145 = .ok (.goto 4, 3) := by decide +kernel
theorem dX11_readLine_149 : decode cX11_readLine 149 = .ok (.iconst 5, 1) := by decide +kernel
theorem dX11_readLine_150 : decode cX11_readLine 150 = .ok (.invokevirtual 198, 3) := by decide +kernel
theorem dX11_readLine_153 : decode cX11_readLine 153 = .ok (.ifCond .eq 10, 3) := by decide +kernel
theorem dX11_readLine_163 : decode cX11_readLine 163 = .ok (.aload_n 0, 1) := by decide +kernel
theorem dX11_readLine_164 : decode cX11_readLine 164 = .ok (.ldc 150, 2) := by decide +kernel
theorem dX11_readLine_166 : decode cX11_readLine 166 = .ok (.aload_n 0, 1) := by decide +kernel
theorem dX11_readLine_167 : decode cX11_readLine 167 = .ok (.getfield 23, 3) := by decide +kernel
theorem dX11_readLine_170 : decode cX11_readLine 170 = .ok (.sipush 158, 3) := by decide +kernel
theorem dX11_readLine_173 : decode cX11_readLine 173 = .ok (.iaload, 1) := by decide +kernel
theorem dX11_readLine_174 : decode cX11_readLine 174 = .ok (.iconst 4, 1) := by decide +kernel
theorem dX11_readLine_175 : decode cX11_readLine 175 = .ok (.if_icmp .ge 7, 3) := by decide +kernel
theorem dX11_readLine_178 : decode cX11_readLine 178 = .ok (.iconst 1, 1) := by decide +kernel
theorem dX11_readLine_179 : decode cX11_readLine 179 = .ok (.goto 4, 3) := by decide +kernel
theorem dX11_readLine_183 : decode cX11_readLine 183 = .ok (.iconst 5, 1) := by decide +kernel
theorem dX11_readLine_184 : decode cX11_readLine 184 = .ok (.invokevirtual 198, 3) := by decide +kernel
theorem dX11_readLine_187 : decode cX11_readLine 187 = .ok (.ifCond .eq 10, 3) := by decide +kernel
theorem dX11_readLine_197 : decode cX11_readLine 197 = .ok (.aload_n 0, 1) := by decide +kernel
theorem dX11_readLine_198 : decode cX11_readLine 198 = .ok (.iconst 1, 1) := by decide +kernel
theorem dX11_readLine_199 : decode cX11_readLine 199 = .ok (.aload_n 0, 1) := by decide +kernel
theorem dX11_readLine_200 : decode cX11_readLine 200 = .ok (.getfield 88, 3) := by decide +kernel
theorem dX11_readLine_203 : decode cX11_readLine 203 = .ok (.invokevirtual 134, 3) := by decide +kernel
theorem dX11_readLine_206 : decode cX11_readLine 206 = .ok (.return_, 1) := by decide +kernel
theorem dX11_fault_0 : decode cX11_fault 0 = .ok (.aload_n 0, 1) := by decide +kernel
theorem dX11_fault_1 : decode cX11_fault 1 = .ok (.iconst 0, 1) := by decide +kernel
theorem dX11_fault_2 : decode cX11_fault 2 = .ok (.putfield 69, 3) := by decide +kernel
theorem dX11_fault_5 : decode cX11_fault 5 = .ok (.aload_n 0, 1) := by decide +kernel
theorem dX11_fault_6 : decode cX11_fault 6 = .ok (.getfield 111, 3) := by decide +kernel
theorem dX11_fault_9 : decode cX11_fault 9 = .ok (.ireturn, 1) := by decide +kernel
theorem dX11_where_0 : decode cX11_where 0 = .ok (.aload_n 0, 1) := by decide +kernel
theorem dX11_where_1 : decode cX11_where 1 = .ok (.iconst 0, 1) := by decide +kernel
theorem dX11_where_2 : decode cX11_where 2 = .ok (.putfield 69, 3) := by decide +kernel
theorem dX11_where_5 : decode cX11_where 5 = .ok (.aload_n 0, 1) := by decide +kernel
theorem dX11_where_6 : decode cX11_where 6 = .ok (.getfield 72, 3) := by decide +kernel
theorem dX11_where_9 : decode cX11_where 9 = .ok (.iconst 4, 1) := by decide +kernel
theorem dX11_where_10 : decode cX11_where 10 = .ok (.if_icmp .ne 10, 3) := by decide +kernel
theorem dX11_where_13 : decode cX11_where 13 = .ok (.aload_n 0, 1) := by decide +kernel
theorem dX11_where_14 : decode cX11_where 14 = .ok (.getfield 13, 3) := by decide +kernel
theorem dX11_where_17 : decode cX11_where 17 = .ok (.goto 4, 3) := by decide +kernel
theorem dX11_where_20 : decode cX11_where 20 = .ok (.iconst (-1), 1) := by decide +kernel
theorem dX11_where_21 : decode cX11_where 21 = .ok (.ireturn, 1) := by decide +kernel
theorem dX11_isSet_0 : decode cX11_isSet 0 = .ok (.aload_n 0, 1) := by decide +kernel
theorem dX11_isSet_1 : decode cX11_isSet 1 = .ok (.getfield 183, 3) := by decide +kernel
theorem dX11_isSet_4 : decode cX11_isSet 4 = .ok (.ifCond .eq 23, 3) := by decide +kernel
theorem dX11_isSet_27 : decode cX11_isSet 27 = .ok (.iconst 0, 1) := by decide +kernel
theorem dX11_isSet_28 : decode cX11_isSet 28 = .ok (.ireturn, 1) := by decide +kernel
theorem dX11_isLook_0 : decode cX11_isLook 0 = .ok (.aload_n 0, 1) := by decide +kernel
theorem dX11_isLook_1 : decode cX11_isLook 1 = .ok (.getfield 183, 3) := by decide +kernel
theorem dX11_isLook_4 : decode cX11_isLook 4 = .ok (.ifCond .eq 24, 3) := by decide +kernel
theorem dX11_isLook_28 : decode cX11_isLook 28 = .ok (.iconst 0, 1) := by decide +kernel
theorem dX11_isLook_29 : decode cX11_isLook 29 = .ok (.ireturn, 1) := by decide +kernel
theorem dX11_isOutcome_0 : decode cX11_isOutcome 0 = .ok (.aload_n 0, 1) := by decide +kernel
theorem dX11_isOutcome_1 : decode cX11_isOutcome 1 = .ok (.iload_n 1, 1) := by decide +kernel
theorem dX11_isOutcome_2 : decode cX11_isOutcome 2 = .ok (.invokevirtual 244, 3) := by decide +kernel
theorem dX11_isOutcome_5 : decode cX11_isOutcome 5 = .ok (.ifCond .eq 25, 3) := by decide +kernel
theorem dX11_isOutcome_30 : decode cX11_isOutcome 30 = .ok (.iconst 0, 1) := by decide +kernel
theorem dX11_isOutcome_31 : decode cX11_isOutcome 31 = .ok (.ireturn, 1) := by decide +kernel
theorem dX11_share_0 : decode cX11_share 0 = .ok (.aload_n 0, 1) := by decide +kernel
theorem dX11_share_1 : decode cX11_share 1 = .ok (.invokevirtual 174, 3) := by decide +kernel
theorem dX11_share_4 : decode cX11_share 4 = .ok (.aload_n 0, 1) := by decide +kernel
theorem dX11_share_5 : decode cX11_share 5 = .ok (.getfield 183, 3) := by decide +kernel
theorem dX11_share_8 : decode cX11_share 8 = .ok (.ifCond .ne 9, 3) := by decide +kernel
theorem dX11_share_11 : decode cX11_share 11 = .ok (.aload_n 0, 1) := by decide +kernel
theorem dX11_share_12 : decode cX11_share 12 = .ok (.iconst 1, 1) := by decide +kernel
theorem dX11_share_13 : decode cX11_share 13 = .ok (.invokevirtual 177, 3) := by decide +kernel
theorem dX11_share_16 : decode cX11_share 16 = .ok (.ireturn, 1) := by decide +kernel
theorem dX11_together_0 : decode cX11_together 0 = .ok (.aload_n 0, 1) := by decide +kernel
theorem dX11_together_1 : decode cX11_together 1 = .ok (.invokevirtual 174, 3) := by decide +kernel
theorem dX11_together_4 : decode cX11_together 4 = .ok (.aload_n 0, 1) := by decide +kernel
theorem dX11_together_5 : decode cX11_together 5 = .ok (.iload_n 1, 1) := by decide +kernel
theorem dX11_together_6 : decode cX11_together 6 = .ok (.invokevirtual 296, 3) := by decide +kernel
theorem dX11_together_9 : decode cX11_together 9 = .ok (.ifCond .eq 31, 3) := by decide +kernel
theorem dX11_together_40 : decode cX11_together 40 = .ok (.aload_n 0, 1) := by decide +kernel
theorem dX11_together_41 : decode cX11_together 41 = .ok (.iconst 1, 1) := by decide +kernel
theorem dX11_together_42 : decode cX11_together 42 = .ok (.invokevirtual 177, 3) := by decide +kernel
theorem dX11_together_45 : decode cX11_together 45 = .ok (.ireturn, 1) := by decide +kernel
theorem dX11_extend_0 : decode cX11_extend 0 = .ok (.aload_n 0, 1) := by decide +kernel
theorem dX11_extend_1 : decode cX11_extend 1 = .ok (.invokevirtual 174, 3) := by decide +kernel
theorem dX11_extend_4 : decode cX11_extend 4 = .ok (.aload_n 0, 1) := by decide +kernel
theorem dX11_extend_5 : decode cX11_extend 5 = .ok (.iload_n 1, 1) := by decide +kernel
theorem dX11_extend_6 : decode cX11_extend 6 = .ok (.iload_n 2, 1) := by decide +kernel
theorem dX11_extend_7 : decode cX11_extend 7 = .ok (.invokevirtual 305, 3) := by decide +kernel
theorem dX11_extend_10 : decode cX11_extend 10 = .ok (.ifCond .eq 20, 3) := by decide +kernel
theorem dX11_extend_30 : decode cX11_extend 30 = .ok (.aload_n 0, 1) := by decide +kernel
theorem dX11_extend_31 : decode cX11_extend 31 = .ok (.iconst 1, 1) := by decide +kernel
theorem dX11_extend_32 : decode cX11_extend 32 = .ok (.invokevirtual 177, 3) := by decide +kernel
theorem dX11_extend_35 : decode cX11_extend 35 = .ok (.ireturn, 1) := by decide +kernel
theorem dX11_level_0 : decode cX11_level 0 = .ok (.aload_n 0, 1) := by decide +kernel
theorem dX11_level_1 : decode cX11_level 1 = .ok (.invokevirtual 174, 3) := by decide +kernel
theorem dX11_level_4 : decode cX11_level 4 = .ok (.aload_n 0, 1) := by decide +kernel
theorem dX11_level_5 : decode cX11_level 5 = .ok (.getfield 183, 3) := by decide +kernel
theorem dX11_level_8 : decode cX11_level 8 = .ok (.ifCond .ne 9, 3) := by decide +kernel
theorem dX11_level_11 : decode cX11_level 11 = .ok (.aload_n 0, 1) := by decide +kernel
theorem dX11_level_12 : decode cX11_level 12 = .ok (.iconst 1, 1) := by decide +kernel
theorem dX11_level_13 : decode cX11_level 13 = .ok (.invokevirtual 177, 3) := by decide +kernel
theorem dX11_level_16 : decode cX11_level 16 = .ok (.ireturn, 1) := by decide +kernel
theorem dX11_hidden_0 : decode cX11_hidden 0 = .ok (.aload_n 0, 1) := by decide +kernel
theorem dX11_hidden_1 : decode cX11_hidden 1 = .ok (.invokevirtual 174, 3) := by decide +kernel
theorem dX11_hidden_4 : decode cX11_hidden 4 = .ok (.aload_n 0, 1) := by decide +kernel
theorem dX11_hidden_5 : decode cX11_hidden 5 = .ok (.getfield 183, 3) := by decide +kernel
theorem dX11_hidden_8 : decode cX11_hidden 8 = .ok (.ifCond .eq 15, 3) := by decide +kernel
theorem dX11_hidden_23 : decode cX11_hidden 23 = .ok (.aload_n 0, 1) := by decide +kernel
theorem dX11_hidden_24 : decode cX11_hidden 24 = .ok (.iconst 1, 1) := by decide +kernel
theorem dX11_hidden_25 : decode cX11_hidden 25 = .ok (.invokevirtual 177, 3) := by decide +kernel
theorem dX11_hidden_28 : decode cX11_hidden 28 = .ok (.ireturn, 1) := by decide +kernel
theorem dX11_answer_0 : decode cX11_answer 0 = .ok (.aload_n 0, 1) := by decide +kernel
theorem dX11_answer_1 : decode cX11_answer 1 = .ok (.invokevirtual 174, 3) := by decide +kernel
theorem dX11_answer_4 : decode cX11_answer 4 = .ok (.aload_n 0, 1) := by decide +kernel
theorem dX11_answer_5 : decode cX11_answer 5 = .ok (.getfield 183, 3) := by decide +kernel
theorem dX11_answer_8 : decode cX11_answer 8 = .ok (.ifCond .eq 7, 3) := by decide +kernel
theorem dX11_answer_15 : decode cX11_answer 15 = .ok (.aload_n 0, 1) := by decide +kernel
theorem dX11_answer_16 : decode cX11_answer 16 = .ok (.iconst 1, 1) := by decide +kernel
theorem dX11_answer_17 : decode cX11_answer 17 = .ok (.invokevirtual 177, 3) := by decide +kernel
theorem dX11_answer_20 : decode cX11_answer 20 = .ok (.ireturn, 1) := by decide +kernel
theorem dX11_disturbed_0 : decode cX11_disturbed 0 = .ok (.aload_n 0, 1) := by decide +kernel
theorem dX11_disturbed_1 : decode cX11_disturbed 1 = .ok (.invokevirtual 174, 3) := by decide +kernel
theorem dX11_disturbed_4 : decode cX11_disturbed 4 = .ok (.aload_n 0, 1) := by decide +kernel
theorem dX11_disturbed_5 : decode cX11_disturbed 5 = .ok (.getfield 183, 3) := by decide +kernel
theorem dX11_disturbed_8 : decode cX11_disturbed 8 = .ok (.ifCond .ne 9, 3) := by decide +kernel
theorem dX11_disturbed_11 : decode cX11_disturbed 11 = .ok (.aload_n 0, 1) := by decide +kernel
theorem dX11_disturbed_12 : decode cX11_disturbed 12 = .ok (.iconst 1, 1) := by decide +kernel
theorem dX11_disturbed_13 : decode cX11_disturbed 13 = .ok (.invokevirtual 177, 3) := by decide +kernel
theorem dX11_disturbed_16 : decode cX11_disturbed 16 = .ok (.ireturn, 1) := by decide +kernel
theorem dX11_same_0 : decode cX11_same 0 = .ok (.aload_n 0, 1) := by decide +kernel
theorem dX11_same_1 : decode cX11_same 1 = .ok (.invokevirtual 174, 3) := by decide +kernel
theorem dX11_same_4 : decode cX11_same 4 = .ok (.aload_n 0, 1) := by decide +kernel
theorem dX11_same_5 : decode cX11_same 5 = .ok (.iload_n 1, 1) := by decide +kernel
theorem dX11_same_6 : decode cX11_same 6 = .ok (.invokevirtual 244, 3) := by decide +kernel
theorem dX11_same_9 : decode cX11_same 9 = .ok (.ifCond .eq 25, 3) := by decide +kernel
theorem dX11_same_34 : decode cX11_same 34 = .ok (.aload_n 0, 1) := by decide +kernel
theorem dX11_same_35 : decode cX11_same 35 = .ok (.iconst 1, 1) := by decide +kernel
theorem dX11_same_36 : decode cX11_same 36 = .ok (.sipush (-1000), 3) := by decide +kernel
theorem dX11_same_39 : decode cX11_same 39 = .ok (.invokevirtual 320, 3) := by decide +kernel
theorem dX11_same_42 : decode cX11_same 42 = .ok (.ireturn, 1) := by decide +kernel
theorem dX11_cycles_0 : decode cX11_cycles 0 = .ok (.aload_n 0, 1) := by decide +kernel
theorem dX11_cycles_1 : decode cX11_cycles 1 = .ok (.invokevirtual 174, 3) := by decide +kernel
theorem dX11_cycles_4 : decode cX11_cycles 4 = .ok (.aload_n 0, 1) := by decide +kernel
theorem dX11_cycles_5 : decode cX11_cycles 5 = .ok (.getfield 183, 3) := by decide +kernel
theorem dX11_cycles_8 : decode cX11_cycles 8 = .ok (.ifCond .eq 15, 3) := by decide +kernel
theorem dX11_cycles_23 : decode cX11_cycles 23 = .ok (.aload_n 0, 1) := by decide +kernel
theorem dX11_cycles_24 : decode cX11_cycles 24 = .ok (.iconst 1, 1) := by decide +kernel
theorem dX11_cycles_25 : decode cX11_cycles 25 = .ok (.invokevirtual 177, 3) := by decide +kernel
theorem dX11_cycles_28 : decode cX11_cycles 28 = .ok (.ireturn, 1) := by decide +kernel
theorem dX11_cycle_0 : decode cX11_cycle 0 = .ok (.aload_n 0, 1) := by decide +kernel
theorem dX11_cycle_1 : decode cX11_cycle 1 = .ok (.invokevirtual 174, 3) := by decide +kernel
theorem dX11_cycle_4 : decode cX11_cycle 4 = .ok (.aload_n 0, 1) := by decide +kernel
theorem dX11_cycle_5 : decode cX11_cycle 5 = .ok (.getfield 183, 3) := by decide +kernel
theorem dX11_cycle_8 : decode cX11_cycle 8 = .ok (.ifCond .eq 7, 3) := by decide +kernel
theorem dX11_cycle_15 : decode cX11_cycle 15 = .ok (.aload_n 0, 1) := by decide +kernel
theorem dX11_cycle_16 : decode cX11_cycle 16 = .ok (.iconst 1, 1) := by decide +kernel
theorem dX11_cycle_17 : decode cX11_cycle 17 = .ok (.invokevirtual 177, 3) := by decide +kernel
theorem dX11_cycle_20 : decode cX11_cycle 20 = .ok (.ireturn, 1) := by decide +kernel
theorem dX11_excess_0 : decode cX11_excess 0 = .ok (.aload_n 0, 1) := by decide +kernel
theorem dX11_excess_1 : decode cX11_excess 1 = .ok (.invokevirtual 174, 3) := by decide +kernel
theorem dX11_excess_4 : decode cX11_excess 4 = .ok (.aload_n 0, 1) := by decide +kernel
theorem dX11_excess_5 : decode cX11_excess 5 = .ok (.getfield 183, 3) := by decide +kernel
theorem dX11_excess_8 : decode cX11_excess 8 = .ok (.ifCond .ne 12, 3) := by decide +kernel
theorem dX11_excess_11 : decode cX11_excess 11 = .ok (.aload_n 0, 1) := by decide +kernel
theorem dX11_excess_12 : decode cX11_excess 12 = .ok (.iconst 1, 1) := by decide +kernel
theorem dX11_excess_13 : decode cX11_excess 13 = .ok (.sipush (-1000), 3) := by decide +kernel
theorem dX11_excess_16 : decode cX11_excess 16 = .ok (.invokevirtual 320, 3) := by decide +kernel
theorem dX11_excess_19 : decode cX11_excess 19 = .ok (.ireturn, 1) := by decide +kernel
theorem dX11_widest_0 : decode cX11_widest 0 = .ok (.aload_n 0, 1) := by decide +kernel
theorem dX11_widest_1 : decode cX11_widest 1 = .ok (.invokevirtual 174, 3) := by decide +kernel
theorem dX11_widest_4 : decode cX11_widest 4 = .ok (.aload_n 0, 1) := by decide +kernel
theorem dX11_widest_5 : decode cX11_widest 5 = .ok (.getfield 183, 3) := by decide +kernel
theorem dX11_widest_8 : decode cX11_widest 8 = .ok (.ifCond .ne 9, 3) := by decide +kernel
theorem dX11_widest_11 : decode cX11_widest 11 = .ok (.aload_n 0, 1) := by decide +kernel
theorem dX11_widest_12 : decode cX11_widest 12 = .ok (.iconst 1, 1) := by decide +kernel
theorem dX11_widest_13 : decode cX11_widest 13 = .ok (.invokevirtual 177, 3) := by decide +kernel
theorem dX11_widest_16 : decode cX11_widest 16 = .ok (.ireturn, 1) := by decide +kernel
theorem dX11_stake_0 : decode cX11_stake 0 = .ok (.aload_n 0, 1) := by decide +kernel
theorem dX11_stake_1 : decode cX11_stake 1 = .ok (.invokevirtual 174, 3) := by decide +kernel
theorem dX11_stake_4 : decode cX11_stake 4 = .ok (.aload_n 0, 1) := by decide +kernel
theorem dX11_stake_5 : decode cX11_stake 5 = .ok (.iload_n 1, 1) := by decide +kernel
theorem dX11_stake_6 : decode cX11_stake 6 = .ok (.iload_n 2, 1) := by decide +kernel
theorem dX11_stake_7 : decode cX11_stake 7 = .ok (.invokevirtual 305, 3) := by decide +kernel
theorem dX11_stake_10 : decode cX11_stake 10 = .ok (.ifCond .ne 9, 3) := by decide +kernel
theorem dX11_stake_13 : decode cX11_stake 13 = .ok (.aload_n 0, 1) := by decide +kernel
theorem dX11_stake_14 : decode cX11_stake 14 = .ok (.iconst 1, 1) := by decide +kernel
theorem dX11_stake_15 : decode cX11_stake 15 = .ok (.invokevirtual 336, 3) := by decide +kernel
theorem dX11_stake_18 : decode cX11_stake 18 = .ok (.ireturn, 1) := by decide +kernel
theorem dX11_wins_0 : decode cX11_wins 0 = .ok (.aload_n 0, 1) := by decide +kernel
theorem dX11_wins_1 : decode cX11_wins 1 = .ok (.invokevirtual 174, 3) := by decide +kernel
theorem dX11_wins_4 : decode cX11_wins 4 = .ok (.aload_n 0, 1) := by decide +kernel
theorem dX11_wins_5 : decode cX11_wins 5 = .ok (.getfield 183, 3) := by decide +kernel
theorem dX11_wins_8 : decode cX11_wins 8 = .ok (.ifCond .eq 10, 3) := by decide +kernel
theorem dX11_wins_18 : decode cX11_wins 18 = .ok (.aload_n 0, 1) := by decide +kernel
theorem dX11_wins_19 : decode cX11_wins 19 = .ok (.iconst 1, 1) := by decide +kernel
theorem dX11_wins_20 : decode cX11_wins 20 = .ok (.invokevirtual 177, 3) := by decide +kernel
theorem dX11_wins_23 : decode cX11_wins 23 = .ok (.ireturn, 1) := by decide +kernel
theorem dX11_worst_0 : decode cX11_worst 0 = .ok (.aload_n 0, 1) := by decide +kernel
theorem dX11_worst_1 : decode cX11_worst 1 = .ok (.invokevirtual 174, 3) := by decide +kernel
theorem dX11_worst_4 : decode cX11_worst 4 = .ok (.aload_n 0, 1) := by decide +kernel
theorem dX11_worst_5 : decode cX11_worst 5 = .ok (.getfield 183, 3) := by decide +kernel
theorem dX11_worst_8 : decode cX11_worst 8 = .ok (.ifCond .eq 14, 3) := by decide +kernel
theorem dX11_worst_22 : decode cX11_worst 22 = .ok (.aload_n 0, 1) := by decide +kernel
theorem dX11_worst_23 : decode cX11_worst 23 = .ok (.iconst 1, 1) := by decide +kernel
theorem dX11_worst_24 : decode cX11_worst 24 = .ok (.invokevirtual 177, 3) := by decide +kernel
theorem dX11_worst_27 : decode cX11_worst 27 = .ok (.ireturn, 1) := by decide +kernel
theorem dX11_worstAt_0 : decode cX11_worstAt 0 = .ok (.aload_n 0, 1) := by decide +kernel
theorem dX11_worstAt_1 : decode cX11_worstAt 1 = .ok (.invokevirtual 174, 3) := by decide +kernel
theorem dX11_worstAt_4 : decode cX11_worstAt 4 = .ok (.aload_n 0, 1) := by decide +kernel
theorem dX11_worstAt_5 : decode cX11_worstAt 5 = .ok (.getfield 183, 3) := by decide +kernel
theorem dX11_worstAt_8 : decode cX11_worstAt 8 = .ok (.ifCond .eq 10, 3) := by decide +kernel
theorem dX11_worstAt_18 : decode cX11_worstAt 18 = .ok (.aload_n 0, 1) := by decide +kernel
theorem dX11_worstAt_19 : decode cX11_worstAt 19 = .ok (.iconst 1, 1) := by decide +kernel
theorem dX11_worstAt_20 : decode cX11_worstAt 20 = .ok (.invokevirtual 177, 3) := by decide +kernel
theorem dX11_worstAt_23 : decode cX11_worstAt 23 = .ok (.ireturn, 1) := by decide +kernel
theorem dX11_bars_0 : decode cX11_bars 0 = .ok (.aload_n 0, 1) := by decide +kernel
theorem dX11_bars_1 : decode cX11_bars 1 = .ok (.invokevirtual 174, 3) := by decide +kernel
theorem dX11_bars_4 : decode cX11_bars 4 = .ok (.aload_n 0, 1) := by decide +kernel
theorem dX11_bars_5 : decode cX11_bars 5 = .ok (.getfield 183, 3) := by decide +kernel
theorem dX11_bars_8 : decode cX11_bars 8 = .ok (.ifCond .eq 34, 3) := by decide +kernel
theorem dX11_bars_42 : decode cX11_bars 42 = .ok (.aload_n 0, 1) := by decide +kernel
theorem dX11_bars_43 : decode cX11_bars 43 = .ok (.iconst 1, 1) := by decide +kernel
theorem dX11_bars_44 : decode cX11_bars 44 = .ok (.invokevirtual 177, 3) := by decide +kernel
theorem dX11_bars_47 : decode cX11_bars 47 = .ok (.ireturn, 1) := by decide +kernel
theorem dX11_fair_0 : decode cX11_fair 0 = .ok (.aload_n 0, 1) := by decide +kernel
theorem dX11_fair_1 : decode cX11_fair 1 = .ok (.invokevirtual 174, 3) := by decide +kernel
theorem dX11_fair_4 : decode cX11_fair 4 = .ok (.aload_n 0, 1) := by decide +kernel
theorem dX11_fair_5 : decode cX11_fair 5 = .ok (.getfield 183, 3) := by decide +kernel
theorem dX11_fair_8 : decode cX11_fair 8 = .ok (.ifCond .ne 9, 3) := by decide +kernel
theorem dX11_fair_11 : decode cX11_fair 11 = .ok (.aload_n 0, 1) := by decide +kernel
theorem dX11_fair_12 : decode cX11_fair 12 = .ok (.iconst 1, 1) := by decide +kernel
theorem dX11_fair_13 : decode cX11_fair 13 = .ok (.invokevirtual 177, 3) := by decide +kernel
theorem dX11_fair_16 : decode cX11_fair 16 = .ok (.ireturn, 1) := by decide +kernel
theorem dX11_ways_0 : decode cX11_ways 0 = .ok (.aload_n 0, 1) := by decide +kernel
theorem dX11_ways_1 : decode cX11_ways 1 = .ok (.invokevirtual 174, 3) := by decide +kernel
theorem dX11_ways_4 : decode cX11_ways 4 = .ok (.aload_n 0, 1) := by decide +kernel
theorem dX11_ways_5 : decode cX11_ways 5 = .ok (.getfield 183, 3) := by decide +kernel
theorem dX11_ways_8 : decode cX11_ways 8 = .ok (.ifCond .ne 9, 3) := by decide +kernel
theorem dX11_ways_11 : decode cX11_ways 11 = .ok (.aload_n 0, 1) := by decide +kernel
theorem dX11_ways_12 : decode cX11_ways 12 = .ok (.iconst 1, 1) := by decide +kernel
theorem dX11_ways_13 : decode cX11_ways 13 = .ok (.invokevirtual 177, 3) := by decide +kernel
theorem dX11_ways_16 : decode cX11_ways 16 = .ok (.ireturn, 1) := by decide +kernel
theorem dX11_forced_0 : decode cX11_forced 0 = .ok (.aload_n 0, 1) := by decide +kernel
theorem dX11_forced_1 : decode cX11_forced 1 = .ok (.invokevirtual 174, 3) := by decide +kernel
theorem dX11_forced_4 : decode cX11_forced 4 = .ok (.aload_n 0, 1) := by decide +kernel
theorem dX11_forced_5 : decode cX11_forced 5 = .ok (.getfield 183, 3) := by decide +kernel
theorem dX11_forced_8 : decode cX11_forced 8 = .ok (.ifCond .eq 20, 3) := by decide +kernel
theorem dX11_forced_28 : decode cX11_forced 28 = .ok (.aload_n 0, 1) := by decide +kernel
theorem dX11_forced_29 : decode cX11_forced 29 = .ok (.iconst 1, 1) := by decide +kernel
theorem dX11_forced_30 : decode cX11_forced 30 = .ok (.invokevirtual 177, 3) := by decide +kernel
theorem dX11_forced_33 : decode cX11_forced 33 = .ok (.ireturn, 1) := by decide +kernel
theorem dX11_core_0 : decode cX11_core 0 = .ok (.aload_n 0, 1) := by decide +kernel
theorem dX11_core_1 : decode cX11_core 1 = .ok (.invokevirtual 174, 3) := by decide +kernel
theorem dX11_core_4 : decode cX11_core 4 = .ok (.aload_n 0, 1) := by decide +kernel
theorem dX11_core_5 : decode cX11_core 5 = .ok (.getfield 183, 3) := by decide +kernel
theorem dX11_core_8 : decode cX11_core 8 = .ok (.ifCond .ne 9, 3) := by decide +kernel
theorem dX11_core_11 : decode cX11_core 11 = .ok (.aload_n 0, 1) := by decide +kernel
theorem dX11_core_12 : decode cX11_core 12 = .ok (.iconst 1, 1) := by decide +kernel
theorem dX11_core_13 : decode cX11_core 13 = .ok (.invokevirtual 177, 3) := by decide +kernel
theorem dX11_core_16 : decode cX11_core 16 = .ok (.ireturn, 1) := by decide +kernel
theorem dX11_can_0 : decode cX11_can 0 = .ok (.aload_n 0, 1) := by decide +kernel
theorem dX11_can_1 : decode cX11_can 1 = .ok (.invokevirtual 174, 3) := by decide +kernel
theorem dX11_can_4 : decode cX11_can 4 = .ok (.aload_n 0, 1) := by decide +kernel
theorem dX11_can_5 : decode cX11_can 5 = .ok (.getfield 183, 3) := by decide +kernel
theorem dX11_can_8 : decode cX11_can 8 = .ok (.ifCond .ne 9, 3) := by decide +kernel
theorem dX11_can_11 : decode cX11_can 11 = .ok (.aload_n 0, 1) := by decide +kernel
theorem dX11_can_12 : decode cX11_can 12 = .ok (.iconst 1, 1) := by decide +kernel
theorem dX11_can_13 : decode cX11_can 13 = .ok (.invokevirtual 177, 3) := by decide +kernel
theorem dX11_can_16 : decode cX11_can 16 = .ok (.ireturn, 1) := by decide +kernel
theorem dX11_game_0 : decode cX11_game 0 = .ok (.aload_n 0, 1) := by decide +kernel
theorem dX11_game_1 : decode cX11_game 1 = .ok (.invokevirtual 174, 3) := by decide +kernel
theorem dX11_game_4 : decode cX11_game 4 = .ok (.aload_n 0, 1) := by decide +kernel
theorem dX11_game_5 : decode cX11_game 5 = .ok (.getfield 183, 3) := by decide +kernel
theorem dX11_game_8 : decode cX11_game 8 = .ok (.ifCond .ne 9, 3) := by decide +kernel
theorem dX11_game_11 : decode cX11_game 11 = .ok (.aload_n 0, 1) := by decide +kernel
theorem dX11_game_12 : decode cX11_game 12 = .ok (.iconst 1, 1) := by decide +kernel
theorem dX11_game_13 : decode cX11_game 13 = .ok (.invokevirtual 177, 3) := by decide +kernel
theorem dX11_game_16 : decode cX11_game 16 = .ok (.ireturn, 1) := by decide +kernel
theorem dX11_isRay_0 : decode cX11_isRay 0 = .ok (.aload_n 0, 1) := by decide +kernel
theorem dX11_isRay_1 : decode cX11_isRay 1 = .ok (.getfield 183, 3) := by decide +kernel
theorem dX11_isRay_4 : decode cX11_isRay 4 = .ok (.ifCond .eq 24, 3) := by decide +kernel
theorem dX11_isRay_28 : decode cX11_isRay 28 = .ok (.iconst 0, 1) := by decide +kernel
theorem dX11_isRay_29 : decode cX11_isRay 29 = .ok (.ireturn, 1) := by decide +kernel
theorem dX11_square_0 : decode cX11_square 0 = .ok (.aload_n 0, 1) := by decide +kernel
theorem dX11_square_1 : decode cX11_square 1 = .ok (.invokevirtual 174, 3) := by decide +kernel
theorem dX11_square_4 : decode cX11_square 4 = .ok (.aload_n 0, 1) := by decide +kernel
theorem dX11_square_5 : decode cX11_square 5 = .ok (.iload_n 1, 1) := by decide +kernel
theorem dX11_square_6 : decode cX11_square 6 = .ok (.invokevirtual 357, 3) := by decide +kernel
theorem dX11_square_9 : decode cX11_square 9 = .ok (.ifCond .eq 33, 3) := by decide +kernel
theorem dX11_square_42 : decode cX11_square 42 = .ok (.aload_n 0, 1) := by decide +kernel
theorem dX11_square_43 : decode cX11_square 43 = .ok (.iconst 1, 1) := by decide +kernel
theorem dX11_square_44 : decode cX11_square 44 = .ok (.invokevirtual 177, 3) := by decide +kernel
theorem dX11_square_47 : decode cX11_square 47 = .ok (.ireturn, 1) := by decide +kernel
theorem dX11_corners_0 : decode cX11_corners 0 = .ok (.aload_n 0, 1) := by decide +kernel
theorem dX11_corners_1 : decode cX11_corners 1 = .ok (.invokevirtual 174, 3) := by decide +kernel
theorem dX11_corners_4 : decode cX11_corners 4 = .ok (.aload_n 0, 1) := by decide +kernel
theorem dX11_corners_5 : decode cX11_corners 5 = .ok (.getfield 183, 3) := by decide +kernel
theorem dX11_corners_8 : decode cX11_corners 8 = .ok (.ifCond .ne 9, 3) := by decide +kernel
theorem dX11_corners_11 : decode cX11_corners 11 = .ok (.aload_n 0, 1) := by decide +kernel
theorem dX11_corners_12 : decode cX11_corners 12 = .ok (.iconst 1, 1) := by decide +kernel
theorem dX11_corners_13 : decode cX11_corners 13 = .ok (.invokevirtual 177, 3) := by decide +kernel
theorem dX11_corners_16 : decode cX11_corners 16 = .ok (.ireturn, 1) := by decide +kernel
theorem dX11_colours_0 : decode cX11_colours 0 = .ok (.aload_n 0, 1) := by decide +kernel
theorem dX11_colours_1 : decode cX11_colours 1 = .ok (.invokevirtual 174, 3) := by decide +kernel
theorem dX11_colours_4 : decode cX11_colours 4 = .ok (.aload_n 0, 1) := by decide +kernel
theorem dX11_colours_5 : decode cX11_colours 5 = .ok (.getfield 183, 3) := by decide +kernel
theorem dX11_colours_8 : decode cX11_colours 8 = .ok (.ifCond .ne 9, 3) := by decide +kernel
theorem dX11_colours_11 : decode cX11_colours 11 = .ok (.aload_n 0, 1) := by decide +kernel
theorem dX11_colours_12 : decode cX11_colours 12 = .ok (.iconst 1, 1) := by decide +kernel
theorem dX11_colours_13 : decode cX11_colours 13 = .ok (.invokevirtual 177, 3) := by decide +kernel
theorem dX11_colours_16 : decode cX11_colours 16 = .ok (.ireturn, 1) := by decide +kernel
theorem dX11_ones_0 : decode cX11_ones 0 = .ok (.aload_n 0, 1) := by decide +kernel
theorem dX11_ones_1 : decode cX11_ones 1 = .ok (.invokevirtual 174, 3) := by decide +kernel
theorem dX11_ones_4 : decode cX11_ones 4 = .ok (.aload_n 0, 1) := by decide +kernel
theorem dX11_ones_5 : decode cX11_ones 5 = .ok (.getfield 183, 3) := by decide +kernel
theorem dX11_ones_8 : decode cX11_ones 8 = .ok (.ifCond .ne 9, 3) := by decide +kernel
theorem dX11_ones_11 : decode cX11_ones 11 = .ok (.aload_n 0, 1) := by decide +kernel
theorem dX11_ones_12 : decode cX11_ones 12 = .ok (.iconst 1, 1) := by decide +kernel
theorem dX11_ones_13 : decode cX11_ones 13 = .ok (.invokevirtual 177, 3) := by decide +kernel
theorem dX11_ones_16 : decode cX11_ones 16 = .ok (.ireturn, 1) := by decide +kernel
theorem dX11_spare_0 : decode cX11_spare 0 = .ok (.aload_n 0, 1) := by decide +kernel
theorem dX11_spare_1 : decode cX11_spare 1 = .ok (.invokevirtual 174, 3) := by decide +kernel
theorem dX11_spare_4 : decode cX11_spare 4 = .ok (.aload_n 0, 1) := by decide +kernel
theorem dX11_spare_5 : decode cX11_spare 5 = .ok (.getfield 183, 3) := by decide +kernel
theorem dX11_spare_8 : decode cX11_spare 8 = .ok (.ifCond .ne 9, 3) := by decide +kernel
theorem dX11_spare_11 : decode cX11_spare 11 = .ok (.aload_n 0, 1) := by decide +kernel
theorem dX11_spare_12 : decode cX11_spare 12 = .ok (.iconst 1, 1) := by decide +kernel
theorem dX11_spare_13 : decode cX11_spare 13 = .ok (.invokevirtual 177, 3) := by decide +kernel
theorem dX11_spare_16 : decode cX11_spare 16 = .ok (.ireturn, 1) := by decide +kernel
theorem dX11_critical_0 : decode cX11_critical 0 = .ok (.aload_n 0, 1) := by decide +kernel
theorem dX11_critical_1 : decode cX11_critical 1 = .ok (.invokevirtual 174, 3) := by decide +kernel
theorem dX11_critical_4 : decode cX11_critical 4 = .ok (.aload_n 0, 1) := by decide +kernel
theorem dX11_critical_5 : decode cX11_critical 5 = .ok (.getfield 183, 3) := by decide +kernel
theorem dX11_critical_8 : decode cX11_critical 8 = .ok (.ifCond .ne 9, 3) := by decide +kernel
theorem dX11_critical_11 : decode cX11_critical 11 = .ok (.aload_n 0, 1) := by decide +kernel
theorem dX11_critical_12 : decode cX11_critical 12 = .ok (.iconst 1, 1) := by decide +kernel
theorem dX11_critical_13 : decode cX11_critical 13 = .ok (.invokevirtual 177, 3) := by decide +kernel
theorem dX11_critical_16 : decode cX11_critical 16 = .ok (.ireturn, 1) := by decide +kernel
theorem dX11_memory_0 : decode cX11_memory 0 = .ok (.aload_n 0, 1) := by decide +kernel
theorem dX11_memory_1 : decode cX11_memory 1 = .ok (.invokevirtual 174, 3) := by decide +kernel
theorem dX11_memory_4 : decode cX11_memory 4 = .ok (.aload_n 0, 1) := by decide +kernel
theorem dX11_memory_5 : decode cX11_memory 5 = .ok (.getfield 183, 3) := by decide +kernel
theorem dX11_memory_8 : decode cX11_memory 8 = .ok (.ifCond .eq 10, 3) := by decide +kernel
theorem dX11_memory_18 : decode cX11_memory 18 = .ok (.aload_n 0, 1) := by decide +kernel
theorem dX11_memory_19 : decode cX11_memory 19 = .ok (.iconst 1, 1) := by decide +kernel
theorem dX11_memory_20 : decode cX11_memory 20 = .ok (.invokevirtual 177, 3) := by decide +kernel
theorem dX11_memory_23 : decode cX11_memory 23 = .ok (.ireturn, 1) := by decide +kernel
theorem dX11_machine_0 : decode cX11_machine 0 = .ok (.aload_n 0, 1) := by decide +kernel
theorem dX11_machine_1 : decode cX11_machine 1 = .ok (.invokevirtual 174, 3) := by decide +kernel
theorem dX11_machine_4 : decode cX11_machine 4 = .ok (.aload_n 0, 1) := by decide +kernel
theorem dX11_machine_5 : decode cX11_machine 5 = .ok (.iload_n 2, 1) := by decide +kernel
theorem dX11_machine_6 : decode cX11_machine 6 = .ok (.invokevirtual 296, 3) := by decide +kernel
theorem dX11_machine_9 : decode cX11_machine 9 = .ok (.ifCond .eq 12, 3) := by decide +kernel
theorem dX11_machine_21 : decode cX11_machine 21 = .ok (.aload_n 0, 1) := by decide +kernel
theorem dX11_machine_22 : decode cX11_machine 22 = .ok (.iconst 1, 1) := by decide +kernel
theorem dX11_machine_23 : decode cX11_machine 23 = .ok (.invokevirtual 177, 3) := by decide +kernel
theorem dX11_machine_26 : decode cX11_machine 26 = .ok (.ireturn, 1) := by decide +kernel
theorem dX11_flip_0 : decode cX11_flip 0 = .ok (.aload_n 0, 1) := by decide +kernel
theorem dX11_flip_1 : decode cX11_flip 1 = .ok (.invokevirtual 174, 3) := by decide +kernel
theorem dX11_flip_4 : decode cX11_flip 4 = .ok (.aload_n 0, 1) := by decide +kernel
theorem dX11_flip_5 : decode cX11_flip 5 = .ok (.iload_n 1, 1) := by decide +kernel
theorem dX11_flip_6 : decode cX11_flip 6 = .ok (.invokevirtual 296, 3) := by decide +kernel
theorem dX11_flip_9 : decode cX11_flip 9 = .ok (.ifCond .ne 9, 3) := by decide +kernel
theorem dX11_flip_12 : decode cX11_flip 12 = .ok (.aload_n 0, 1) := by decide +kernel
theorem dX11_flip_13 : decode cX11_flip 13 = .ok (.iconst 1, 1) := by decide +kernel
theorem dX11_flip_14 : decode cX11_flip 14 = .ok (.invokevirtual 336, 3) := by decide +kernel
theorem dX11_flip_17 : decode cX11_flip 17 = .ok (.ireturn, 1) := by decide +kernel
theorem dX11_drop_0 : decode cX11_drop 0 = .ok (.aload_n 0, 1) := by decide +kernel
theorem dX11_drop_1 : decode cX11_drop 1 = .ok (.invokevirtual 174, 3) := by decide +kernel
theorem dX11_drop_4 : decode cX11_drop 4 = .ok (.aload_n 0, 1) := by decide +kernel
theorem dX11_drop_5 : decode cX11_drop 5 = .ok (.iload_n 1, 1) := by decide +kernel
theorem dX11_drop_6 : decode cX11_drop 6 = .ok (.invokevirtual 244, 3) := by decide +kernel
theorem dX11_drop_9 : decode cX11_drop 9 = .ok (.ifCond .ne 9, 3) := by decide +kernel
theorem dX11_drop_12 : decode cX11_drop 12 = .ok (.aload_n 0, 1) := by decide +kernel
theorem dX11_drop_13 : decode cX11_drop 13 = .ok (.iconst 1, 1) := by decide +kernel
theorem dX11_drop_14 : decode cX11_drop 14 = .ok (.invokevirtual 336, 3) := by decide +kernel
theorem dX11_drop_17 : decode cX11_drop 17 = .ok (.ireturn, 1) := by decide +kernel
theorem dX11_forget_0 : decode cX11_forget 0 = .ok (.aload_n 0, 1) := by decide +kernel
theorem dX11_forget_1 : decode cX11_forget 1 = .ok (.invokevirtual 174, 3) := by decide +kernel
theorem dX11_forget_4 : decode cX11_forget 4 = .ok (.aload_n 0, 1) := by decide +kernel
theorem dX11_forget_5 : decode cX11_forget 5 = .ok (.iload_n 1, 1) := by decide +kernel
theorem dX11_forget_6 : decode cX11_forget 6 = .ok (.invokevirtual 296, 3) := by decide +kernel
theorem dX11_forget_9 : decode cX11_forget 9 = .ok (.ifCond .ne 9, 3) := by decide +kernel
theorem dX11_forget_12 : decode cX11_forget 12 = .ok (.aload_n 0, 1) := by decide +kernel
theorem dX11_forget_13 : decode cX11_forget 13 = .ok (.iconst 1, 1) := by decide +kernel
theorem dX11_forget_14 : decode cX11_forget 14 = .ok (.invokevirtual 336, 3) := by decide +kernel
theorem dX11_forget_17 : decode cX11_forget 17 = .ok (.ireturn, 1) := by decide +kernel
theorem dX11_shift_0 : decode cX11_shift 0 = .ok (.aload_n 0, 1) := by decide +kernel
theorem dX11_shift_1 : decode cX11_shift 1 = .ok (.invokevirtual 174, 3) := by decide +kernel
theorem dX11_shift_4 : decode cX11_shift 4 = .ok (.aload_n 0, 1) := by decide +kernel
theorem dX11_shift_5 : decode cX11_shift 5 = .ok (.iload_n 1, 1) := by decide +kernel
theorem dX11_shift_6 : decode cX11_shift 6 = .ok (.iload_n 2, 1) := by decide +kernel
theorem dX11_shift_7 : decode cX11_shift 7 = .ok (.invokevirtual 305, 3) := by decide +kernel
theorem dX11_shift_10 : decode cX11_shift 10 = .ok (.ifCond .eq 17, 3) := by decide +kernel
theorem dX11_shift_27 : decode cX11_shift 27 = .ok (.aload_n 0, 1) := by decide +kernel
theorem dX11_shift_28 : decode cX11_shift 28 = .ok (.iconst 1, 1) := by decide +kernel
theorem dX11_shift_29 : decode cX11_shift 29 = .ok (.invokevirtual 336, 3) := by decide +kernel
theorem dX11_shift_32 : decode cX11_shift 32 = .ok (.ireturn, 1) := by decide +kernel
theorem dX11_undo_0 : decode cX11_undo 0 = .ok (.aload_n 0, 1) := by decide +kernel
theorem dX11_undo_1 : decode cX11_undo 1 = .ok (.invokevirtual 174, 3) := by decide +kernel
theorem dX11_undo_4 : decode cX11_undo 4 = .ok (.aload_n 0, 1) := by decide +kernel
theorem dX11_undo_5 : decode cX11_undo 5 = .ok (.getfield 189, 3) := by decide +kernel
theorem dX11_undo_8 : decode cX11_undo 8 = .ok (.ifCond .ne 10, 3) := by decide +kernel
theorem dX11_undo_11 : decode cX11_undo 11 = .ok (.aload_n 0, 1) := by decide +kernel
theorem dX11_undo_12 : decode cX11_undo 12 = .ok (.bipush 6, 2) := by decide +kernel
theorem dX11_undo_14 : decode cX11_undo 14 = .ok (.invokevirtual 336, 3) := by decide +kernel
theorem dX11_undo_17 : decode cX11_undo 17 = .ok (.ireturn, 1) := by decide +kernel
theorem dX11_redo_0 : decode cX11_redo 0 = .ok (.aload_n 0, 1) := by decide +kernel
theorem dX11_redo_1 : decode cX11_redo 1 = .ok (.invokevirtual 174, 3) := by decide +kernel
theorem dX11_redo_4 : decode cX11_redo 4 = .ok (.aload_n 0, 1) := by decide +kernel
theorem dX11_redo_5 : decode cX11_redo 5 = .ok (.getfield 192, 3) := by decide +kernel
theorem dX11_redo_8 : decode cX11_redo 8 = .ok (.ifCond .ne 10, 3) := by decide +kernel
theorem dX11_redo_11 : decode cX11_redo 11 = .ok (.aload_n 0, 1) := by decide +kernel
theorem dX11_redo_12 : decode cX11_redo 12 = .ok (.bipush 6, 2) := by decide +kernel
theorem dX11_redo_14 : decode cX11_redo 14 = .ok (.invokevirtual 336, 3) := by decide +kernel
theorem dX11_redo_17 : decode cX11_redo 17 = .ok (.ireturn, 1) := by decide +kernel
theorem dX11_mark_0 : decode cX11_mark 0 = .ok (.aload_n 0, 1) := by decide +kernel
theorem dX11_mark_1 : decode cX11_mark 1 = .ok (.invokevirtual 174, 3) := by decide +kernel
theorem dX11_mark_4 : decode cX11_mark 4 = .ok (.aload_n 0, 1) := by decide +kernel
theorem dX11_mark_5 : decode cX11_mark 5 = .ok (.getfield 183, 3) := by decide +kernel
theorem dX11_mark_8 : decode cX11_mark 8 = .ok (.ifCond .ne 9, 3) := by decide +kernel
theorem dX11_mark_11 : decode cX11_mark 11 = .ok (.aload_n 0, 1) := by decide +kernel
theorem dX11_mark_12 : decode cX11_mark 12 = .ok (.iconst 1, 1) := by decide +kernel
theorem dX11_mark_13 : decode cX11_mark 13 = .ok (.invokevirtual 177, 3) := by decide +kernel
theorem dX11_mark_16 : decode cX11_mark 16 = .ok (.ireturn, 1) := by decide +kernel
theorem dX11_back_0 : decode cX11_back 0 = .ok (.aload_n 0, 1) := by decide +kernel
theorem dX11_back_1 : decode cX11_back 1 = .ok (.invokevirtual 174, 3) := by decide +kernel
theorem dX11_back_4 : decode cX11_back 4 = .ok (.iload_n 1, 1) := by decide +kernel
theorem dX11_back_5 : decode cX11_back 5 = .ok (.iconst 0, 1) := by decide +kernel
theorem dX11_back_6 : decode cX11_back 6 = .ok (.aload_n 0, 1) := by decide +kernel
theorem dX11_back_7 : decode cX11_back 7 = .ok (.getfield 195, 3) := by decide +kernel
theorem dX11_back_10 : decode cX11_back 10 = .ok (.iconst 1, 1) := by decide +kernel
theorem dX11_back_11 : decode cX11_back 11 = .ok (.isub, 1) := by decide +kernel
theorem dX11_back_12 : decode cX11_back 12 = .ok (.invokestatic 170, 3) := by decide +kernel
theorem dX11_back_15 : decode cX11_back 15 = .ok (.ifCond .ne 9, 3) := by decide +kernel
theorem dX11_back_18 : decode cX11_back 18 = .ok (.aload_n 0, 1) := by decide +kernel
theorem dX11_back_19 : decode cX11_back 19 = .ok (.iconst 1, 1) := by decide +kernel
theorem dX11_back_20 : decode cX11_back 20 = .ok (.invokevirtual 336, 3) := by decide +kernel
theorem dX11_back_23 : decode cX11_back 23 = .ok (.ireturn, 1) := by decide +kernel
theorem dX11_act_0 : decode cX11_act 0 = .ok (.aload_n 0, 1) := by decide +kernel
theorem dX11_act_1 : decode cX11_act 1 = .ok (.invokevirtual 174, 3) := by decide +kernel
theorem dX11_act_4 : decode cX11_act 4 = .ok (.aload_n 0, 1) := by decide +kernel
theorem dX11_act_5 : decode cX11_act 5 = .ok (.getfield 183, 3) := by decide +kernel
theorem dX11_act_8 : decode cX11_act 8 = .ok (.ifCond .eq 39, 3) := by decide +kernel
theorem dX11_act_47 : decode cX11_act 47 = .ok (.aload_n 0, 1) := by decide +kernel
theorem dX11_act_48 : decode cX11_act 48 = .ok (.iconst 1, 1) := by decide +kernel
theorem dX11_act_49 : decode cX11_act 49 = .ok (.invokevirtual 177, 3) := by decide +kernel
theorem dX11_act_52 : decode cX11_act 52 = .ok (.ireturn, 1) := by decide +kernel
theorem dX11_times_0 : decode cX11_times 0 = .ok (.aload_n 0, 1) := by decide +kernel
theorem dX11_times_1 : decode cX11_times 1 = .ok (.invokevirtual 174, 3) := by decide +kernel
theorem dX11_times_4 : decode cX11_times 4 = .ok (.aload_n 0, 1) := by decide +kernel
theorem dX11_times_5 : decode cX11_times 5 = .ok (.iload_n 1, 1) := by decide +kernel
theorem dX11_times_6 : decode cX11_times 6 = .ok (.iload_n 2, 1) := by decide +kernel
theorem dX11_times_7 : decode cX11_times 7 = .ok (.invokevirtual 305, 3) := by decide +kernel
theorem dX11_times_10 : decode cX11_times 10 = .ok (.ifCond .eq 19, 3) := by decide +kernel
theorem dX11_times_29 : decode cX11_times 29 = .ok (.aload_n 0, 1) := by decide +kernel
theorem dX11_times_30 : decode cX11_times 30 = .ok (.iconst 1, 1) := by decide +kernel
theorem dX11_times_31 : decode cX11_times 31 = .ok (.invokevirtual 177, 3) := by decide +kernel
theorem dX11_times_34 : decode cX11_times 34 = .ok (.ireturn, 1) := by decide +kernel
theorem dX11_look_0 : decode cX11_look 0 = .ok (.aload_n 0, 1) := by decide +kernel
theorem dX11_look_1 : decode cX11_look 1 = .ok (.invokevirtual 174, 3) := by decide +kernel
theorem dX11_look_4 : decode cX11_look 4 = .ok (.aload_n 0, 1) := by decide +kernel
theorem dX11_look_5 : decode cX11_look 5 = .ok (.iload_n 1, 1) := by decide +kernel
theorem dX11_look_6 : decode cX11_look 6 = .ok (.invokevirtual 244, 3) := by decide +kernel
theorem dX11_look_9 : decode cX11_look 9 = .ok (.ifCond .eq 23, 3) := by decide +kernel
theorem dX11_look_32 : decode cX11_look 32 = .ok (.aload_n 0, 1) := by decide +kernel
theorem dX11_look_33 : decode cX11_look 33 = .ok (.iconst 1, 1) := by decide +kernel
theorem dX11_look_34 : decode cX11_look 34 = .ok (.invokevirtual 177, 3) := by decide +kernel
theorem dX11_look_37 : decode cX11_look 37 = .ok (.ireturn, 1) := by decide +kernel
theorem dX11_coins_0 : decode cX11_coins 0 = .ok (.aload_n 0, 1) := by decide +kernel
theorem dX11_coins_1 : decode cX11_coins 1 = .ok (.invokevirtual 174, 3) := by decide +kernel
theorem dX11_coins_4 : decode cX11_coins 4 = .ok (.aload_n 0, 1) := by decide +kernel
theorem dX11_coins_5 : decode cX11_coins 5 = .ok (.iload_n 1, 1) := by decide +kernel
theorem dX11_coins_6 : decode cX11_coins 6 = .ok (.iload_n 2, 1) := by decide +kernel
theorem dX11_coins_7 : decode cX11_coins 7 = .ok (.invokevirtual 305, 3) := by decide +kernel
theorem dX11_coins_10 : decode cX11_coins 10 = .ok (.ifCond .eq 16, 3) := by decide +kernel
theorem dX11_coins_26 : decode cX11_coins 26 = .ok (.aload_n 0, 1) := by decide +kernel
theorem dX11_coins_27 : decode cX11_coins 27 = .ok (.iconst 1, 1) := by decide +kernel
theorem dX11_coins_28 : decode cX11_coins 28 = .ok (.invokevirtual 177, 3) := by decide +kernel
theorem dX11_coins_31 : decode cX11_coins 31 = .ok (.ireturn, 1) := by decide +kernel
theorem dX11_led_0 : decode cX11_led 0 = .ok (.iconst 0, 1) := by decide +kernel
theorem dX11_led_1 : decode cX11_led 1 = .ok (.istore_n 2, 1) := by decide +kernel
theorem dX11_led_2 : decode cX11_led 2 = .ok (.iconst 0, 1) := by decide +kernel
theorem dX11_led_3 : decode cX11_led 3 = .ok (.istore_n 3, 1) := by decide +kernel
theorem dX11_led_4 : decode cX11_led 4 = .ok (.aload_n 0, 1) := by decide +kernel
theorem dX11_led_5 : decode cX11_led 5 = .ok (.getfield 183, 3) := by decide +kernel
theorem dX11_led_8 : decode cX11_led 8 = .ok (.ifCond .eq 91, 3) := by decide +kernel
theorem dX11_led_99 : decode cX11_led 99 = .ok (.aload_n 0, 1) := by decide +kernel
theorem dX11_led_100 : decode cX11_led 100 = .ok (.iconst 1, 1) := by decide +kernel
theorem dX11_led_101 : decode cX11_led 101 = .ok (.putfield 69, 3) := by decide +kernel
theorem dX11_led_104 : decode cX11_led 104 = .ok (.iconst 0, 1) := by decide +kernel
theorem dX11_led_105 : decode cX11_led 105 = .ok (.ireturn, 1) := by decide +kernel
theorem dX11_size_0 : decode cX11_size 0 = .ok (.aload_n 0, 1) := by decide +kernel
theorem dX11_size_1 : decode cX11_size 1 = .ok (.iconst 0, 1) := by decide +kernel
theorem dX11_size_2 : decode cX11_size 2 = .ok (.putfield 69, 3) := by decide +kernel
theorem dX11_size_5 : decode cX11_size 5 = .ok (.iload_n 1, 1) := by decide +kernel
theorem dX11_size_6 : decode cX11_size 6 = .ok (.bipush 10, 2) := by decide +kernel
theorem dX11_size_8 : decode cX11_size 8 = .ok (.if_icmp .ne 8, 3) := by decide +kernel
theorem dX11_size_11 : decode cX11_size 11 = .ok (.aload_n 0, 1) := by decide +kernel
theorem dX11_size_12 : decode cX11_size 12 = .ok (.getfield 75, 3) := by decide +kernel
theorem dX11_size_15 : decode cX11_size 15 = .ok (.ireturn, 1) := by decide +kernel
theorem dX11_size_16 : decode cX11_size 16 = .ok (.aload_n 0, 1) := by decide +kernel
theorem dX11_size_17 : decode cX11_size 17 = .ok (.getfield 183, 3) := by decide +kernel
theorem dX11_size_20 : decode cX11_size 20 = .ok (.ifCond .ne 19, 3) := by decide +kernel
theorem dX11_size_23 : decode cX11_size 23 = .ok (.iload_n 1, 1) := by decide +kernel
theorem dX11_size_24 : decode cX11_size 24 = .ok (.iconst 0, 1) := by decide +kernel
theorem dX11_size_25 : decode cX11_size 25 = .ok (.bipush 9, 2) := by decide +kernel
theorem dX11_size_27 : decode cX11_size 27 = .ok (.invokestatic 170, 3) := by decide +kernel
theorem dX11_size_30 : decode cX11_size 30 = .ok (.ifCond .eq 7, 3) := by decide +kernel
theorem dX11_size_33 : decode cX11_size 33 = .ok (.iconst 0, 1) := by decide +kernel
theorem dX11_size_34 : decode cX11_size 34 = .ok (.goto 4, 3) := by decide +kernel
theorem dX11_size_37 : decode cX11_size 37 = .ok (.iconst (-1), 1) := by decide +kernel
theorem dX11_size_38 : decode cX11_size 38 = .ok (.ireturn, 1) := by decide +kernel
theorem dX11_trouble_0 : decode cX11_trouble 0 = .ok (.aload_n 0, 1) := by decide +kernel
theorem dX11_trouble_1 : decode cX11_trouble 1 = .ok (.iconst 0, 1) := by decide +kernel
theorem dX11_trouble_2 : decode cX11_trouble 2 = .ok (.putfield 69, 3) := by decide +kernel
theorem dX11_trouble_5 : decode cX11_trouble 5 = .ok (.aload_n 0, 1) := by decide +kernel
theorem dX11_trouble_6 : decode cX11_trouble 6 = .ok (.getfield 72, 3) := by decide +kernel
theorem dX11_trouble_9 : decode cX11_trouble 9 = .ok (.ireturn, 1) := by decide +kernel
theorem dJ6_bitCount_0f7a4_0 : decode cJ6_bitCount_0f7a4 0 = .ok (.iload_n 0, 1) := by decide +kernel
theorem dJ6_bitCount_0f7a4_1 : decode cJ6_bitCount_0f7a4 1 = .ok (.iload_n 0, 1) := by decide +kernel
theorem dJ6_bitCount_0f7a4_2 : decode cJ6_bitCount_0f7a4 2 = .ok (.iconst 1, 1) := by decide +kernel
theorem dJ6_bitCount_0f7a4_3 : decode cJ6_bitCount_0f7a4 3 = .ok (.iushr, 1) := by decide +kernel
theorem dJ6_bitCount_0f7a4_4 : decode cJ6_bitCount_0f7a4 4 = .ok (.ldc_w 265, 3) := by decide +kernel
theorem dJ6_bitCount_0f7a4_7 : decode cJ6_bitCount_0f7a4 7 = .ok (.iand, 1) := by decide +kernel
theorem dJ6_bitCount_0f7a4_8 : decode cJ6_bitCount_0f7a4 8 = .ok (.isub, 1) := by decide +kernel
theorem dJ6_bitCount_0f7a4_9 : decode cJ6_bitCount_0f7a4 9 = .ok (.istore_n 0, 1) := by decide +kernel
theorem dJ6_bitCount_0f7a4_10 : decode cJ6_bitCount_0f7a4 10 = .ok (.iload_n 0, 1) := by decide +kernel
theorem dJ6_bitCount_0f7a4_11 : decode cJ6_bitCount_0f7a4 11 = .ok (.ldc_w 266, 3) := by decide +kernel
theorem dJ6_bitCount_0f7a4_14 : decode cJ6_bitCount_0f7a4 14 = .ok (.iand, 1) := by decide +kernel
theorem dJ6_bitCount_0f7a4_15 : decode cJ6_bitCount_0f7a4 15 = .ok (.iload_n 0, 1) := by decide +kernel
theorem dJ6_bitCount_0f7a4_16 : decode cJ6_bitCount_0f7a4 16 = .ok (.iconst 2, 1) := by decide +kernel
theorem dJ6_bitCount_0f7a4_17 : decode cJ6_bitCount_0f7a4 17 = .ok (.iushr, 1) := by decide +kernel
theorem dJ6_bitCount_0f7a4_18 : decode cJ6_bitCount_0f7a4 18 = .ok (.ldc_w 266, 3) := by decide +kernel
theorem dJ6_bitCount_0f7a4_21 : decode cJ6_bitCount_0f7a4 21 = .ok (.iand, 1) := by decide +kernel
theorem dJ6_bitCount_0f7a4_22 : decode cJ6_bitCount_0f7a4 22 = .ok (.iadd, 1) := by decide +kernel
theorem dJ6_bitCount_0f7a4_23 : decode cJ6_bitCount_0f7a4 23 = .ok (.istore_n 0, 1) := by decide +kernel
theorem dJ6_bitCount_0f7a4_24 : decode cJ6_bitCount_0f7a4 24 = .ok (.iload_n 0, 1) := by decide +kernel
theorem dJ6_bitCount_0f7a4_25 : decode cJ6_bitCount_0f7a4 25 = .ok (.iload_n 0, 1) := by decide +kernel
theorem dJ6_bitCount_0f7a4_26 : decode cJ6_bitCount_0f7a4 26 = .ok (.iconst 4, 1) := by decide +kernel
theorem dJ6_bitCount_0f7a4_27 : decode cJ6_bitCount_0f7a4 27 = .ok (.iushr, 1) := by decide +kernel
theorem dJ6_bitCount_0f7a4_28 : decode cJ6_bitCount_0f7a4 28 = .ok (.iadd, 1) := by decide +kernel
theorem dJ6_bitCount_0f7a4_29 : decode cJ6_bitCount_0f7a4 29 = .ok (.ldc_w 267, 3) := by decide +kernel
theorem dJ6_bitCount_0f7a4_32 : decode cJ6_bitCount_0f7a4 32 = .ok (.iand, 1) := by decide +kernel
theorem dJ6_bitCount_0f7a4_33 : decode cJ6_bitCount_0f7a4 33 = .ok (.istore_n 0, 1) := by decide +kernel
theorem dJ6_bitCount_0f7a4_34 : decode cJ6_bitCount_0f7a4 34 = .ok (.iload_n 0, 1) := by decide +kernel
theorem dJ6_bitCount_0f7a4_35 : decode cJ6_bitCount_0f7a4 35 = .ok (.iload_n 0, 1) := by decide +kernel
theorem dJ6_bitCount_0f7a4_36 : decode cJ6_bitCount_0f7a4 36 = .ok (.bipush 8, 2) := by decide +kernel
theorem dJ6_bitCount_0f7a4_38 : decode cJ6_bitCount_0f7a4 38 = .ok (.iushr, 1) := by decide +kernel
theorem dJ6_bitCount_0f7a4_39 : decode cJ6_bitCount_0f7a4 39 = .ok (.iadd, 1) := by decide +kernel
theorem dJ6_bitCount_0f7a4_40 : decode cJ6_bitCount_0f7a4 40 = .ok (.istore_n 0, 1) := by decide +kernel
theorem dJ6_bitCount_0f7a4_41 : decode cJ6_bitCount_0f7a4 41 = .ok (.iload_n 0, 1) := by decide +kernel
theorem dJ6_bitCount_0f7a4_42 : decode cJ6_bitCount_0f7a4 42 = .ok (.iload_n 0, 1) := by decide +kernel
theorem dJ6_bitCount_0f7a4_43 : decode cJ6_bitCount_0f7a4 43 = .ok (.bipush 16, 2) := by decide +kernel
theorem dJ6_bitCount_0f7a4_45 : decode cJ6_bitCount_0f7a4 45 = .ok (.iushr, 1) := by decide +kernel
theorem dJ6_bitCount_0f7a4_46 : decode cJ6_bitCount_0f7a4 46 = .ok (.iadd, 1) := by decide +kernel
theorem dJ6_bitCount_0f7a4_47 : decode cJ6_bitCount_0f7a4 47 = .ok (.istore_n 0, 1) := by decide +kernel
theorem dJ6_bitCount_0f7a4_48 : decode cJ6_bitCount_0f7a4 48 = .ok (.iload_n 0, 1) := by decide +kernel
theorem dJ6_bitCount_0f7a4_49 : decode cJ6_bitCount_0f7a4 49 = .ok (.bipush 63, 2) := by decide +kernel
theorem dJ6_bitCount_0f7a4_51 : decode cJ6_bitCount_0f7a4 51 = .ok (.iand, 1) := by decide +kernel
theorem dJ6_bitCount_0f7a4_52 : decode cJ6_bitCount_0f7a4 52 = .ok (.ireturn, 1) := by decide +kernel
theorem dL_led_0 : decode cL_led 0 = .ok (.aload_n 2, 1) := by decide +kernel
theorem dL_led_1 : decode cL_led 1 = .ok (.iconst 0, 1) := by decide +kernel
theorem dL_led_2 : decode cL_led 2 = .ok (.aload_n 0, 1) := by decide +kernel
theorem dL_led_3 : decode cL_led 3 = .ok (.iload_n 1, 1) := by decide +kernel
theorem dL_led_4 : decode cL_led 4 = .ok (.invokevirtual 7, 3) := by decide +kernel
theorem dL_led_12 : decode cL_led 12 = .ok (.astore_n 3, 1) := by decide +kernel
theorem dL_led_13 : decode cL_led 13 = .ok (.iconst 1, 1) := by decide +kernel
theorem dL_led_14 : decode cL_led 14 = .ok (.ireturn, 1) := by decide +kernel
theorem dL_law_0 : decode cL_law 0 = .ok (.new 8, 3) := by decide +kernel
theorem dL_law_3 : decode cL_law 3 = .ok (.dup, 1) := by decide +kernel
theorem dL_law_4 : decode cL_law 4 = .ok (.invokespecial 15, 3) := by decide +kernel
theorem dL_law_7 : decode cL_law 7 = .ok (.astore_n 1, 1) := by decide +kernel
theorem dL_law_8 : decode cL_law 8 = .ok (.new 16, 3) := by decide +kernel
theorem dL_law_11 : decode cL_law 11 = .ok (.dup, 1) := by decide +kernel
theorem dL_law_12 : decode cL_law 12 = .ok (.invokespecial 18, 3) := by decide +kernel
theorem dL_law_15 : decode cL_law 15 = .ok (.astore_n 2, 1) := by decide +kernel
theorem dL_law_16 : decode cL_law 16 = .ok (.iconst 1, 1) := by decide +kernel
theorem dL_law_17 : decode cL_law 17 = .ok (.newarray .long, 2) := by decide +kernel
theorem dL_law_19 : decode cL_law 19 = .ok (.astore_n 3, 1) := by decide +kernel
theorem dL_law_20 : decode cL_law 20 = .ok (.iconst 0, 1) := by decide +kernel
theorem dL_law_21 : decode cL_law 21 = .ok (.istore 4, 2) := by decide +kernel
theorem dL_law_23 : decode cL_law 23 = .ok (.iload 4, 2) := by decide +kernel
theorem dL_law_25 : decode cL_law 25 = .ok (.aload_n 0, 1) := by decide +kernel
theorem dL_law_26 : decode cL_law 26 = .ok (.arraylength, 1) := by decide +kernel
theorem dL_law_27 : decode cL_law 27 = .ok (.bipush 7, 2) := by decide +kernel
theorem dL_law_29 : decode cL_law 29 = .ok (.isub, 1) := by decide +kernel
theorem dL_law_30 : decode cL_law 30 = .ok (.if_icmp .gt 1587, 3) := by decide +kernel
theorem dL_law_33 : decode cL_law 33 = .ok (.aload_n 0, 1) := by decide +kernel
theorem dL_law_34 : decode cL_law 34 = .ok (.iload 4, 2) := by decide +kernel
theorem dL_law_36 : decode cL_law 36 = .ok (.iaload, 1) := by decide +kernel
theorem dL_law_37 : decode cL_law 37 = .ok (.bipush 63, 2) := by decide +kernel
theorem dL_law_39 : decode cL_law 39 = .ok (.iand, 1) := by decide +kernel
theorem dL_law_40 : decode cL_law 40 = .ok (.tableswitch 1571 0 49 #[216, 289, 314, 327, 340, 381, 500, 537, 550, 563, 588, 601, 626, 639, 664, 689, 702, 751, 764, 777, 790, 803, 844, 857, 882, 895, 920, 933, 970, 983, 996, 1009, 1022, 1035, 1048, 1113, 1138, 1163, 1188, 1249, 1262, 1275, 1288, 1313, 1350, 1387, 1440, 1477, 1533, 1558], 216) := by decide +kernel
theorem dL_law_256 : decode cL_law 256 = .ok (.aload_n 1, 1) := by decide +kernel
theorem dL_law_257 : decode cL_law 257 = .ok (.aload_n 0, 1) := by decide +kernel
theorem dL_law_258 : decode cL_law 258 = .ok (.iload 4, 2) := by decide +kernel
theorem dL_law_260 : decode cL_law 260 = .ok (.iconst 1, 1) := by decide +kernel
theorem dL_law_261 : decode cL_law 261 = .ok (.iadd, 1) := by decide +kernel
theorem dL_law_262 : decode cL_law 262 = .ok (.iaload, 1) := by decide +kernel
theorem dL_law_263 : decode cL_law 263 = .ok (.aload_n 0, 1) := by decide +kernel
theorem dL_law_264 : decode cL_law 264 = .ok (.iload 4, 2) := by decide +kernel
theorem dL_law_266 : decode cL_law 266 = .ok (.iconst 2, 1) := by decide +kernel
theorem dL_law_267 : decode cL_law 267 = .ok (.iadd, 1) := by decide +kernel
theorem dL_law_268 : decode cL_law 268 = .ok (.iaload, 1) := by decide +kernel
theorem dL_law_269 : decode cL_law 269 = .ok (.aload_n 0, 1) := by decide +kernel
theorem dL_law_270 : decode cL_law 270 = .ok (.iload 4, 2) := by decide +kernel
theorem dL_law_272 : decode cL_law 272 = .ok (.iconst 3, 1) := by decide +kernel
theorem dL_law_273 : decode cL_law 273 = .ok (.iadd, 1) := by decide +kernel
theorem dL_law_274 : decode cL_law 274 = .ok (.iaload, 1) := by decide +kernel
theorem dL_law_275 : decode cL_law 275 = .ok (.aload_n 0, 1) := by decide +kernel
theorem dL_law_276 : decode cL_law 276 = .ok (.iload 4, 2) := by decide +kernel
theorem dL_law_278 : decode cL_law 278 = .ok (.iconst 4, 1) := by decide +kernel
theorem dL_law_279 : decode cL_law 279 = .ok (.iadd, 1) := by decide +kernel
theorem dL_law_280 : decode cL_law 280 = .ok (.iaload, 1) := by decide +kernel
theorem dL_law_281 : decode cL_law 281 = .ok (.aload_n 0, 1) := by decide +kernel
theorem dL_law_282 : decode cL_law 282 = .ok (.iload 4, 2) := by decide +kernel
theorem dL_law_284 : decode cL_law 284 = .ok (.iconst 5, 1) := by decide +kernel
theorem dL_law_285 : decode cL_law 285 = .ok (.iadd, 1) := by decide +kernel
theorem dL_law_286 : decode cL_law 286 = .ok (.iaload, 1) := by decide +kernel
theorem dL_law_287 : decode cL_law 287 = .ok (.invokevirtual 19, 3) := by decide +kernel
theorem dL_law_290 : decode cL_law 290 = .ok (.aload_n 2, 1) := by decide +kernel
theorem dL_law_291 : decode cL_law 291 = .ok (.aload_n 0, 1) := by decide +kernel
theorem dL_law_292 : decode cL_law 292 = .ok (.iload 4, 2) := by decide +kernel
theorem dL_law_294 : decode cL_law 294 = .ok (.iconst 1, 1) := by decide +kernel
theorem dL_law_295 : decode cL_law 295 = .ok (.iadd, 1) := by decide +kernel
theorem dL_law_296 : decode cL_law 296 = .ok (.iaload, 1) := by decide +kernel
theorem dL_law_297 : decode cL_law 297 = .ok (.aload_n 0, 1) := by decide +kernel
theorem dL_law_298 : decode cL_law 298 = .ok (.iload 4, 2) := by decide +kernel
theorem dL_law_300 : decode cL_law 300 = .ok (.iconst 2, 1) := by decide +kernel
theorem dL_law_301 : decode cL_law 301 = .ok (.iadd, 1) := by decide +kernel
theorem dL_law_302 : decode cL_law 302 = .ok (.iaload, 1) := by decide +kernel
theorem dL_law_303 : decode cL_law 303 = .ok (.aload_n 0, 1) := by decide +kernel
theorem dL_law_304 : decode cL_law 304 = .ok (.iload 4, 2) := by decide +kernel
theorem dL_law_306 : decode cL_law 306 = .ok (.iconst 3, 1) := by decide +kernel
theorem dL_law_307 : decode cL_law 307 = .ok (.iadd, 1) := by decide +kernel
theorem dL_law_308 : decode cL_law 308 = .ok (.iaload, 1) := by decide +kernel
theorem dL_law_309 : decode cL_law 309 = .ok (.aload_n 0, 1) := by decide +kernel
theorem dL_law_310 : decode cL_law 310 = .ok (.iload 4, 2) := by decide +kernel
theorem dL_law_312 : decode cL_law 312 = .ok (.iconst 4, 1) := by decide +kernel
theorem dL_law_313 : decode cL_law 313 = .ok (.iadd, 1) := by decide +kernel
theorem dL_law_314 : decode cL_law 314 = .ok (.iaload, 1) := by decide +kernel
theorem dL_law_315 : decode cL_law 315 = .ok (.aload_n 0, 1) := by decide +kernel
theorem dL_law_316 : decode cL_law 316 = .ok (.iload 4, 2) := by decide +kernel
theorem dL_law_318 : decode cL_law 318 = .ok (.iconst 5, 1) := by decide +kernel
theorem dL_law_319 : decode cL_law 319 = .ok (.iadd, 1) := by decide +kernel
theorem dL_law_320 : decode cL_law 320 = .ok (.iaload, 1) := by decide +kernel
theorem dL_law_321 : decode cL_law 321 = .ok (.invokevirtual 23, 3) := by decide +kernel
theorem dL_law_324 : decode cL_law 324 = .ok (.if_icmp .eq 1287, 3) := by decide +kernel
theorem dL_law_329 : decode cL_law 329 = .ok (.aload_n 1, 1) := by decide +kernel
theorem dL_law_330 : decode cL_law 330 = .ok (.aload_n 0, 1) := by decide +kernel
theorem dL_law_331 : decode cL_law 331 = .ok (.iload 4, 2) := by decide +kernel
theorem dL_law_333 : decode cL_law 333 = .ok (.iconst 1, 1) := by decide +kernel
theorem dL_law_334 : decode cL_law 334 = .ok (.iadd, 1) := by decide +kernel
theorem dL_law_335 : decode cL_law 335 = .ok (.iaload, 1) := by decide +kernel
theorem dL_law_336 : decode cL_law 336 = .ok (.invokevirtual 24, 3) := by decide +kernel
theorem dL_law_339 : decode cL_law 339 = .ok (.aload_n 2, 1) := by decide +kernel
theorem dL_law_340 : decode cL_law 340 = .ok (.aload_n 0, 1) := by decide +kernel
theorem dL_law_341 : decode cL_law 341 = .ok (.iload 4, 2) := by decide +kernel
theorem dL_law_343 : decode cL_law 343 = .ok (.iconst 1, 1) := by decide +kernel
theorem dL_law_344 : decode cL_law 344 = .ok (.iadd, 1) := by decide +kernel
theorem dL_law_345 : decode cL_law 345 = .ok (.iaload, 1) := by decide +kernel
theorem dL_law_346 : decode cL_law 346 = .ok (.invokevirtual 27, 3) := by decide +kernel
theorem dL_law_349 : decode cL_law 349 = .ok (.if_icmp .eq 1262, 3) := by decide +kernel
theorem dL_law_354 : decode cL_law 354 = .ok (.aload_n 1, 1) := by decide +kernel
theorem dL_law_355 : decode cL_law 355 = .ok (.invokevirtual 28, 3) := by decide +kernel
theorem dL_law_358 : decode cL_law 358 = .ok (.aload_n 2, 1) := by decide +kernel
theorem dL_law_359 : decode cL_law 359 = .ok (.invokevirtual 32, 3) := by decide +kernel
theorem dL_law_362 : decode cL_law 362 = .ok (.if_icmp .eq 1249, 3) := by decide +kernel
theorem dL_law_367 : decode cL_law 367 = .ok (.aload_n 1, 1) := by decide +kernel
theorem dL_law_368 : decode cL_law 368 = .ok (.invokevirtual 33, 3) := by decide +kernel
theorem dL_law_371 : decode cL_law 371 = .ok (.aload_n 2, 1) := by decide +kernel
theorem dL_law_372 : decode cL_law 372 = .ok (.invokevirtual 36, 3) := by decide +kernel
theorem dL_law_375 : decode cL_law 375 = .ok (.if_icmp .eq 1236, 3) := by decide +kernel
theorem dL_law_380 : decode cL_law 380 = .ok (.aload_n 1, 1) := by decide +kernel
theorem dL_law_381 : decode cL_law 381 = .ok (.aload_n 0, 1) := by decide +kernel
theorem dL_law_382 : decode cL_law 382 = .ok (.iload 4, 2) := by decide +kernel
theorem dL_law_384 : decode cL_law 384 = .ok (.iconst 1, 1) := by decide +kernel
theorem dL_law_385 : decode cL_law 385 = .ok (.iadd, 1) := by decide +kernel
theorem dL_law_386 : decode cL_law 386 = .ok (.iaload, 1) := by decide +kernel
theorem dL_law_387 : decode cL_law 387 = .ok (.ifCond .eq 7, 3) := by decide +kernel
theorem dL_law_390 : decode cL_law 390 = .ok (.iconst 1, 1) := by decide +kernel
theorem dL_law_391 : decode cL_law 391 = .ok (.goto 4, 3) := by decide +kernel
theorem dL_law_394 : decode cL_law 394 = .ok (.iconst 0, 1) := by decide +kernel
theorem dL_law_395 : decode cL_law 395 = .ok (.invokevirtual 37, 3) := by decide +kernel
theorem dL_law_398 : decode cL_law 398 = .ok (.aload_n 2, 1) := by decide +kernel
theorem dL_law_399 : decode cL_law 399 = .ok (.aload_n 0, 1) := by decide +kernel
theorem dL_law_400 : decode cL_law 400 = .ok (.iload 4, 2) := by decide +kernel
theorem dL_law_402 : decode cL_law 402 = .ok (.iconst 1, 1) := by decide +kernel
theorem dL_law_403 : decode cL_law 403 = .ok (.iadd, 1) := by decide +kernel
theorem dL_law_404 : decode cL_law 404 = .ok (.iaload, 1) := by decide +kernel
theorem dL_law_405 : decode cL_law 405 = .ok (.ifCond .eq 7, 3) := by decide +kernel
theorem dL_law_408 : decode cL_law 408 = .ok (.iconst 1, 1) := by decide +kernel
theorem dL_law_409 : decode cL_law 409 = .ok (.goto 4, 3) := by decide +kernel
theorem dL_law_412 : decode cL_law 412 = .ok (.iconst 0, 1) := by decide +kernel
theorem dL_law_413 : decode cL_law 413 = .ok (.invokevirtual 41, 3) := by decide +kernel
theorem dL_law_416 : decode cL_law 416 = .ok (.if_icmp .eq 1195, 3) := by decide +kernel
theorem dL_law_421 : decode cL_law 421 = .ok (.aload_n 1, 1) := by decide +kernel
theorem dL_law_422 : decode cL_law 422 = .ok (.aload_n 0, 1) := by decide +kernel
theorem dL_law_423 : decode cL_law 423 = .ok (.iload 4, 2) := by decide +kernel
theorem dL_law_425 : decode cL_law 425 = .ok (.iconst 1, 1) := by decide +kernel
theorem dL_law_426 : decode cL_law 426 = .ok (.iadd, 1) := by decide +kernel
theorem dL_law_427 : decode cL_law 427 = .ok (.iaload, 1) := by decide +kernel
theorem dL_law_428 : decode cL_law 428 = .ok (.aload_n 0, 1) := by decide +kernel
theorem dL_law_429 : decode cL_law 429 = .ok (.iload 4, 2) := by decide +kernel
theorem dL_law_431 : decode cL_law 431 = .ok (.iconst 2, 1) := by decide +kernel
theorem dL_law_432 : decode cL_law 432 = .ok (.iadd, 1) := by decide +kernel
theorem dL_law_433 : decode cL_law 433 = .ok (.iaload, 1) := by decide +kernel
theorem dL_law_434 : decode cL_law 434 = .ok (.aload_n 0, 1) := by decide +kernel
theorem dL_law_435 : decode cL_law 435 = .ok (.iload 4, 2) := by decide +kernel
theorem dL_law_437 : decode cL_law 437 = .ok (.iconst 3, 1) := by decide +kernel
theorem dL_law_438 : decode cL_law 438 = .ok (.iadd, 1) := by decide +kernel
theorem dL_law_439 : decode cL_law 439 = .ok (.iaload, 1) := by decide +kernel
theorem dL_law_440 : decode cL_law 440 = .ok (.aload_n 0, 1) := by decide +kernel
theorem dL_law_441 : decode cL_law 441 = .ok (.iload 4, 2) := by decide +kernel
theorem dL_law_443 : decode cL_law 443 = .ok (.iconst 4, 1) := by decide +kernel
theorem dL_law_444 : decode cL_law 444 = .ok (.iadd, 1) := by decide +kernel
theorem dL_law_445 : decode cL_law 445 = .ok (.iaload, 1) := by decide +kernel
theorem dL_law_446 : decode cL_law 446 = .ok (.aload_n 0, 1) := by decide +kernel
theorem dL_law_447 : decode cL_law 447 = .ok (.iload 4, 2) := by decide +kernel
theorem dL_law_449 : decode cL_law 449 = .ok (.iconst 5, 1) := by decide +kernel
theorem dL_law_450 : decode cL_law 450 = .ok (.iadd, 1) := by decide +kernel
theorem dL_law_451 : decode cL_law 451 = .ok (.iaload, 1) := by decide +kernel
theorem dL_law_452 : decode cL_law 452 = .ok (.ifCond .eq 7, 3) := by decide +kernel
theorem dL_law_455 : decode cL_law 455 = .ok (.iconst 1, 1) := by decide +kernel
theorem dL_law_456 : decode cL_law 456 = .ok (.goto 4, 3) := by decide +kernel
theorem dL_law_459 : decode cL_law 459 = .ok (.iconst 0, 1) := by decide +kernel
theorem dL_law_460 : decode cL_law 460 = .ok (.aload_n 0, 1) := by decide +kernel
theorem dL_law_461 : decode cL_law 461 = .ok (.iload 4, 2) := by decide +kernel
theorem dL_law_463 : decode cL_law 463 = .ok (.bipush 6, 2) := by decide +kernel
theorem dL_law_465 : decode cL_law 465 = .ok (.iadd, 1) := by decide +kernel
theorem dL_law_466 : decode cL_law 466 = .ok (.iaload, 1) := by decide +kernel
theorem dL_law_467 : decode cL_law 467 = .ok (.ifCond .eq 7, 3) := by decide +kernel
theorem dL_law_470 : decode cL_law 470 = .ok (.iconst 1, 1) := by decide +kernel
theorem dL_law_471 : decode cL_law 471 = .ok (.goto 4, 3) := by decide +kernel
theorem dL_law_474 : decode cL_law 474 = .ok (.iconst 0, 1) := by decide +kernel
theorem dL_law_475 : decode cL_law 475 = .ok (.invokevirtual 42, 3) := by decide +kernel
theorem dL_law_478 : decode cL_law 478 = .ok (.aload_n 2, 1) := by decide +kernel
theorem dL_law_479 : decode cL_law 479 = .ok (.aload_n 0, 1) := by decide +kernel
theorem dL_law_480 : decode cL_law 480 = .ok (.iload 4, 2) := by decide +kernel
theorem dL_law_482 : decode cL_law 482 = .ok (.iconst 1, 1) := by decide +kernel
theorem dL_law_483 : decode cL_law 483 = .ok (.iadd, 1) := by decide +kernel
theorem dL_law_484 : decode cL_law 484 = .ok (.iaload, 1) := by decide +kernel
theorem dL_law_485 : decode cL_law 485 = .ok (.aload_n 0, 1) := by decide +kernel
theorem dL_law_486 : decode cL_law 486 = .ok (.iload 4, 2) := by decide +kernel
theorem dL_law_488 : decode cL_law 488 = .ok (.iconst 2, 1) := by decide +kernel
theorem dL_law_489 : decode cL_law 489 = .ok (.iadd, 1) := by decide +kernel
theorem dL_law_490 : decode cL_law 490 = .ok (.iaload, 1) := by decide +kernel
theorem dL_law_491 : decode cL_law 491 = .ok (.aload_n 0, 1) := by decide +kernel
theorem dL_law_492 : decode cL_law 492 = .ok (.iload 4, 2) := by decide +kernel
theorem dL_law_494 : decode cL_law 494 = .ok (.iconst 3, 1) := by decide +kernel
theorem dL_law_495 : decode cL_law 495 = .ok (.iadd, 1) := by decide +kernel
theorem dL_law_496 : decode cL_law 496 = .ok (.iaload, 1) := by decide +kernel
theorem dL_law_497 : decode cL_law 497 = .ok (.aload_n 0, 1) := by decide +kernel
theorem dL_law_498 : decode cL_law 498 = .ok (.iload 4, 2) := by decide +kernel
theorem dL_law_500 : decode cL_law 500 = .ok (.iconst 4, 1) := by decide +kernel
theorem dL_law_501 : decode cL_law 501 = .ok (.iadd, 1) := by decide +kernel
theorem dL_law_502 : decode cL_law 502 = .ok (.iaload, 1) := by decide +kernel
theorem dL_law_503 : decode cL_law 503 = .ok (.aload_n 0, 1) := by decide +kernel
theorem dL_law_504 : decode cL_law 504 = .ok (.iload 4, 2) := by decide +kernel
theorem dL_law_506 : decode cL_law 506 = .ok (.iconst 5, 1) := by decide +kernel
theorem dL_law_507 : decode cL_law 507 = .ok (.iadd, 1) := by decide +kernel
theorem dL_law_508 : decode cL_law 508 = .ok (.iaload, 1) := by decide +kernel
theorem dL_law_509 : decode cL_law 509 = .ok (.ifCond .eq 7, 3) := by decide +kernel
theorem dL_law_512 : decode cL_law 512 = .ok (.iconst 1, 1) := by decide +kernel
theorem dL_law_513 : decode cL_law 513 = .ok (.goto 4, 3) := by decide +kernel
theorem dL_law_516 : decode cL_law 516 = .ok (.iconst 0, 1) := by decide +kernel
theorem dL_law_517 : decode cL_law 517 = .ok (.aload_n 0, 1) := by decide +kernel
theorem dL_law_518 : decode cL_law 518 = .ok (.iload 4, 2) := by decide +kernel
theorem dL_law_520 : decode cL_law 520 = .ok (.bipush 6, 2) := by decide +kernel
theorem dL_law_522 : decode cL_law 522 = .ok (.iadd, 1) := by decide +kernel
theorem dL_law_523 : decode cL_law 523 = .ok (.iaload, 1) := by decide +kernel
theorem dL_law_524 : decode cL_law 524 = .ok (.ifCond .eq 7, 3) := by decide +kernel
theorem dL_law_527 : decode cL_law 527 = .ok (.iconst 1, 1) := by decide +kernel
theorem dL_law_528 : decode cL_law 528 = .ok (.goto 4, 3) := by decide +kernel
theorem dL_law_531 : decode cL_law 531 = .ok (.iconst 0, 1) := by decide +kernel
theorem dL_law_532 : decode cL_law 532 = .ok (.invokevirtual 46, 3) := by decide +kernel
theorem dL_law_535 : decode cL_law 535 = .ok (.if_icmp .eq 1076, 3) := by decide +kernel
theorem dL_law_540 : decode cL_law 540 = .ok (.aload_n 1, 1) := by decide +kernel
theorem dL_law_541 : decode cL_law 541 = .ok (.aload_n 0, 1) := by decide +kernel
theorem dL_law_542 : decode cL_law 542 = .ok (.iload 4, 2) := by decide +kernel
theorem dL_law_544 : decode cL_law 544 = .ok (.iconst 1, 1) := by decide +kernel
theorem dL_law_545 : decode cL_law 545 = .ok (.iadd, 1) := by decide +kernel
theorem dL_law_546 : decode cL_law 546 = .ok (.iaload, 1) := by decide +kernel
theorem dL_law_547 : decode cL_law 547 = .ok (.aload_n 0, 1) := by decide +kernel
theorem dL_law_548 : decode cL_law 548 = .ok (.iload 4, 2) := by decide +kernel
theorem dL_law_550 : decode cL_law 550 = .ok (.iconst 2, 1) := by decide +kernel
theorem dL_law_551 : decode cL_law 551 = .ok (.iadd, 1) := by decide +kernel
theorem dL_law_552 : decode cL_law 552 = .ok (.iaload, 1) := by decide +kernel
theorem dL_law_553 : decode cL_law 553 = .ok (.invokevirtual 47, 3) := by decide +kernel
theorem dL_law_556 : decode cL_law 556 = .ok (.aload_n 2, 1) := by decide +kernel
theorem dL_law_557 : decode cL_law 557 = .ok (.aload_n 0, 1) := by decide +kernel
theorem dL_law_558 : decode cL_law 558 = .ok (.iload 4, 2) := by decide +kernel
theorem dL_law_560 : decode cL_law 560 = .ok (.iconst 1, 1) := by decide +kernel
theorem dL_law_561 : decode cL_law 561 = .ok (.iadd, 1) := by decide +kernel
theorem dL_law_562 : decode cL_law 562 = .ok (.iaload, 1) := by decide +kernel
theorem dL_law_563 : decode cL_law 563 = .ok (.aload_n 0, 1) := by decide +kernel
theorem dL_law_564 : decode cL_law 564 = .ok (.iload 4, 2) := by decide +kernel
theorem dL_law_566 : decode cL_law 566 = .ok (.iconst 2, 1) := by decide +kernel
theorem dL_law_567 : decode cL_law 567 = .ok (.iadd, 1) := by decide +kernel
theorem dL_law_568 : decode cL_law 568 = .ok (.iaload, 1) := by decide +kernel
theorem dL_law_569 : decode cL_law 569 = .ok (.invokevirtual 51, 3) := by decide +kernel
theorem dL_law_572 : decode cL_law 572 = .ok (.if_icmp .eq 1039, 3) := by decide +kernel
theorem dL_law_577 : decode cL_law 577 = .ok (.aload_n 1, 1) := by decide +kernel
theorem dL_law_578 : decode cL_law 578 = .ok (.invokevirtual 52, 3) := by decide +kernel
theorem dL_law_581 : decode cL_law 581 = .ok (.aload_n 2, 1) := by decide +kernel
theorem dL_law_582 : decode cL_law 582 = .ok (.invokevirtual 55, 3) := by decide +kernel
theorem dL_law_585 : decode cL_law 585 = .ok (.if_icmp .eq 1026, 3) := by decide +kernel
theorem dL_law_590 : decode cL_law 590 = .ok (.aload_n 1, 1) := by decide +kernel
theorem dL_law_591 : decode cL_law 591 = .ok (.invokevirtual 56, 3) := by decide +kernel
theorem dL_law_594 : decode cL_law 594 = .ok (.aload_n 2, 1) := by decide +kernel
theorem dL_law_595 : decode cL_law 595 = .ok (.invokevirtual 59, 3) := by decide +kernel
theorem dL_law_598 : decode cL_law 598 = .ok (.if_icmp .eq 1013, 3) := by decide +kernel
theorem dL_law_603 : decode cL_law 603 = .ok (.aload_n 1, 1) := by decide +kernel
theorem dL_law_604 : decode cL_law 604 = .ok (.aload_n 0, 1) := by decide +kernel
theorem dL_law_605 : decode cL_law 605 = .ok (.iload 4, 2) := by decide +kernel
theorem dL_law_607 : decode cL_law 607 = .ok (.iconst 1, 1) := by decide +kernel
theorem dL_law_608 : decode cL_law 608 = .ok (.iadd, 1) := by decide +kernel
theorem dL_law_609 : decode cL_law 609 = .ok (.iaload, 1) := by decide +kernel
theorem dL_law_610 : decode cL_law 610 = .ok (.invokevirtual 60, 3) := by decide +kernel
theorem dL_law_613 : decode cL_law 613 = .ok (.aload_n 2, 1) := by decide +kernel
theorem dL_law_614 : decode cL_law 614 = .ok (.aload_n 0, 1) := by decide +kernel
theorem dL_law_615 : decode cL_law 615 = .ok (.iload 4, 2) := by decide +kernel
theorem dL_law_617 : decode cL_law 617 = .ok (.iconst 1, 1) := by decide +kernel
theorem dL_law_618 : decode cL_law 618 = .ok (.iadd, 1) := by decide +kernel
theorem dL_law_619 : decode cL_law 619 = .ok (.iaload, 1) := by decide +kernel
theorem dL_law_620 : decode cL_law 620 = .ok (.invokevirtual 63, 3) := by decide +kernel
theorem dL_law_623 : decode cL_law 623 = .ok (.if_icmp .eq 988, 3) := by decide +kernel
theorem dL_law_628 : decode cL_law 628 = .ok (.aload_n 1, 1) := by decide +kernel
theorem dL_law_629 : decode cL_law 629 = .ok (.invokevirtual 64, 3) := by decide +kernel
theorem dL_law_632 : decode cL_law 632 = .ok (.aload_n 2, 1) := by decide +kernel
theorem dL_law_633 : decode cL_law 633 = .ok (.invokevirtual 67, 3) := by decide +kernel
theorem dL_law_636 : decode cL_law 636 = .ok (.if_icmp .eq 975, 3) := by decide +kernel
theorem dL_law_641 : decode cL_law 641 = .ok (.aload_n 1, 1) := by decide +kernel
theorem dL_law_642 : decode cL_law 642 = .ok (.aload_n 0, 1) := by decide +kernel
theorem dL_law_643 : decode cL_law 643 = .ok (.iload 4, 2) := by decide +kernel
theorem dL_law_645 : decode cL_law 645 = .ok (.iconst 1, 1) := by decide +kernel
theorem dL_law_646 : decode cL_law 646 = .ok (.iadd, 1) := by decide +kernel
theorem dL_law_647 : decode cL_law 647 = .ok (.iaload, 1) := by decide +kernel
theorem dL_law_648 : decode cL_law 648 = .ok (.invokevirtual 68, 3) := by decide +kernel
theorem dL_law_651 : decode cL_law 651 = .ok (.aload_n 2, 1) := by decide +kernel
theorem dL_law_652 : decode cL_law 652 = .ok (.aload_n 0, 1) := by decide +kernel
theorem dL_law_653 : decode cL_law 653 = .ok (.iload 4, 2) := by decide +kernel
theorem dL_law_655 : decode cL_law 655 = .ok (.iconst 1, 1) := by decide +kernel
theorem dL_law_656 : decode cL_law 656 = .ok (.iadd, 1) := by decide +kernel
theorem dL_law_657 : decode cL_law 657 = .ok (.iaload, 1) := by decide +kernel
theorem dL_law_658 : decode cL_law 658 = .ok (.invokevirtual 71, 3) := by decide +kernel
theorem dL_law_661 : decode cL_law 661 = .ok (.if_icmp .eq 950, 3) := by decide +kernel
theorem dL_law_666 : decode cL_law 666 = .ok (.aload_n 1, 1) := by decide +kernel
theorem dL_law_667 : decode cL_law 667 = .ok (.invokevirtual 72, 3) := by decide +kernel
theorem dL_law_670 : decode cL_law 670 = .ok (.aload_n 2, 1) := by decide +kernel
theorem dL_law_671 : decode cL_law 671 = .ok (.invokevirtual 75, 3) := by decide +kernel
theorem dL_law_674 : decode cL_law 674 = .ok (.if_icmp .eq 937, 3) := by decide +kernel
theorem dL_law_679 : decode cL_law 679 = .ok (.aload_n 1, 1) := by decide +kernel
theorem dL_law_680 : decode cL_law 680 = .ok (.aload_n 0, 1) := by decide +kernel
theorem dL_law_681 : decode cL_law 681 = .ok (.iload 4, 2) := by decide +kernel
theorem dL_law_683 : decode cL_law 683 = .ok (.iconst 1, 1) := by decide +kernel
theorem dL_law_684 : decode cL_law 684 = .ok (.iadd, 1) := by decide +kernel
theorem dL_law_685 : decode cL_law 685 = .ok (.iaload, 1) := by decide +kernel
theorem dL_law_686 : decode cL_law 686 = .ok (.invokevirtual 76, 3) := by decide +kernel
theorem dL_law_689 : decode cL_law 689 = .ok (.aload_n 2, 1) := by decide +kernel
theorem dL_law_690 : decode cL_law 690 = .ok (.aload_n 0, 1) := by decide +kernel
theorem dL_law_691 : decode cL_law 691 = .ok (.iload 4, 2) := by decide +kernel
theorem dL_law_693 : decode cL_law 693 = .ok (.iconst 1, 1) := by decide +kernel
theorem dL_law_694 : decode cL_law 694 = .ok (.iadd, 1) := by decide +kernel
theorem dL_law_695 : decode cL_law 695 = .ok (.iaload, 1) := by decide +kernel
theorem dL_law_696 : decode cL_law 696 = .ok (.invokevirtual 79, 3) := by decide +kernel
theorem dL_law_699 : decode cL_law 699 = .ok (.if_icmp .eq 912, 3) := by decide +kernel
theorem dL_law_704 : decode cL_law 704 = .ok (.aload_n 1, 1) := by decide +kernel
theorem dL_law_705 : decode cL_law 705 = .ok (.aload_n 0, 1) := by decide +kernel
theorem dL_law_706 : decode cL_law 706 = .ok (.iload 4, 2) := by decide +kernel
theorem dL_law_708 : decode cL_law 708 = .ok (.iconst 1, 1) := by decide +kernel
theorem dL_law_709 : decode cL_law 709 = .ok (.iadd, 1) := by decide +kernel
theorem dL_law_710 : decode cL_law 710 = .ok (.iaload, 1) := by decide +kernel
theorem dL_law_711 : decode cL_law 711 = .ok (.invokevirtual 80, 3) := by decide +kernel
theorem dL_law_714 : decode cL_law 714 = .ok (.aload_n 2, 1) := by decide +kernel
theorem dL_law_715 : decode cL_law 715 = .ok (.aload_n 0, 1) := by decide +kernel
theorem dL_law_716 : decode cL_law 716 = .ok (.iload 4, 2) := by decide +kernel
theorem dL_law_718 : decode cL_law 718 = .ok (.iconst 1, 1) := by decide +kernel
theorem dL_law_719 : decode cL_law 719 = .ok (.iadd, 1) := by decide +kernel
theorem dL_law_720 : decode cL_law 720 = .ok (.iaload, 1) := by decide +kernel
theorem dL_law_721 : decode cL_law 721 = .ok (.invokevirtual 83, 3) := by decide +kernel
theorem dL_law_724 : decode cL_law 724 = .ok (.if_icmp .eq 887, 3) := by decide +kernel
theorem dL_law_729 : decode cL_law 729 = .ok (.aload_n 1, 1) := by decide +kernel
theorem dL_law_730 : decode cL_law 730 = .ok (.invokevirtual 84, 3) := by decide +kernel
theorem dL_law_733 : decode cL_law 733 = .ok (.aload_n 2, 1) := by decide +kernel
theorem dL_law_734 : decode cL_law 734 = .ok (.invokevirtual 87, 3) := by decide +kernel
theorem dL_law_737 : decode cL_law 737 = .ok (.if_icmp .eq 874, 3) := by decide +kernel
theorem dL_law_742 : decode cL_law 742 = .ok (.aload_n 1, 1) := by decide +kernel
theorem dL_law_743 : decode cL_law 743 = .ok (.aload_n 0, 1) := by decide +kernel
theorem dL_law_744 : decode cL_law 744 = .ok (.iload 4, 2) := by decide +kernel
theorem dL_law_746 : decode cL_law 746 = .ok (.iconst 1, 1) := by decide +kernel
theorem dL_law_747 : decode cL_law 747 = .ok (.iadd, 1) := by decide +kernel
theorem dL_law_748 : decode cL_law 748 = .ok (.iaload, 1) := by decide +kernel
theorem dL_law_749 : decode cL_law 749 = .ok (.aload_n 0, 1) := by decide +kernel
theorem dL_law_750 : decode cL_law 750 = .ok (.iload 4, 2) := by decide +kernel
theorem dL_law_752 : decode cL_law 752 = .ok (.iconst 2, 1) := by decide +kernel
theorem dL_law_753 : decode cL_law 753 = .ok (.iadd, 1) := by decide +kernel
theorem dL_law_754 : decode cL_law 754 = .ok (.iaload, 1) := by decide +kernel
theorem dL_law_755 : decode cL_law 755 = .ok (.aload_n 0, 1) := by decide +kernel
theorem dL_law_756 : decode cL_law 756 = .ok (.iload 4, 2) := by decide +kernel
theorem dL_law_758 : decode cL_law 758 = .ok (.iconst 3, 1) := by decide +kernel
theorem dL_law_759 : decode cL_law 759 = .ok (.iadd, 1) := by decide +kernel
theorem dL_law_760 : decode cL_law 760 = .ok (.iaload, 1) := by decide +kernel
theorem dL_law_761 : decode cL_law 761 = .ok (.invokevirtual 88, 3) := by decide +kernel
theorem dL_law_764 : decode cL_law 764 = .ok (.aload_n 2, 1) := by decide +kernel
theorem dL_law_765 : decode cL_law 765 = .ok (.aload_n 0, 1) := by decide +kernel
theorem dL_law_766 : decode cL_law 766 = .ok (.iload 4, 2) := by decide +kernel
theorem dL_law_768 : decode cL_law 768 = .ok (.iconst 1, 1) := by decide +kernel
theorem dL_law_769 : decode cL_law 769 = .ok (.iadd, 1) := by decide +kernel
theorem dL_law_770 : decode cL_law 770 = .ok (.iaload, 1) := by decide +kernel
theorem dL_law_771 : decode cL_law 771 = .ok (.aload_n 0, 1) := by decide +kernel
theorem dL_law_772 : decode cL_law 772 = .ok (.iload 4, 2) := by decide +kernel
theorem dL_law_774 : decode cL_law 774 = .ok (.iconst 2, 1) := by decide +kernel
theorem dL_law_775 : decode cL_law 775 = .ok (.iadd, 1) := by decide +kernel
theorem dL_law_776 : decode cL_law 776 = .ok (.iaload, 1) := by decide +kernel
theorem dL_law_777 : decode cL_law 777 = .ok (.aload_n 0, 1) := by decide +kernel
theorem dL_law_778 : decode cL_law 778 = .ok (.iload 4, 2) := by decide +kernel
theorem dL_law_780 : decode cL_law 780 = .ok (.iconst 3, 1) := by decide +kernel
theorem dL_law_781 : decode cL_law 781 = .ok (.iadd, 1) := by decide +kernel
theorem dL_law_782 : decode cL_law 782 = .ok (.iaload, 1) := by decide +kernel
theorem dL_law_783 : decode cL_law 783 = .ok (.invokevirtual 92, 3) := by decide +kernel
theorem dL_law_786 : decode cL_law 786 = .ok (.if_icmp .eq 825, 3) := by decide +kernel
theorem dL_law_791 : decode cL_law 791 = .ok (.aload_n 1, 1) := by decide +kernel
theorem dL_law_792 : decode cL_law 792 = .ok (.invokevirtual 93, 3) := by decide +kernel
theorem dL_law_795 : decode cL_law 795 = .ok (.aload_n 2, 1) := by decide +kernel
theorem dL_law_796 : decode cL_law 796 = .ok (.invokevirtual 96, 3) := by decide +kernel
theorem dL_law_799 : decode cL_law 799 = .ok (.if_icmp .eq 812, 3) := by decide +kernel
theorem dL_law_804 : decode cL_law 804 = .ok (.aload_n 1, 1) := by decide +kernel
theorem dL_law_805 : decode cL_law 805 = .ok (.invokevirtual 97, 3) := by decide +kernel
theorem dL_law_808 : decode cL_law 808 = .ok (.aload_n 2, 1) := by decide +kernel
theorem dL_law_809 : decode cL_law 809 = .ok (.invokevirtual 100, 3) := by decide +kernel
theorem dL_law_812 : decode cL_law 812 = .ok (.if_icmp .eq 799, 3) := by decide +kernel
theorem dL_law_817 : decode cL_law 817 = .ok (.aload_n 1, 1) := by decide +kernel
theorem dL_law_818 : decode cL_law 818 = .ok (.invokevirtual 101, 3) := by decide +kernel
theorem dL_law_821 : decode cL_law 821 = .ok (.aload_n 2, 1) := by decide +kernel
theorem dL_law_822 : decode cL_law 822 = .ok (.invokevirtual 104, 3) := by decide +kernel
theorem dL_law_825 : decode cL_law 825 = .ok (.if_icmp .eq 786, 3) := by decide +kernel
theorem dL_law_830 : decode cL_law 830 = .ok (.aload_n 1, 1) := by decide +kernel
theorem dL_law_831 : decode cL_law 831 = .ok (.invokevirtual 105, 3) := by decide +kernel
theorem dL_law_834 : decode cL_law 834 = .ok (.aload_n 2, 1) := by decide +kernel
theorem dL_law_835 : decode cL_law 835 = .ok (.invokevirtual 108, 3) := by decide +kernel
theorem dL_law_838 : decode cL_law 838 = .ok (.if_icmp .eq 773, 3) := by decide +kernel
theorem dL_law_843 : decode cL_law 843 = .ok (.aload_n 1, 1) := by decide +kernel
theorem dL_law_844 : decode cL_law 844 = .ok (.aload_n 0, 1) := by decide +kernel
theorem dL_law_845 : decode cL_law 845 = .ok (.iload 4, 2) := by decide +kernel
theorem dL_law_847 : decode cL_law 847 = .ok (.iconst 1, 1) := by decide +kernel
theorem dL_law_848 : decode cL_law 848 = .ok (.iadd, 1) := by decide +kernel
theorem dL_law_849 : decode cL_law 849 = .ok (.iaload, 1) := by decide +kernel
theorem dL_law_850 : decode cL_law 850 = .ok (.ifCond .eq 7, 3) := by decide +kernel
theorem dL_law_853 : decode cL_law 853 = .ok (.iconst 1, 1) := by decide +kernel
theorem dL_law_854 : decode cL_law 854 = .ok (.goto 4, 3) := by decide +kernel
theorem dL_law_857 : decode cL_law 857 = .ok (.iconst 0, 1) := by decide +kernel
theorem dL_law_858 : decode cL_law 858 = .ok (.invokevirtual 109, 3) := by decide +kernel
theorem dL_law_861 : decode cL_law 861 = .ok (.aload_n 2, 1) := by decide +kernel
theorem dL_law_862 : decode cL_law 862 = .ok (.aload_n 0, 1) := by decide +kernel
theorem dL_law_863 : decode cL_law 863 = .ok (.iload 4, 2) := by decide +kernel
theorem dL_law_865 : decode cL_law 865 = .ok (.iconst 1, 1) := by decide +kernel
theorem dL_law_866 : decode cL_law 866 = .ok (.iadd, 1) := by decide +kernel
theorem dL_law_867 : decode cL_law 867 = .ok (.iaload, 1) := by decide +kernel
theorem dL_law_868 : decode cL_law 868 = .ok (.ifCond .eq 7, 3) := by decide +kernel
theorem dL_law_871 : decode cL_law 871 = .ok (.iconst 1, 1) := by decide +kernel
theorem dL_law_872 : decode cL_law 872 = .ok (.goto 4, 3) := by decide +kernel
theorem dL_law_875 : decode cL_law 875 = .ok (.iconst 0, 1) := by decide +kernel
theorem dL_law_876 : decode cL_law 876 = .ok (.invokevirtual 112, 3) := by decide +kernel
theorem dL_law_879 : decode cL_law 879 = .ok (.if_icmp .eq 732, 3) := by decide +kernel
theorem dL_law_884 : decode cL_law 884 = .ok (.aload_n 1, 1) := by decide +kernel
theorem dL_law_885 : decode cL_law 885 = .ok (.invokevirtual 113, 3) := by decide +kernel
theorem dL_law_888 : decode cL_law 888 = .ok (.aload_n 2, 1) := by decide +kernel
theorem dL_law_889 : decode cL_law 889 = .ok (.invokevirtual 116, 3) := by decide +kernel
theorem dL_law_892 : decode cL_law 892 = .ok (.if_icmp .eq 719, 3) := by decide +kernel
theorem dL_law_897 : decode cL_law 897 = .ok (.aload_n 1, 1) := by decide +kernel
theorem dL_law_898 : decode cL_law 898 = .ok (.aload_n 0, 1) := by decide +kernel
theorem dL_law_899 : decode cL_law 899 = .ok (.iload 4, 2) := by decide +kernel
theorem dL_law_901 : decode cL_law 901 = .ok (.iconst 1, 1) := by decide +kernel
theorem dL_law_902 : decode cL_law 902 = .ok (.iadd, 1) := by decide +kernel
theorem dL_law_903 : decode cL_law 903 = .ok (.iaload, 1) := by decide +kernel
theorem dL_law_904 : decode cL_law 904 = .ok (.invokevirtual 117, 3) := by decide +kernel
theorem dL_law_907 : decode cL_law 907 = .ok (.aload_n 2, 1) := by decide +kernel
theorem dL_law_908 : decode cL_law 908 = .ok (.aload_n 0, 1) := by decide +kernel
theorem dL_law_909 : decode cL_law 909 = .ok (.iload 4, 2) := by decide +kernel
theorem dL_law_911 : decode cL_law 911 = .ok (.iconst 1, 1) := by decide +kernel
theorem dL_law_912 : decode cL_law 912 = .ok (.iadd, 1) := by decide +kernel
theorem dL_law_913 : decode cL_law 913 = .ok (.iaload, 1) := by decide +kernel
theorem dL_law_914 : decode cL_law 914 = .ok (.invokevirtual 120, 3) := by decide +kernel
theorem dL_law_917 : decode cL_law 917 = .ok (.if_icmp .eq 694, 3) := by decide +kernel
theorem dL_law_922 : decode cL_law 922 = .ok (.aload_n 1, 1) := by decide +kernel
theorem dL_law_923 : decode cL_law 923 = .ok (.invokevirtual 121, 3) := by decide +kernel
theorem dL_law_926 : decode cL_law 926 = .ok (.aload_n 2, 1) := by decide +kernel
theorem dL_law_927 : decode cL_law 927 = .ok (.invokevirtual 124, 3) := by decide +kernel
theorem dL_law_930 : decode cL_law 930 = .ok (.if_icmp .eq 681, 3) := by decide +kernel
theorem dL_law_935 : decode cL_law 935 = .ok (.aload_n 1, 1) := by decide +kernel
theorem dL_law_936 : decode cL_law 936 = .ok (.aload_n 0, 1) := by decide +kernel
theorem dL_law_937 : decode cL_law 937 = .ok (.iload 4, 2) := by decide +kernel
theorem dL_law_939 : decode cL_law 939 = .ok (.iconst 1, 1) := by decide +kernel
theorem dL_law_940 : decode cL_law 940 = .ok (.iadd, 1) := by decide +kernel
theorem dL_law_941 : decode cL_law 941 = .ok (.iaload, 1) := by decide +kernel
theorem dL_law_942 : decode cL_law 942 = .ok (.invokevirtual 125, 3) := by decide +kernel
theorem dL_law_945 : decode cL_law 945 = .ok (.aload_n 2, 1) := by decide +kernel
theorem dL_law_946 : decode cL_law 946 = .ok (.aload_n 0, 1) := by decide +kernel
theorem dL_law_947 : decode cL_law 947 = .ok (.iload 4, 2) := by decide +kernel
theorem dL_law_949 : decode cL_law 949 = .ok (.iconst 1, 1) := by decide +kernel
theorem dL_law_950 : decode cL_law 950 = .ok (.iadd, 1) := by decide +kernel
theorem dL_law_951 : decode cL_law 951 = .ok (.iaload, 1) := by decide +kernel
theorem dL_law_952 : decode cL_law 952 = .ok (.invokevirtual 128, 3) := by decide +kernel
theorem dL_law_955 : decode cL_law 955 = .ok (.if_icmp .eq 656, 3) := by decide +kernel
theorem dL_law_960 : decode cL_law 960 = .ok (.aload_n 1, 1) := by decide +kernel
theorem dL_law_961 : decode cL_law 961 = .ok (.invokevirtual 129, 3) := by decide +kernel
theorem dL_law_964 : decode cL_law 964 = .ok (.aload_n 2, 1) := by decide +kernel
theorem dL_law_965 : decode cL_law 965 = .ok (.invokevirtual 132, 3) := by decide +kernel
theorem dL_law_968 : decode cL_law 968 = .ok (.if_icmp .eq 643, 3) := by decide +kernel
theorem dL_law_973 : decode cL_law 973 = .ok (.aload_n 1, 1) := by decide +kernel
theorem dL_law_974 : decode cL_law 974 = .ok (.aload_n 0, 1) := by decide +kernel
theorem dL_law_975 : decode cL_law 975 = .ok (.iload 4, 2) := by decide +kernel
theorem dL_law_977 : decode cL_law 977 = .ok (.iconst 1, 1) := by decide +kernel
theorem dL_law_978 : decode cL_law 978 = .ok (.iadd, 1) := by decide +kernel
theorem dL_law_979 : decode cL_law 979 = .ok (.iaload, 1) := by decide +kernel
theorem dL_law_980 : decode cL_law 980 = .ok (.aload_n 0, 1) := by decide +kernel
theorem dL_law_981 : decode cL_law 981 = .ok (.iload 4, 2) := by decide +kernel
theorem dL_law_983 : decode cL_law 983 = .ok (.iconst 2, 1) := by decide +kernel
theorem dL_law_984 : decode cL_law 984 = .ok (.iadd, 1) := by decide +kernel
theorem dL_law_985 : decode cL_law 985 = .ok (.iaload, 1) := by decide +kernel
theorem dL_law_986 : decode cL_law 986 = .ok (.invokevirtual 133, 3) := by decide +kernel
theorem dL_law_989 : decode cL_law 989 = .ok (.aload_n 2, 1) := by decide +kernel
theorem dL_law_990 : decode cL_law 990 = .ok (.aload_n 0, 1) := by decide +kernel
theorem dL_law_991 : decode cL_law 991 = .ok (.iload 4, 2) := by decide +kernel
theorem dL_law_993 : decode cL_law 993 = .ok (.iconst 1, 1) := by decide +kernel
theorem dL_law_994 : decode cL_law 994 = .ok (.iadd, 1) := by decide +kernel
theorem dL_law_995 : decode cL_law 995 = .ok (.iaload, 1) := by decide +kernel
theorem dL_law_996 : decode cL_law 996 = .ok (.aload_n 0, 1) := by decide +kernel
theorem dL_law_997 : decode cL_law 997 = .ok (.iload 4, 2) := by decide +kernel
theorem dL_law_999 : decode cL_law 999 = .ok (.iconst 2, 1) := by decide +kernel
theorem dL_law_1000 : decode cL_law 1000 = .ok (.iadd, 1) := by decide +kernel
theorem dL_law_1001 : decode cL_law 1001 = .ok (.iaload, 1) := by decide +kernel
theorem dL_law_1002 : decode cL_law 1002 = .ok (.invokevirtual 136, 3) := by decide +kernel
theorem dL_law_1005 : decode cL_law 1005 = .ok (.if_icmp .eq 606, 3) := by decide +kernel
theorem dL_law_1010 : decode cL_law 1010 = .ok (.aload_n 1, 1) := by decide +kernel
theorem dL_law_1011 : decode cL_law 1011 = .ok (.invokevirtual 137, 3) := by decide +kernel
theorem dL_law_1014 : decode cL_law 1014 = .ok (.aload_n 2, 1) := by decide +kernel
theorem dL_law_1015 : decode cL_law 1015 = .ok (.invokevirtual 140, 3) := by decide +kernel
theorem dL_law_1018 : decode cL_law 1018 = .ok (.if_icmp .eq 593, 3) := by decide +kernel
theorem dL_law_1023 : decode cL_law 1023 = .ok (.aload_n 1, 1) := by decide +kernel
theorem dL_law_1024 : decode cL_law 1024 = .ok (.invokevirtual 141, 3) := by decide +kernel
theorem dL_law_1027 : decode cL_law 1027 = .ok (.aload_n 2, 1) := by decide +kernel
theorem dL_law_1028 : decode cL_law 1028 = .ok (.invokevirtual 144, 3) := by decide +kernel
theorem dL_law_1031 : decode cL_law 1031 = .ok (.if_icmp .eq 580, 3) := by decide +kernel
theorem dL_law_1036 : decode cL_law 1036 = .ok (.aload_n 1, 1) := by decide +kernel
theorem dL_law_1037 : decode cL_law 1037 = .ok (.invokevirtual 145, 3) := by decide +kernel
theorem dL_law_1040 : decode cL_law 1040 = .ok (.aload_n 2, 1) := by decide +kernel
theorem dL_law_1041 : decode cL_law 1041 = .ok (.invokevirtual 148, 3) := by decide +kernel
theorem dL_law_1044 : decode cL_law 1044 = .ok (.if_icmp .eq 567, 3) := by decide +kernel
theorem dL_law_1049 : decode cL_law 1049 = .ok (.aload_n 1, 1) := by decide +kernel
theorem dL_law_1050 : decode cL_law 1050 = .ok (.invokevirtual 149, 3) := by decide +kernel
theorem dL_law_1053 : decode cL_law 1053 = .ok (.aload_n 2, 1) := by decide +kernel
theorem dL_law_1054 : decode cL_law 1054 = .ok (.invokevirtual 152, 3) := by decide +kernel
theorem dL_law_1057 : decode cL_law 1057 = .ok (.if_icmp .eq 554, 3) := by decide +kernel
theorem dL_law_1062 : decode cL_law 1062 = .ok (.aload_n 1, 1) := by decide +kernel
theorem dL_law_1063 : decode cL_law 1063 = .ok (.invokevirtual 153, 3) := by decide +kernel
theorem dL_law_1066 : decode cL_law 1066 = .ok (.aload_n 2, 1) := by decide +kernel
theorem dL_law_1067 : decode cL_law 1067 = .ok (.invokevirtual 156, 3) := by decide +kernel
theorem dL_law_1070 : decode cL_law 1070 = .ok (.if_icmp .eq 541, 3) := by decide +kernel
theorem dL_law_1075 : decode cL_law 1075 = .ok (.aload_n 1, 1) := by decide +kernel
theorem dL_law_1076 : decode cL_law 1076 = .ok (.invokevirtual 157, 3) := by decide +kernel
theorem dL_law_1079 : decode cL_law 1079 = .ok (.aload_n 2, 1) := by decide +kernel
theorem dL_law_1080 : decode cL_law 1080 = .ok (.invokevirtual 160, 3) := by decide +kernel
theorem dL_law_1083 : decode cL_law 1083 = .ok (.if_icmp .eq 528, 3) := by decide +kernel
theorem dL_law_1088 : decode cL_law 1088 = .ok (.aload_n 1, 1) := by decide +kernel
theorem dL_law_1089 : decode cL_law 1089 = .ok (.aload_n 0, 1) := by decide +kernel
theorem dL_law_1090 : decode cL_law 1090 = .ok (.iload 4, 2) := by decide +kernel
theorem dL_law_1092 : decode cL_law 1092 = .ok (.iconst 1, 1) := by decide +kernel
theorem dL_law_1093 : decode cL_law 1093 = .ok (.iadd, 1) := by decide +kernel
theorem dL_law_1094 : decode cL_law 1094 = .ok (.iaload, 1) := by decide +kernel
theorem dL_law_1095 : decode cL_law 1095 = .ok (.aload_n 0, 1) := by decide +kernel
theorem dL_law_1096 : decode cL_law 1096 = .ok (.iload 4, 2) := by decide +kernel
theorem dL_law_1098 : decode cL_law 1098 = .ok (.iconst 2, 1) := by decide +kernel
theorem dL_law_1099 : decode cL_law 1099 = .ok (.iadd, 1) := by decide +kernel
theorem dL_law_1100 : decode cL_law 1100 = .ok (.iaload, 1) := by decide +kernel
theorem dL_law_1101 : decode cL_law 1101 = .ok (.aload_n 0, 1) := by decide +kernel
theorem dL_law_1102 : decode cL_law 1102 = .ok (.iload 4, 2) := by decide +kernel
theorem dL_law_1104 : decode cL_law 1104 = .ok (.iconst 3, 1) := by decide +kernel
theorem dL_law_1105 : decode cL_law 1105 = .ok (.iadd, 1) := by decide +kernel
theorem dL_law_1106 : decode cL_law 1106 = .ok (.iaload, 1) := by decide +kernel
theorem dL_law_1107 : decode cL_law 1107 = .ok (.ifCond .eq 7, 3) := by decide +kernel
theorem dL_law_1110 : decode cL_law 1110 = .ok (.iconst 1, 1) := by decide +kernel
theorem dL_law_1111 : decode cL_law 1111 = .ok (.goto 4, 3) := by decide +kernel
theorem dL_law_1114 : decode cL_law 1114 = .ok (.iconst 0, 1) := by decide +kernel
theorem dL_law_1115 : decode cL_law 1115 = .ok (.invokevirtual 161, 3) := by decide +kernel
theorem dL_law_1118 : decode cL_law 1118 = .ok (.aload_n 2, 1) := by decide +kernel
theorem dL_law_1119 : decode cL_law 1119 = .ok (.aload_n 0, 1) := by decide +kernel
theorem dL_law_1120 : decode cL_law 1120 = .ok (.iload 4, 2) := by decide +kernel
theorem dL_law_1122 : decode cL_law 1122 = .ok (.iconst 1, 1) := by decide +kernel
theorem dL_law_1123 : decode cL_law 1123 = .ok (.iadd, 1) := by decide +kernel
theorem dL_law_1124 : decode cL_law 1124 = .ok (.iaload, 1) := by decide +kernel
theorem dL_law_1125 : decode cL_law 1125 = .ok (.aload_n 0, 1) := by decide +kernel
theorem dL_law_1126 : decode cL_law 1126 = .ok (.iload 4, 2) := by decide +kernel
theorem dL_law_1128 : decode cL_law 1128 = .ok (.iconst 2, 1) := by decide +kernel
theorem dL_law_1129 : decode cL_law 1129 = .ok (.iadd, 1) := by decide +kernel
theorem dL_law_1130 : decode cL_law 1130 = .ok (.iaload, 1) := by decide +kernel
theorem dL_law_1131 : decode cL_law 1131 = .ok (.aload_n 0, 1) := by decide +kernel
theorem dL_law_1132 : decode cL_law 1132 = .ok (.iload 4, 2) := by decide +kernel
theorem dL_law_1134 : decode cL_law 1134 = .ok (.iconst 3, 1) := by decide +kernel
theorem dL_law_1135 : decode cL_law 1135 = .ok (.iadd, 1) := by decide +kernel
theorem dL_law_1136 : decode cL_law 1136 = .ok (.iaload, 1) := by decide +kernel
theorem dL_law_1137 : decode cL_law 1137 = .ok (.ifCond .eq 7, 3) := by decide +kernel
theorem dL_law_1140 : decode cL_law 1140 = .ok (.iconst 1, 1) := by decide +kernel
theorem dL_law_1141 : decode cL_law 1141 = .ok (.goto 4, 3) := by decide +kernel
theorem dL_law_1144 : decode cL_law 1144 = .ok (.iconst 0, 1) := by decide +kernel
theorem dL_law_1145 : decode cL_law 1145 = .ok (.invokevirtual 165, 3) := by decide +kernel
theorem dL_law_1148 : decode cL_law 1148 = .ok (.if_icmp .eq 463, 3) := by decide +kernel
theorem dL_law_1153 : decode cL_law 1153 = .ok (.aload_n 1, 1) := by decide +kernel
theorem dL_law_1154 : decode cL_law 1154 = .ok (.aload_n 0, 1) := by decide +kernel
theorem dL_law_1155 : decode cL_law 1155 = .ok (.iload 4, 2) := by decide +kernel
theorem dL_law_1157 : decode cL_law 1157 = .ok (.iconst 1, 1) := by decide +kernel
theorem dL_law_1158 : decode cL_law 1158 = .ok (.iadd, 1) := by decide +kernel
theorem dL_law_1159 : decode cL_law 1159 = .ok (.iaload, 1) := by decide +kernel
theorem dL_law_1160 : decode cL_law 1160 = .ok (.invokevirtual 166, 3) := by decide +kernel
theorem dL_law_1163 : decode cL_law 1163 = .ok (.aload_n 2, 1) := by decide +kernel
theorem dL_law_1164 : decode cL_law 1164 = .ok (.aload_n 0, 1) := by decide +kernel
theorem dL_law_1165 : decode cL_law 1165 = .ok (.iload 4, 2) := by decide +kernel
theorem dL_law_1167 : decode cL_law 1167 = .ok (.iconst 1, 1) := by decide +kernel
theorem dL_law_1168 : decode cL_law 1168 = .ok (.iadd, 1) := by decide +kernel
theorem dL_law_1169 : decode cL_law 1169 = .ok (.iaload, 1) := by decide +kernel
theorem dL_law_1170 : decode cL_law 1170 = .ok (.invokevirtual 170, 3) := by decide +kernel
theorem dL_law_1173 : decode cL_law 1173 = .ok (.if_icmp .eq 438, 3) := by decide +kernel
theorem dL_law_1178 : decode cL_law 1178 = .ok (.aload_n 1, 1) := by decide +kernel
theorem dL_law_1179 : decode cL_law 1179 = .ok (.aload_n 0, 1) := by decide +kernel
theorem dL_law_1180 : decode cL_law 1180 = .ok (.iload 4, 2) := by decide +kernel
theorem dL_law_1182 : decode cL_law 1182 = .ok (.iconst 1, 1) := by decide +kernel
theorem dL_law_1183 : decode cL_law 1183 = .ok (.iadd, 1) := by decide +kernel
theorem dL_law_1184 : decode cL_law 1184 = .ok (.iaload, 1) := by decide +kernel
theorem dL_law_1185 : decode cL_law 1185 = .ok (.invokevirtual 171, 3) := by decide +kernel
theorem dL_law_1188 : decode cL_law 1188 = .ok (.aload_n 2, 1) := by decide +kernel
theorem dL_law_1189 : decode cL_law 1189 = .ok (.aload_n 0, 1) := by decide +kernel
theorem dL_law_1190 : decode cL_law 1190 = .ok (.iload 4, 2) := by decide +kernel
theorem dL_law_1192 : decode cL_law 1192 = .ok (.iconst 1, 1) := by decide +kernel
theorem dL_law_1193 : decode cL_law 1193 = .ok (.iadd, 1) := by decide +kernel
theorem dL_law_1194 : decode cL_law 1194 = .ok (.iaload, 1) := by decide +kernel
theorem dL_law_1195 : decode cL_law 1195 = .ok (.invokevirtual 174, 3) := by decide +kernel
theorem dL_law_1198 : decode cL_law 1198 = .ok (.if_icmp .eq 413, 3) := by decide +kernel
theorem dL_law_1203 : decode cL_law 1203 = .ok (.aload_n 1, 1) := by decide +kernel
theorem dL_law_1204 : decode cL_law 1204 = .ok (.aload_n 0, 1) := by decide +kernel
theorem dL_law_1205 : decode cL_law 1205 = .ok (.iload 4, 2) := by decide +kernel
theorem dL_law_1207 : decode cL_law 1207 = .ok (.iconst 1, 1) := by decide +kernel
theorem dL_law_1208 : decode cL_law 1208 = .ok (.iadd, 1) := by decide +kernel
theorem dL_law_1209 : decode cL_law 1209 = .ok (.iaload, 1) := by decide +kernel
theorem dL_law_1210 : decode cL_law 1210 = .ok (.invokevirtual 175, 3) := by decide +kernel
theorem dL_law_1213 : decode cL_law 1213 = .ok (.aload_n 2, 1) := by decide +kernel
theorem dL_law_1214 : decode cL_law 1214 = .ok (.aload_n 0, 1) := by decide +kernel
theorem dL_law_1215 : decode cL_law 1215 = .ok (.iload 4, 2) := by decide +kernel
theorem dL_law_1217 : decode cL_law 1217 = .ok (.iconst 1, 1) := by decide +kernel
theorem dL_law_1218 : decode cL_law 1218 = .ok (.iadd, 1) := by decide +kernel
theorem dL_law_1219 : decode cL_law 1219 = .ok (.iaload, 1) := by decide +kernel
theorem dL_law_1220 : decode cL_law 1220 = .ok (.invokevirtual 178, 3) := by decide +kernel
theorem dL_law_1223 : decode cL_law 1223 = .ok (.if_icmp .eq 388, 3) := by decide +kernel
theorem dL_law_1228 : decode cL_law 1228 = .ok (.aload_n 1, 1) := by decide +kernel
theorem dL_law_1229 : decode cL_law 1229 = .ok (.aload_n 0, 1) := by decide +kernel
theorem dL_law_1230 : decode cL_law 1230 = .ok (.iload 4, 2) := by decide +kernel
theorem dL_law_1232 : decode cL_law 1232 = .ok (.iconst 1, 1) := by decide +kernel
theorem dL_law_1233 : decode cL_law 1233 = .ok (.iadd, 1) := by decide +kernel
theorem dL_law_1234 : decode cL_law 1234 = .ok (.iaload, 1) := by decide +kernel
theorem dL_law_1235 : decode cL_law 1235 = .ok (.aload_n 0, 1) := by decide +kernel
theorem dL_law_1236 : decode cL_law 1236 = .ok (.iload 4, 2) := by decide +kernel
theorem dL_law_1238 : decode cL_law 1238 = .ok (.iconst 2, 1) := by decide +kernel
theorem dL_law_1239 : decode cL_law 1239 = .ok (.iadd, 1) := by decide +kernel
theorem dL_law_1240 : decode cL_law 1240 = .ok (.iaload, 1) := by decide +kernel
theorem dL_law_1241 : decode cL_law 1241 = .ok (.aload_n 0, 1) := by decide +kernel
theorem dL_law_1242 : decode cL_law 1242 = .ok (.iload 4, 2) := by decide +kernel
theorem dL_law_1244 : decode cL_law 1244 = .ok (.iconst 3, 1) := by decide +kernel
theorem dL_law_1245 : decode cL_law 1245 = .ok (.iadd, 1) := by decide +kernel
theorem dL_law_1246 : decode cL_law 1246 = .ok (.iaload, 1) := by decide +kernel
theorem dL_law_1247 : decode cL_law 1247 = .ok (.aload_n 0, 1) := by decide +kernel
theorem dL_law_1248 : decode cL_law 1248 = .ok (.iload 4, 2) := by decide +kernel
theorem dL_law_1250 : decode cL_law 1250 = .ok (.iconst 4, 1) := by decide +kernel
theorem dL_law_1251 : decode cL_law 1251 = .ok (.iadd, 1) := by decide +kernel
theorem dL_law_1252 : decode cL_law 1252 = .ok (.iaload, 1) := by decide +kernel
theorem dL_law_1253 : decode cL_law 1253 = .ok (.invokevirtual 179, 3) := by decide +kernel
theorem dL_law_1256 : decode cL_law 1256 = .ok (.aload_n 2, 1) := by decide +kernel
theorem dL_law_1257 : decode cL_law 1257 = .ok (.aload_n 0, 1) := by decide +kernel
theorem dL_law_1258 : decode cL_law 1258 = .ok (.iload 4, 2) := by decide +kernel
theorem dL_law_1260 : decode cL_law 1260 = .ok (.iconst 1, 1) := by decide +kernel
theorem dL_law_1261 : decode cL_law 1261 = .ok (.iadd, 1) := by decide +kernel
theorem dL_law_1262 : decode cL_law 1262 = .ok (.iaload, 1) := by decide +kernel
theorem dL_law_1263 : decode cL_law 1263 = .ok (.aload_n 0, 1) := by decide +kernel
theorem dL_law_1264 : decode cL_law 1264 = .ok (.iload 4, 2) := by decide +kernel
theorem dL_law_1266 : decode cL_law 1266 = .ok (.iconst 2, 1) := by decide +kernel
theorem dL_law_1267 : decode cL_law 1267 = .ok (.iadd, 1) := by decide +kernel
theorem dL_law_1268 : decode cL_law 1268 = .ok (.iaload, 1) := by decide +kernel
theorem dL_law_1269 : decode cL_law 1269 = .ok (.aload_n 0, 1) := by decide +kernel
theorem dL_law_1270 : decode cL_law 1270 = .ok (.iload 4, 2) := by decide +kernel
theorem dL_law_1272 : decode cL_law 1272 = .ok (.iconst 3, 1) := by decide +kernel
theorem dL_law_1273 : decode cL_law 1273 = .ok (.iadd, 1) := by decide +kernel
theorem dL_law_1274 : decode cL_law 1274 = .ok (.iaload, 1) := by decide +kernel
theorem dL_law_1275 : decode cL_law 1275 = .ok (.aload_n 0, 1) := by decide +kernel
theorem dL_law_1276 : decode cL_law 1276 = .ok (.iload 4, 2) := by decide +kernel
theorem dL_law_1278 : decode cL_law 1278 = .ok (.iconst 4, 1) := by decide +kernel
theorem dL_law_1279 : decode cL_law 1279 = .ok (.iadd, 1) := by decide +kernel
theorem dL_law_1280 : decode cL_law 1280 = .ok (.iaload, 1) := by decide +kernel
theorem dL_law_1281 : decode cL_law 1281 = .ok (.invokevirtual 183, 3) := by decide +kernel
theorem dL_law_1284 : decode cL_law 1284 = .ok (.if_icmp .eq 327, 3) := by decide +kernel
theorem dL_law_1289 : decode cL_law 1289 = .ok (.aload_n 1, 1) := by decide +kernel
theorem dL_law_1290 : decode cL_law 1290 = .ok (.invokevirtual 184, 3) := by decide +kernel
theorem dL_law_1293 : decode cL_law 1293 = .ok (.aload_n 2, 1) := by decide +kernel
theorem dL_law_1294 : decode cL_law 1294 = .ok (.invokevirtual 188, 3) := by decide +kernel
theorem dL_law_1297 : decode cL_law 1297 = .ok (.if_icmp .eq 314, 3) := by decide +kernel
theorem dL_law_1302 : decode cL_law 1302 = .ok (.aload_n 1, 1) := by decide +kernel
theorem dL_law_1303 : decode cL_law 1303 = .ok (.invokevirtual 189, 3) := by decide +kernel
theorem dL_law_1306 : decode cL_law 1306 = .ok (.aload_n 2, 1) := by decide +kernel
theorem dL_law_1307 : decode cL_law 1307 = .ok (.invokevirtual 192, 3) := by decide +kernel
theorem dL_law_1310 : decode cL_law 1310 = .ok (.if_icmp .eq 301, 3) := by decide +kernel
theorem dL_law_1315 : decode cL_law 1315 = .ok (.aload_n 1, 1) := by decide +kernel
theorem dL_law_1316 : decode cL_law 1316 = .ok (.invokevirtual 193, 3) := by decide +kernel
theorem dL_law_1319 : decode cL_law 1319 = .ok (.aload_n 2, 1) := by decide +kernel
theorem dL_law_1320 : decode cL_law 1320 = .ok (.invokevirtual 196, 3) := by decide +kernel
theorem dL_law_1323 : decode cL_law 1323 = .ok (.if_icmp .eq 288, 3) := by decide +kernel
theorem dL_law_1328 : decode cL_law 1328 = .ok (.aload_n 1, 1) := by decide +kernel
theorem dL_law_1329 : decode cL_law 1329 = .ok (.aload_n 0, 1) := by decide +kernel
theorem dL_law_1330 : decode cL_law 1330 = .ok (.iload 4, 2) := by decide +kernel
theorem dL_law_1332 : decode cL_law 1332 = .ok (.iconst 1, 1) := by decide +kernel
theorem dL_law_1333 : decode cL_law 1333 = .ok (.iadd, 1) := by decide +kernel
theorem dL_law_1334 : decode cL_law 1334 = .ok (.iaload, 1) := by decide +kernel
theorem dL_law_1335 : decode cL_law 1335 = .ok (.invokevirtual 197, 3) := by decide +kernel
theorem dL_law_1338 : decode cL_law 1338 = .ok (.aload_n 2, 1) := by decide +kernel
theorem dL_law_1339 : decode cL_law 1339 = .ok (.aload_n 0, 1) := by decide +kernel
theorem dL_law_1340 : decode cL_law 1340 = .ok (.iload 4, 2) := by decide +kernel
theorem dL_law_1342 : decode cL_law 1342 = .ok (.iconst 1, 1) := by decide +kernel
theorem dL_law_1343 : decode cL_law 1343 = .ok (.iadd, 1) := by decide +kernel
theorem dL_law_1344 : decode cL_law 1344 = .ok (.iaload, 1) := by decide +kernel
theorem dL_law_1345 : decode cL_law 1345 = .ok (.invokevirtual 200, 3) := by decide +kernel
theorem dL_law_1348 : decode cL_law 1348 = .ok (.if_icmp .eq 263, 3) := by decide +kernel
theorem dL_law_1353 : decode cL_law 1353 = .ok (.aload_n 1, 1) := by decide +kernel
theorem dL_law_1354 : decode cL_law 1354 = .ok (.aload_n 0, 1) := by decide +kernel
theorem dL_law_1355 : decode cL_law 1355 = .ok (.iload 4, 2) := by decide +kernel
theorem dL_law_1357 : decode cL_law 1357 = .ok (.iconst 1, 1) := by decide +kernel
theorem dL_law_1358 : decode cL_law 1358 = .ok (.iadd, 1) := by decide +kernel
theorem dL_law_1359 : decode cL_law 1359 = .ok (.iaload, 1) := by decide +kernel
theorem dL_law_1360 : decode cL_law 1360 = .ok (.aload_n 0, 1) := by decide +kernel
theorem dL_law_1361 : decode cL_law 1361 = .ok (.iload 4, 2) := by decide +kernel
theorem dL_law_1363 : decode cL_law 1363 = .ok (.iconst 2, 1) := by decide +kernel
theorem dL_law_1364 : decode cL_law 1364 = .ok (.iadd, 1) := by decide +kernel
theorem dL_law_1365 : decode cL_law 1365 = .ok (.iaload, 1) := by decide +kernel
theorem dL_law_1366 : decode cL_law 1366 = .ok (.invokevirtual 201, 3) := by decide +kernel
theorem dL_law_1369 : decode cL_law 1369 = .ok (.aload_n 2, 1) := by decide +kernel
theorem dL_law_1370 : decode cL_law 1370 = .ok (.aload_n 0, 1) := by decide +kernel
theorem dL_law_1371 : decode cL_law 1371 = .ok (.iload 4, 2) := by decide +kernel
theorem dL_law_1373 : decode cL_law 1373 = .ok (.iconst 1, 1) := by decide +kernel
theorem dL_law_1374 : decode cL_law 1374 = .ok (.iadd, 1) := by decide +kernel
theorem dL_law_1375 : decode cL_law 1375 = .ok (.iaload, 1) := by decide +kernel
theorem dL_law_1376 : decode cL_law 1376 = .ok (.aload_n 0, 1) := by decide +kernel
theorem dL_law_1377 : decode cL_law 1377 = .ok (.iload 4, 2) := by decide +kernel
theorem dL_law_1379 : decode cL_law 1379 = .ok (.iconst 2, 1) := by decide +kernel
theorem dL_law_1380 : decode cL_law 1380 = .ok (.iadd, 1) := by decide +kernel
theorem dL_law_1381 : decode cL_law 1381 = .ok (.iaload, 1) := by decide +kernel
theorem dL_law_1382 : decode cL_law 1382 = .ok (.invokevirtual 204, 3) := by decide +kernel
theorem dL_law_1385 : decode cL_law 1385 = .ok (.if_icmp .eq 226, 3) := by decide +kernel
theorem dL_law_1390 : decode cL_law 1390 = .ok (.aload_n 1, 1) := by decide +kernel
theorem dL_law_1391 : decode cL_law 1391 = .ok (.aload_n 0, 1) := by decide +kernel
theorem dL_law_1392 : decode cL_law 1392 = .ok (.iload 4, 2) := by decide +kernel
theorem dL_law_1394 : decode cL_law 1394 = .ok (.iconst 1, 1) := by decide +kernel
theorem dL_law_1395 : decode cL_law 1395 = .ok (.iadd, 1) := by decide +kernel
theorem dL_law_1396 : decode cL_law 1396 = .ok (.iaload, 1) := by decide +kernel
theorem dL_law_1397 : decode cL_law 1397 = .ok (.aload_n 0, 1) := by decide +kernel
theorem dL_law_1398 : decode cL_law 1398 = .ok (.iload 4, 2) := by decide +kernel
theorem dL_law_1400 : decode cL_law 1400 = .ok (.iconst 2, 1) := by decide +kernel
theorem dL_law_1401 : decode cL_law 1401 = .ok (.iadd, 1) := by decide +kernel
theorem dL_law_1402 : decode cL_law 1402 = .ok (.iaload, 1) := by decide +kernel
theorem dL_law_1403 : decode cL_law 1403 = .ok (.invokevirtual 205, 3) := by decide +kernel
theorem dL_law_1406 : decode cL_law 1406 = .ok (.aload_n 2, 1) := by decide +kernel
theorem dL_law_1407 : decode cL_law 1407 = .ok (.aload_n 0, 1) := by decide +kernel
theorem dL_law_1408 : decode cL_law 1408 = .ok (.iload 4, 2) := by decide +kernel
theorem dL_law_1410 : decode cL_law 1410 = .ok (.iconst 1, 1) := by decide +kernel
theorem dL_law_1411 : decode cL_law 1411 = .ok (.iadd, 1) := by decide +kernel
theorem dL_law_1412 : decode cL_law 1412 = .ok (.iaload, 1) := by decide +kernel
theorem dL_law_1413 : decode cL_law 1413 = .ok (.aload_n 0, 1) := by decide +kernel
theorem dL_law_1414 : decode cL_law 1414 = .ok (.iload 4, 2) := by decide +kernel
theorem dL_law_1416 : decode cL_law 1416 = .ok (.iconst 2, 1) := by decide +kernel
theorem dL_law_1417 : decode cL_law 1417 = .ok (.iadd, 1) := by decide +kernel
theorem dL_law_1418 : decode cL_law 1418 = .ok (.iaload, 1) := by decide +kernel
theorem dL_law_1419 : decode cL_law 1419 = .ok (.invokevirtual 208, 3) := by decide +kernel
theorem dL_law_1422 : decode cL_law 1422 = .ok (.if_icmp .eq 189, 3) := by decide +kernel
theorem dL_law_1427 : decode cL_law 1427 = .ok (.aload_n 1, 1) := by decide +kernel
theorem dL_law_1428 : decode cL_law 1428 = .ok (.aload_n 0, 1) := by decide +kernel
theorem dL_law_1429 : decode cL_law 1429 = .ok (.iload 4, 2) := by decide +kernel
theorem dL_law_1431 : decode cL_law 1431 = .ok (.iconst 1, 1) := by decide +kernel
theorem dL_law_1432 : decode cL_law 1432 = .ok (.iadd, 1) := by decide +kernel
theorem dL_law_1433 : decode cL_law 1433 = .ok (.iaload, 1) := by decide +kernel
theorem dL_law_1434 : decode cL_law 1434 = .ok (.aload_n 0, 1) := by decide +kernel
theorem dL_law_1435 : decode cL_law 1435 = .ok (.iload 4, 2) := by decide +kernel
theorem dL_law_1437 : decode cL_law 1437 = .ok (.iconst 2, 1) := by decide +kernel
theorem dL_law_1438 : decode cL_law 1438 = .ok (.iadd, 1) := by decide +kernel
theorem dL_law_1439 : decode cL_law 1439 = .ok (.iaload, 1) := by decide +kernel
theorem dL_law_1440 : decode cL_law 1440 = .ok (.ifCond .eq 7, 3) := by decide +kernel
theorem dL_law_1443 : decode cL_law 1443 = .ok (.iconst 1, 1) := by decide +kernel
theorem dL_law_1444 : decode cL_law 1444 = .ok (.goto 4, 3) := by decide +kernel
theorem dL_law_1447 : decode cL_law 1447 = .ok (.iconst 0, 1) := by decide +kernel
theorem dL_law_1448 : decode cL_law 1448 = .ok (.invokevirtual 209, 3) := by decide +kernel
theorem dL_law_1451 : decode cL_law 1451 = .ok (.aload_n 2, 1) := by decide +kernel
theorem dL_law_1452 : decode cL_law 1452 = .ok (.aload_n 0, 1) := by decide +kernel
theorem dL_law_1453 : decode cL_law 1453 = .ok (.iload 4, 2) := by decide +kernel
theorem dL_law_1455 : decode cL_law 1455 = .ok (.iconst 1, 1) := by decide +kernel
theorem dL_law_1456 : decode cL_law 1456 = .ok (.iadd, 1) := by decide +kernel
theorem dL_law_1457 : decode cL_law 1457 = .ok (.iaload, 1) := by decide +kernel
theorem dL_law_1458 : decode cL_law 1458 = .ok (.aload_n 0, 1) := by decide +kernel
theorem dL_law_1459 : decode cL_law 1459 = .ok (.iload 4, 2) := by decide +kernel
theorem dL_law_1461 : decode cL_law 1461 = .ok (.iconst 2, 1) := by decide +kernel
theorem dL_law_1462 : decode cL_law 1462 = .ok (.iadd, 1) := by decide +kernel
theorem dL_law_1463 : decode cL_law 1463 = .ok (.iaload, 1) := by decide +kernel
theorem dL_law_1464 : decode cL_law 1464 = .ok (.ifCond .eq 7, 3) := by decide +kernel
theorem dL_law_1467 : decode cL_law 1467 = .ok (.iconst 1, 1) := by decide +kernel
theorem dL_law_1468 : decode cL_law 1468 = .ok (.goto 4, 3) := by decide +kernel
theorem dL_law_1471 : decode cL_law 1471 = .ok (.iconst 0, 1) := by decide +kernel
theorem dL_law_1472 : decode cL_law 1472 = .ok (.invokevirtual 213, 3) := by decide +kernel
theorem dL_law_1475 : decode cL_law 1475 = .ok (.if_icmp .eq 136, 3) := by decide +kernel
theorem dL_law_1480 : decode cL_law 1480 = .ok (.aload_n 1, 1) := by decide +kernel
theorem dL_law_1481 : decode cL_law 1481 = .ok (.aload_n 0, 1) := by decide +kernel
theorem dL_law_1482 : decode cL_law 1482 = .ok (.iload 4, 2) := by decide +kernel
theorem dL_law_1484 : decode cL_law 1484 = .ok (.iconst 1, 1) := by decide +kernel
theorem dL_law_1485 : decode cL_law 1485 = .ok (.iadd, 1) := by decide +kernel
theorem dL_law_1486 : decode cL_law 1486 = .ok (.iaload, 1) := by decide +kernel
theorem dL_law_1487 : decode cL_law 1487 = .ok (.aload_n 0, 1) := by decide +kernel
theorem dL_law_1488 : decode cL_law 1488 = .ok (.iload 4, 2) := by decide +kernel
theorem dL_law_1490 : decode cL_law 1490 = .ok (.iconst 2, 1) := by decide +kernel
theorem dL_law_1491 : decode cL_law 1491 = .ok (.iadd, 1) := by decide +kernel
theorem dL_law_1492 : decode cL_law 1492 = .ok (.iaload, 1) := by decide +kernel
theorem dL_law_1493 : decode cL_law 1493 = .ok (.invokevirtual 214, 3) := by decide +kernel
theorem dL_law_1496 : decode cL_law 1496 = .ok (.aload_n 2, 1) := by decide +kernel
theorem dL_law_1497 : decode cL_law 1497 = .ok (.aload_n 0, 1) := by decide +kernel
theorem dL_law_1498 : decode cL_law 1498 = .ok (.iload 4, 2) := by decide +kernel
theorem dL_law_1500 : decode cL_law 1500 = .ok (.iconst 1, 1) := by decide +kernel
theorem dL_law_1501 : decode cL_law 1501 = .ok (.iadd, 1) := by decide +kernel
theorem dL_law_1502 : decode cL_law 1502 = .ok (.iaload, 1) := by decide +kernel
theorem dL_law_1503 : decode cL_law 1503 = .ok (.aload_n 0, 1) := by decide +kernel
theorem dL_law_1504 : decode cL_law 1504 = .ok (.iload 4, 2) := by decide +kernel
theorem dL_law_1506 : decode cL_law 1506 = .ok (.iconst 2, 1) := by decide +kernel
theorem dL_law_1507 : decode cL_law 1507 = .ok (.iadd, 1) := by decide +kernel
theorem dL_law_1508 : decode cL_law 1508 = .ok (.iaload, 1) := by decide +kernel
theorem dL_law_1509 : decode cL_law 1509 = .ok (.invokevirtual 217, 3) := by decide +kernel
theorem dL_law_1512 : decode cL_law 1512 = .ok (.if_icmp .eq 99, 3) := by decide +kernel
theorem dL_law_1517 : decode cL_law 1517 = .ok (.aload_n 1, 1) := by decide +kernel
theorem dL_law_1518 : decode cL_law 1518 = .ok (.aload_n 0, 1) := by decide +kernel
theorem dL_law_1519 : decode cL_law 1519 = .ok (.iload 4, 2) := by decide +kernel
theorem dL_law_1521 : decode cL_law 1521 = .ok (.iconst 1, 1) := by decide +kernel
theorem dL_law_1522 : decode cL_law 1522 = .ok (.iadd, 1) := by decide +kernel
theorem dL_law_1523 : decode cL_law 1523 = .ok (.iaload, 1) := by decide +kernel
theorem dL_law_1524 : decode cL_law 1524 = .ok (.aload_n 3, 1) := by decide +kernel
theorem dL_law_1525 : decode cL_law 1525 = .ok (.invokestatic 218, 3) := by decide +kernel
theorem dL_law_1528 : decode cL_law 1528 = .ok (.istore 5, 2) := by decide +kernel
theorem dL_law_1530 : decode cL_law 1530 = .ok (.aload_n 2, 1) := by decide +kernel
theorem dL_law_1531 : decode cL_law 1531 = .ok (.aload_n 0, 1) := by decide +kernel
theorem dL_law_1532 : decode cL_law 1532 = .ok (.iload 4, 2) := by decide +kernel
theorem dL_law_1534 : decode cL_law 1534 = .ok (.iconst 1, 1) := by decide +kernel
theorem dL_law_1535 : decode cL_law 1535 = .ok (.iadd, 1) := by decide +kernel
theorem dL_law_1536 : decode cL_law 1536 = .ok (.iaload, 1) := by decide +kernel
theorem dL_law_1537 : decode cL_law 1537 = .ok (.invokevirtual 223, 3) := by decide +kernel
theorem dL_law_1540 : decode cL_law 1540 = .ok (.istore 6, 2) := by decide +kernel
theorem dL_law_1542 : decode cL_law 1542 = .ok (.aload_n 2, 1) := by decide +kernel
theorem dL_law_1543 : decode cL_law 1543 = .ok (.invokevirtual 224, 3) := by decide +kernel
theorem dL_law_1546 : decode cL_law 1546 = .ok (.iload 5, 2) := by decide +kernel
theorem dL_law_1548 : decode cL_law 1548 = .ok (.if_icmp .eq 5, 3) := by decide +kernel
theorem dL_law_1553 : decode cL_law 1553 = .ok (.iload 5, 2) := by decide +kernel
theorem dL_law_1555 : decode cL_law 1555 = .ok (.ifCond .ne 15, 3) := by decide +kernel
theorem dL_law_1570 : decode cL_law 1570 = .ok (.goto 41, 3) := by decide +kernel
theorem dL_law_1573 : decode cL_law 1573 = .ok (.aload_n 1, 1) := by decide +kernel
theorem dL_law_1574 : decode cL_law 1574 = .ok (.aload_n 0, 1) := by decide +kernel
theorem dL_law_1575 : decode cL_law 1575 = .ok (.iload 4, 2) := by decide +kernel
theorem dL_law_1577 : decode cL_law 1577 = .ok (.iconst 1, 1) := by decide +kernel
theorem dL_law_1578 : decode cL_law 1578 = .ok (.iadd, 1) := by decide +kernel
theorem dL_law_1579 : decode cL_law 1579 = .ok (.iaload, 1) := by decide +kernel
theorem dL_law_1580 : decode cL_law 1580 = .ok (.invokevirtual 227, 3) := by decide +kernel
theorem dL_law_1583 : decode cL_law 1583 = .ok (.aload_n 2, 1) := by decide +kernel
theorem dL_law_1584 : decode cL_law 1584 = .ok (.aload_n 0, 1) := by decide +kernel
theorem dL_law_1585 : decode cL_law 1585 = .ok (.iload 4, 2) := by decide +kernel
theorem dL_law_1587 : decode cL_law 1587 = .ok (.iconst 1, 1) := by decide +kernel
