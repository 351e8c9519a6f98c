theorem dX11_mustName_45 : decode cX11_mustName 45 = .ok (.aload_n 0, 1) := dk_42 hN_cX11_mustName rfl rfl
theorem dX11_mustName_46 : decode cX11_mustName 46 = .ok (.ldc 148, 2) := dk_18 hN_cX11_mustName rfl rfl rfl
theorem dX11_mustName_48 : decode cX11_mustName 48 = .ok (.invokevirtual 124, 3) := dk_182 hN_cX11_mustName rfl rfl rfl
theorem dX11_mustName_51 : decode cX11_mustName 51 = .ok (.ifCond .ne 12, 3) := dk_154 hN_cX11_mustName rfl rfl rfl
theorem dX11_mustName_54 : decode cX11_mustName 54 = .ok (.aload_n 0, 1) := dk_42 hN_cX11_mustName rfl rfl
theorem dX11_mustName_55 : decode cX11_mustName 55 = .ok (.ldc 150, 2) := dk_18 hN_cX11_mustName rfl rfl rfl
theorem dX11_mustName_57 : decode cX11_mustName 57 = .ok (.invokevirtual 124, 3) := dk_182 hN_cX11_mustName rfl rfl rfl
theorem dX11_mustName_60 : decode cX11_mustName 60 = .ok (.ifCond .eq 7, 3) := dk_153 hN_cX11_mustName rfl rfl rfl
theorem dX11_mustName_67 : decode cX11_mustName 67 = .ok (.iconst 0, 1) := dk_3 hN_cX11_mustName rfl rfl
theorem dX11_find_0 : decode cX11_find 0 = .ok (.iconst 0, 1) := dk_3 hN_cX11_find rfl rfl
theorem dX11_find_1 : decode cX11_find 1 = .ok (.istore_n 1, 1) := dk_60 hN_cX11_find rfl rfl
theorem dX11_find_2 : decode cX11_find 2 = .ok (.iload_n 1, 1) := dk_27 hN_cX11_find rfl rfl
theorem dX11_find_3 : decode cX11_find 3 = .ok (.bipush 15, 2) := dk_16 hN_cX11_find rfl rfl rfl
theorem dX11_find_5 : decode cX11_find 5 = .ok (.if_icmp .ge 101, 3) := dk_162 hN_cX11_find rfl rfl rfl
theorem dX11_find_106 : decode cX11_find 106 = .ok (.iconst (-1), 1) := dk_2 hN_cX11_find rfl rfl
theorem dX11_find_107 : decode cX11_find 107 = .ok (.ireturn, 1) := dk_172 hN_cX11_find rfl rfl
theorem dX11_find_8 : decode cX11_find 8 = .ok (.aload_n 0, 1) := dk_42 hN_cX11_find rfl rfl
theorem dX11_find_9 : decode cX11_find 9 = .ok (.getfield 23, 3) := dk_180 hN_cX11_find rfl rfl rfl
theorem dX11_find_12 : decode cX11_find 12 = .ok (.sipush 211, 3) := dk_17 hN_cX11_find rfl rfl rfl
theorem dX11_find_15 : decode cX11_find 15 = .ok (.iload_n 1, 1) := dk_27 hN_cX11_find rfl rfl
theorem dX11_find_16 : decode cX11_find 16 = .ok (.iadd, 1) := dk_96 hN_cX11_find rfl rfl
theorem dX11_find_17 : decode cX11_find 17 = .ok (.iaload, 1) := dk_46 hN_cX11_find rfl rfl
theorem dX11_find_18 : decode cX11_find 18 = .ok (.ifCond .le 24, 3) := dk_158 hN_cX11_find rfl rfl rfl
theorem dX11_find_42 : decode cX11_find 42 = .ok (.iconst 0, 1) := dk_3 hN_cX11_find rfl rfl
theorem dX11_find_43 : decode cX11_find 43 = .ok (.istore_n 2, 1) := dk_61 hN_cX11_find rfl rfl
theorem dX11_find_44 : decode cX11_find 44 = .ok (.iconst 0, 1) := dk_3 hN_cX11_find rfl rfl
theorem dX11_find_45 : decode cX11_find 45 = .ok (.istore_n 3, 1) := dk_62 hN_cX11_find rfl rfl
theorem dX11_find_21 : decode cX11_find 21 = .ok (.aload_n 0, 1) := dk_42 hN_cX11_find rfl rfl
theorem dX11_find_22 : decode cX11_find 22 = .ok (.getfield 23, 3) := dk_180 hN_cX11_find rfl rfl rfl
theorem dX11_find_25 : decode cX11_find 25 = .ok (.sipush 211, 3) := dk_17 hN_cX11_find rfl rfl rfl
theorem dX11_find_28 : decode cX11_find 28 = .ok (.iload_n 1, 1) := dk_27 hN_cX11_find rfl rfl
theorem dX11_find_29 : decode cX11_find 29 = .ok (.iadd, 1) := dk_96 hN_cX11_find rfl rfl
theorem dX11_find_30 : decode cX11_find 30 = .ok (.iaload, 1) := dk_46 hN_cX11_find rfl rfl
theorem dX11_find_31 : decode cX11_find 31 = .ok (.aload_n 0, 1) := dk_42 hN_cX11_find rfl rfl
theorem dX11_find_32 : decode cX11_find 32 = .ok (.getfield 91, 3) := dk_180 hN_cX11_find rfl rfl rfl
theorem dX11_find_35 : decode cX11_find 35 = .ok (.if_icmp .ne 7, 3) := dk_160 hN_cX11_find rfl rfl rfl
theorem dX11_find_38 : decode cX11_find 38 = .ok (.iconst 1, 1) := dk_4 hN_cX11_find rfl rfl
theorem dX11_find_39 : decode cX11_find 39 = .ok (.goto 4, 3) := dk_167 hN_cX11_find rfl rfl rfl
theorem dX11_find_46 : decode cX11_find 46 = .ok (.iload_n 3, 1) := dk_29 hN_cX11_find rfl rfl
theorem dX11_find_47 : decode cX11_find 47 = .ok (.aload_n 0, 1) := dk_42 hN_cX11_find rfl rfl
theorem dX11_find_48 : decode cX11_find 48 = .ok (.getfield 91, 3) := dk_180 hN_cX11_find rfl rfl rfl
theorem dX11_find_51 : decode cX11_find 51 = .ok (.if_icmp .ge 43, 3) := dk_162 hN_cX11_find rfl rfl rfl
theorem dX11_find_94 : decode cX11_find 94 = .ok (.iload_n 2, 1) := dk_28 hN_cX11_find rfl rfl
theorem dX11_find_95 : decode cX11_find 95 = .ok (.ifCond .eq 5, 3) := dk_153 hN_cX11_find rfl rfl rfl
theorem dX11_find_100 : decode cX11_find 100 = .ok (.iinc 1 1, 3) := dk_132 hN_cX11_find rfl rfl rfl rfl
theorem dX11_find_103 : decode cX11_find 103 = .ok (.goto (-101), 3) := dk_167 hN_cX11_find rfl rfl rfl
theorem dX11_find_98 : decode cX11_find 98 = .ok (.iload_n 1, 1) := dk_27 hN_cX11_find rfl rfl
theorem dX11_find_99 : decode cX11_find 99 = .ok (.ireturn, 1) := dk_172 hN_cX11_find rfl rfl
theorem dX11_find_54 : decode cX11_find 54 = .ok (.iload_n 2, 1) := dk_28 hN_cX11_find rfl rfl
theorem dX11_find_55 : decode cX11_find 55 = .ok (.ifCond .eq 39, 3) := dk_153 hN_cX11_find rfl rfl rfl
theorem dX11_find_58 : decode cX11_find 58 = .ok (.aload_n 0, 1) := dk_42 hN_cX11_find rfl rfl
theorem dX11_find_59 : decode cX11_find 59 = .ok (.getfield 23, 3) := dk_180 hN_cX11_find rfl rfl rfl
theorem dX11_find_62 : decode cX11_find 62 = .ok (.sipush 226, 3) := dk_17 hN_cX11_find rfl rfl rfl
theorem dX11_find_65 : decode cX11_find 65 = .ok (.bipush 8, 2) := dk_16 hN_cX11_find rfl rfl rfl
theorem dX11_find_67 : decode cX11_find 67 = .ok (.iload_n 1, 1) := dk_27 hN_cX11_find rfl rfl
theorem dX11_find_68 : decode cX11_find 68 = .ok (.imul, 1) := dk_104 hN_cX11_find rfl rfl
theorem dX11_find_69 : decode cX11_find 69 = .ok (.iadd, 1) := dk_96 hN_cX11_find rfl rfl
theorem dX11_find_70 : decode cX11_find 70 = .ok (.iload_n 3, 1) := dk_29 hN_cX11_find rfl rfl
theorem dX11_find_71 : decode cX11_find 71 = .ok (.iadd, 1) := dk_96 hN_cX11_find rfl rfl
theorem dX11_find_72 : decode cX11_find 72 = .ok (.iaload, 1) := dk_46 hN_cX11_find rfl rfl
theorem dX11_find_73 : decode cX11_find 73 = .ok (.aload_n 0, 1) := dk_42 hN_cX11_find rfl rfl
theorem dX11_find_74 : decode cX11_find 74 = .ok (.getfield 17, 3) := dk_180 hN_cX11_find rfl rfl rfl
theorem dX11_find_77 : decode cX11_find 77 = .ok (.iload_n 3, 1) := dk_29 hN_cX11_find rfl rfl
theorem dX11_find_78 : decode cX11_find 78 = .ok (.iaload, 1) := dk_46 hN_cX11_find rfl rfl
theorem dX11_find_79 : decode cX11_find 79 = .ok (.if_icmp .ne 7, 3) := dk_160 hN_cX11_find rfl rfl rfl
theorem dX11_find_86 : decode cX11_find 86 = .ok (.iconst 0, 1) := dk_3 hN_cX11_find rfl rfl
theorem dX11_find_87 : decode cX11_find 87 = .ok (.istore_n 2, 1) := dk_61 hN_cX11_find rfl rfl
theorem dX11_find_88 : decode cX11_find 88 = .ok (.iinc 3 1, 3) := dk_132 hN_cX11_find rfl rfl rfl rfl
theorem dX11_find_91 : decode cX11_find 91 = .ok (.goto (-45), 3) := dk_167 hN_cX11_find rfl rfl rfl
theorem dX11_find_82 : decode cX11_find 82 = .ok (.iconst 1, 1) := dk_4 hN_cX11_find rfl rfl
theorem dX11_find_83 : decode cX11_find 83 = .ok (.goto 4, 3) := dk_167 hN_cX11_find rfl rfl rfl
theorem dX11_newNames_0 : decode cX11_newNames 0 = .ok (.aload_n 0, 1) := dk_42 hN_cX11_newNames rfl rfl
theorem dX11_newNames_1 : decode cX11_newNames 1 = .ok (.getfield 107, 3) := dk_180 hN_cX11_newNames rfl rfl rfl
theorem dX11_newNames_4 : decode cX11_newNames 4 = .ok (.ifCond .ne 7, 3) := dk_154 hN_cX11_newNames rfl rfl rfl
theorem dX11_newNames_11 : decode cX11_newNames 11 = .ok (.iconst 0, 1) := dk_3 hN_cX11_newNames rfl rfl
theorem dX11_newNames_12 : decode cX11_newNames 12 = .ok (.istore 4, 2) := dk_54 hN_cX11_newNames rfl rfl rfl
theorem dX11_newNames_7 : decode cX11_newNames 7 = .ok (.iconst 1, 1) := dk_4 hN_cX11_newNames rfl rfl
theorem dX11_newNames_8 : decode cX11_newNames 8 = .ok (.goto 4, 3) := dk_167 hN_cX11_newNames rfl rfl rfl
theorem dX11_newNames_14 : decode cX11_newNames 14 = .ok (.iload 4, 2) := dk_21 hN_cX11_newNames rfl rfl rfl
theorem dX11_newNames_16 : decode cX11_newNames 16 = .ok (.ifCond .eq 154, 3) := dk_153 hN_cX11_newNames rfl rfl rfl
theorem dX11_newNames_170 : decode cX11_newNames 170 = .ok (.return_, 1) := dk_177 hN_cX11_newNames rfl rfl
theorem dX11_newNames_19 : decode cX11_newNames 19 = .ok (.aload_n 0, 1) := dk_42 hN_cX11_newNames rfl rfl
theorem dX11_newNames_20 : decode cX11_newNames 20 = .ok (.invokevirtual 152, 3) := dk_182 hN_cX11_newNames rfl rfl rfl
theorem dX11_newNames_23 : decode cX11_newNames 23 = .ok (.aload_n 0, 1) := dk_42 hN_cX11_newNames rfl rfl
theorem dX11_newNames_24 : decode cX11_newNames 24 = .ok (.getfield 107, 3) := dk_180 hN_cX11_newNames rfl rfl rfl
theorem dX11_newNames_27 : decode cX11_newNames 27 = .ok (.ifCond .ne 19, 3) := dk_154 hN_cX11_newNames rfl rfl rfl
theorem dX11_newNames_46 : decode cX11_newNames 46 = .ok (.aload_n 0, 1) := dk_42 hN_cX11_newNames rfl rfl
theorem dX11_newNames_47 : decode cX11_newNames 47 = .ok (.getfield 107, 3) := dk_180 hN_cX11_newNames rfl rfl rfl
theorem dX11_newNames_50 : decode cX11_newNames 50 = .ok (.ifCond .ne 22, 3) := dk_154 hN_cX11_newNames rfl rfl rfl
theorem dX11_newNames_72 : decode cX11_newNames 72 = .ok (.aload_n 0, 1) := dk_42 hN_cX11_newNames rfl rfl
theorem dX11_newNames_73 : decode cX11_newNames 73 = .ok (.getfield 107, 3) := dk_180 hN_cX11_newNames rfl rfl rfl
theorem dX11_newNames_76 : decode cX11_newNames 76 = .ok (.ifCond .eq 4, 3) := dk_153 hN_cX11_newNames rfl rfl rfl
theorem dX11_newNames_80 : decode cX11_newNames 80 = .ok (.iload_n 2, 1) := dk_28 hN_cX11_newNames rfl rfl
theorem dX11_newNames_81 : decode cX11_newNames 81 = .ok (.aload_n 0, 1) := dk_42 hN_cX11_newNames rfl rfl
theorem dX11_newNames_82 : decode cX11_newNames 82 = .ok (.getfield 23, 3) := dk_180 hN_cX11_newNames rfl rfl rfl
theorem dX11_newNames_85 : decode cX11_newNames 85 = .ok (.iload_n 1, 1) := dk_27 hN_cX11_newNames rfl rfl
theorem dX11_newNames_86 : decode cX11_newNames 86 = .ok (.iaload, 1) := dk_46 hN_cX11_newNames rfl rfl
theorem dX11_newNames_87 : decode cX11_newNames 87 = .ok (.iadd, 1) := dk_96 hN_cX11_newNames rfl rfl
theorem dX11_newNames_88 : decode cX11_newNames 88 = .ok (.istore 5, 2) := dk_54 hN_cX11_newNames rfl rfl rfl
theorem dX11_newNames_90 : decode cX11_newNames 90 = .ok (.iconst 0, 1) := dk_3 hN_cX11_newNames rfl rfl
theorem dX11_newNames_91 : decode cX11_newNames 91 = .ok (.istore 6, 2) := dk_54 hN_cX11_newNames rfl rfl rfl
theorem dX11_newNames_79 : decode cX11_newNames 79 = .ok (.return_, 1) := dk_177 hN_cX11_newNames rfl rfl
theorem dX11_newNames_53 : decode cX11_newNames 53 = .ok (.aload_n 0, 1) := dk_42 hN_cX11_newNames rfl rfl
theorem dX11_newNames_54 : decode cX11_newNames 54 = .ok (.getfield 23, 3) := dk_180 hN_cX11_newNames rfl rfl rfl
theorem dX11_newNames_57 : decode cX11_newNames 57 = .ok (.iload_n 1, 1) := dk_27 hN_cX11_newNames rfl rfl
theorem dX11_newNames_58 : decode cX11_newNames 58 = .ok (.iaload, 1) := dk_46 hN_cX11_newNames rfl rfl
theorem dX11_newNames_59 : decode cX11_newNames 59 = .ok (.iload_n 3, 1) := dk_29 hN_cX11_newNames rfl rfl
theorem dX11_newNames_60 : decode cX11_newNames 60 = .ok (.if_icmp .ne 12, 3) := dk_160 hN_cX11_newNames rfl rfl rfl
theorem dX11_newNames_63 : decode cX11_newNames 63 = .ok (.aload_n 0, 1) := dk_42 hN_cX11_newNames rfl rfl
theorem dX11_newNames_64 : decode cX11_newNames 64 = .ok (.iconst 5, 1) := dk_8 hN_cX11_newNames rfl rfl
theorem dX11_newNames_65 : decode cX11_newNames 65 = .ok (.aload_n 0, 1) := dk_42 hN_cX11_newNames rfl rfl
theorem dX11_newNames_66 : decode cX11_newNames 66 = .ok (.getfield 88, 3) := dk_180 hN_cX11_newNames rfl rfl rfl
theorem dX11_newNames_69 : decode cX11_newNames 69 = .ok (.invokevirtual 134, 3) := dk_182 hN_cX11_newNames rfl rfl rfl
theorem dX11_newNames_30 : decode cX11_newNames 30 = .ok (.aload_n 0, 1) := dk_42 hN_cX11_newNames rfl rfl
theorem dX11_newNames_31 : decode cX11_newNames 31 = .ok (.invokevirtual 155, 3) := dk_182 hN_cX11_newNames rfl rfl rfl
theorem dX11_newNames_34 : decode cX11_newNames 34 = .ok (.ifCond .lt 12, 3) := dk_155 hN_cX11_newNames rfl rfl rfl
theorem dX11_newNames_37 : decode cX11_newNames 37 = .ok (.aload_n 0, 1) := dk_42 hN_cX11_newNames rfl rfl
theorem dX11_newNames_38 : decode cX11_newNames 38 = .ok (.iconst 3, 1) := dk_6 hN_cX11_newNames rfl rfl
theorem dX11_newNames_39 : decode cX11_newNames 39 = .ok (.aload_n 0, 1) := dk_42 hN_cX11_newNames rfl rfl
theorem dX11_newNames_40 : decode cX11_newNames 40 = .ok (.getfield 88, 3) := dk_180 hN_cX11_newNames rfl rfl rfl
theorem dX11_newNames_43 : decode cX11_newNames 43 = .ok (.invokevirtual 134, 3) := dk_182 hN_cX11_newNames rfl rfl rfl
theorem dX11_newNames_93 : decode cX11_newNames 93 = .ok (.iload 6, 2) := dk_21 hN_cX11_newNames rfl rfl rfl
theorem dX11_newNames_95 : decode cX11_newNames 95 = .ok (.aload_n 0, 1) := dk_42 hN_cX11_newNames rfl rfl
theorem dX11_newNames_96 : decode cX11_newNames 96 = .ok (.getfield 91, 3) := dk_180 hN_cX11_newNames rfl rfl rfl
theorem dX11_newNames_99 : decode cX11_newNames 99 = .ok (.if_icmp .ge 33, 3) := dk_162 hN_cX11_newNames rfl rfl rfl
theorem dX11_newNames_132 : decode cX11_newNames 132 = .ok (.aload_n 0, 1) := dk_42 hN_cX11_newNames rfl rfl
theorem dX11_newNames_133 : decode cX11_newNames 133 = .ok (.getfield 23, 3) := dk_180 hN_cX11_newNames rfl rfl rfl
theorem dX11_newNames_136 : decode cX11_newNames 136 = .ok (.sipush 211, 3) := dk_17 hN_cX11_newNames rfl rfl rfl
theorem dX11_newNames_139 : decode cX11_newNames 139 = .ok (.iload 5, 2) := dk_21 hN_cX11_newNames rfl rfl rfl
theorem dX11_newNames_141 : decode cX11_newNames 141 = .ok (.iadd, 1) := dk_96 hN_cX11_newNames rfl rfl
theorem dX11_newNames_142 : decode cX11_newNames 142 = .ok (.aload_n 0, 1) := dk_42 hN_cX11_newNames rfl rfl
theorem dX11_newNames_143 : decode cX11_newNames 143 = .ok (.getfield 91, 3) := dk_180 hN_cX11_newNames rfl rfl rfl
theorem dX11_newNames_146 : decode cX11_newNames 146 = .ok (.iastore, 1) := dk_79 hN_cX11_newNames rfl rfl
theorem dX11_newNames_147 : decode cX11_newNames 147 = .ok (.aload_n 0, 1) := dk_42 hN_cX11_newNames rfl rfl
theorem dX11_newNames_148 : decode cX11_newNames 148 = .ok (.getfield 23, 3) := dk_180 hN_cX11_newNames rfl rfl rfl
theorem dX11_newNames_151 : decode cX11_newNames 151 = .ok (.iload_n 1, 1) := dk_27 hN_cX11_newNames rfl rfl
theorem dX11_newNames_152 : decode cX11_newNames 152 = .ok (.dup2, 1) := dk_92 hN_cX11_newNames rfl rfl
theorem dX11_newNames_153 : decode cX11_newNames 153 = .ok (.iaload, 1) := dk_46 hN_cX11_newNames rfl rfl
theorem dX11_newNames_154 : decode cX11_newNames 154 = .ok (.iconst 1, 1) := dk_4 hN_cX11_newNames rfl rfl
theorem dX11_newNames_155 : decode cX11_newNames 155 = .ok (.iadd, 1) := dk_96 hN_cX11_newNames rfl rfl
theorem dX11_newNames_156 : decode cX11_newNames 156 = .ok (.iastore, 1) := dk_79 hN_cX11_newNames rfl rfl
theorem dX11_newNames_157 : decode cX11_newNames 157 = .ok (.aload_n 0, 1) := dk_42 hN_cX11_newNames rfl rfl
theorem dX11_newNames_158 : decode cX11_newNames 158 = .ok (.invokevirtual 128, 3) := dk_182 hN_cX11_newNames rfl rfl rfl
theorem dX11_newNames_161 : decode cX11_newNames 161 = .ok (.aload_n 0, 1) := dk_42 hN_cX11_newNames rfl rfl
theorem dX11_newNames_162 : decode cX11_newNames 162 = .ok (.invokevirtual 158, 3) := dk_182 hN_cX11_newNames rfl rfl rfl
theorem dX11_newNames_165 : decode cX11_newNames 165 = .ok (.istore 4, 2) := dk_54 hN_cX11_newNames rfl rfl rfl
theorem dX11_newNames_167 : decode cX11_newNames 167 = .ok (.goto (-153), 3) := dk_167 hN_cX11_newNames rfl rfl rfl
theorem dX11_newNames_102 : decode cX11_newNames 102 = .ok (.aload_n 0, 1) := dk_42 hN_cX11_newNames rfl rfl
theorem dX11_newNames_103 : decode cX11_newNames 103 = .ok (.getfield 23, 3) := dk_180 hN_cX11_newNames rfl rfl rfl
theorem dX11_newNames_106 : decode cX11_newNames 106 = .ok (.sipush 226, 3) := dk_17 hN_cX11_newNames rfl rfl rfl
theorem dX11_newNames_109 : decode cX11_newNames 109 = .ok (.bipush 8, 2) := dk_16 hN_cX11_newNames rfl rfl rfl
theorem dX11_newNames_111 : decode cX11_newNames 111 = .ok (.iload 5, 2) := dk_21 hN_cX11_newNames rfl rfl rfl
theorem dX11_newNames_113 : decode cX11_newNames 113 = .ok (.imul, 1) := dk_104 hN_cX11_newNames rfl rfl
theorem dX11_newNames_114 : decode cX11_newNames 114 = .ok (.iadd, 1) := dk_96 hN_cX11_newNames rfl rfl
theorem dX11_newNames_115 : decode cX11_newNames 115 = .ok (.iload 6, 2) := dk_21 hN_cX11_newNames rfl rfl rfl
theorem dX11_newNames_117 : decode cX11_newNames 117 = .ok (.iadd, 1) := dk_96 hN_cX11_newNames rfl rfl
theorem dX11_newNames_118 : decode cX11_newNames 118 = .ok (.aload_n 0, 1) := dk_42 hN_cX11_newNames rfl rfl
theorem dX11_newNames_119 : decode cX11_newNames 119 = .ok (.getfield 17, 3) := dk_180 hN_cX11_newNames rfl rfl rfl
theorem dX11_newNames_122 : decode cX11_newNames 122 = .ok (.iload 6, 2) := dk_21 hN_cX11_newNames rfl rfl rfl
theorem dX11_newNames_124 : decode cX11_newNames 124 = .ok (.iaload, 1) := dk_46 hN_cX11_newNames rfl rfl
theorem dX11_newNames_125 : decode cX11_newNames 125 = .ok (.iastore, 1) := dk_79 hN_cX11_newNames rfl rfl
theorem dX11_newNames_126 : decode cX11_newNames 126 = .ok (.iinc 6 1, 3) := dk_132 hN_cX11_newNames rfl rfl rfl rfl
theorem dX11_newNames_129 : decode cX11_newNames 129 = .ok (.goto (-36), 3) := dk_167 hN_cX11_newNames rfl rfl rfl
theorem dX11_named_0 : decode cX11_named 0 = .ok (.aload_n 0, 1) := dk_42 hN_cX11_named rfl rfl
theorem dX11_named_1 : decode cX11_named 1 = .ok (.getfield 107, 3) := dk_180 hN_cX11_named rfl rfl rfl
theorem dX11_named_4 : decode cX11_named 4 = .ok (.ifCond .eq 5, 3) := dk_153 hN_cX11_named rfl rfl rfl
theorem dX11_named_9 : decode cX11_named 9 = .ok (.aload_n 0, 1) := dk_42 hN_cX11_named rfl rfl
theorem dX11_named_10 : decode cX11_named 10 = .ok (.invokevirtual 152, 3) := dk_182 hN_cX11_named rfl rfl rfl
theorem dX11_named_13 : decode cX11_named 13 = .ok (.aload_n 0, 1) := dk_42 hN_cX11_named rfl rfl
theorem dX11_named_14 : decode cX11_named 14 = .ok (.getfield 107, 3) := dk_180 hN_cX11_named rfl rfl rfl
theorem dX11_named_17 : decode cX11_named 17 = .ok (.ifCond .eq 5, 3) := dk_153 hN_cX11_named rfl rfl rfl
theorem dX11_named_22 : decode cX11_named 22 = .ok (.aload_n 0, 1) := dk_42 hN_cX11_named rfl rfl
theorem dX11_named_23 : decode cX11_named 23 = .ok (.invokevirtual 155, 3) := dk_182 hN_cX11_named rfl rfl rfl
theorem dX11_named_26 : decode cX11_named 26 = .ok (.istore_n 3, 1) := dk_62 hN_cX11_named rfl rfl
theorem dX11_named_27 : decode cX11_named 27 = .ok (.iload_n 3, 1) := dk_29 hN_cX11_named rfl rfl
theorem dX11_named_28 : decode cX11_named 28 = .ok (.ifCond .lt 18, 3) := dk_155 hN_cX11_named rfl rfl rfl
theorem dX11_named_46 : decode cX11_named 46 = .ok (.aload_n 0, 1) := dk_42 hN_cX11_named rfl rfl
theorem dX11_named_47 : decode cX11_named 47 = .ok (.iconst 2, 1) := dk_5 hN_cX11_named rfl rfl
theorem dX11_named_48 : decode cX11_named 48 = .ok (.aload_n 0, 1) := dk_42 hN_cX11_named rfl rfl
theorem dX11_named_49 : decode cX11_named 49 = .ok (.getfield 88, 3) := dk_180 hN_cX11_named rfl rfl rfl
theorem dX11_named_52 : decode cX11_named 52 = .ok (.invokevirtual 134, 3) := dk_182 hN_cX11_named rfl rfl rfl
theorem dX11_named_55 : decode cX11_named 55 = .ok (.aload_n 0, 1) := dk_42 hN_cX11_named rfl rfl
theorem dX11_named_56 : decode cX11_named 56 = .ok (.getfield 107, 3) := dk_180 hN_cX11_named rfl rfl rfl
theorem dX11_named_59 : decode cX11_named 59 = .ok (.ifCond .eq 5, 3) := dk_153 hN_cX11_named rfl rfl rfl
theorem dX11_named_64 : decode cX11_named 64 = .ok (.iload_n 1, 1) := dk_27 hN_cX11_named rfl rfl
theorem dX11_named_65 : decode cX11_named 65 = .ok (.ifCond .eq 7, 3) := dk_153 hN_cX11_named rfl rfl rfl
theorem dX11_named_72 : decode cX11_named 72 = .ok (.iload_n 3, 1) := dk_29 hN_cX11_named rfl rfl
theorem dX11_named_73 : decode cX11_named 73 = .ok (.bipush 6, 2) := dk_16 hN_cX11_named rfl rfl rfl
theorem dX11_named_75 : decode cX11_named 75 = .ok (.isub, 1) := dk_100 hN_cX11_named rfl rfl
theorem dX11_named_76 : decode cX11_named 76 = .ok (.istore 4, 2) := dk_54 hN_cX11_named rfl rfl rfl
theorem dX11_named_78 : decode cX11_named 78 = .ok (.iload_n 2, 1) := dk_28 hN_cX11_named rfl rfl
theorem dX11_named_79 : decode cX11_named 79 = .ok (.iload 4, 2) := dk_21 hN_cX11_named rfl rfl rfl
theorem dX11_named_81 : decode cX11_named 81 = .ok (.invokestatic 162, 3) := dk_184 hN_cX11_named rfl rfl rfl
theorem dX11_named_84 : decode cX11_named 84 = .ok (.ifCond .eq 12, 3) := dk_153 hN_cX11_named rfl rfl rfl
theorem dX11_named_96 : decode cX11_named 96 = .ok (.iload 4, 2) := dk_21 hN_cX11_named rfl rfl rfl
theorem dX11_named_98 : decode cX11_named 98 = .ok (.ireturn, 1) := dk_172 hN_cX11_named rfl rfl
theorem dX11_named_87 : decode cX11_named 87 = .ok (.aload_n 0, 1) := dk_42 hN_cX11_named rfl rfl
theorem dX11_named_88 : decode cX11_named 88 = .ok (.iconst 3, 1) := dk_6 hN_cX11_named rfl rfl
theorem dX11_named_89 : decode cX11_named 89 = .ok (.aload_n 0, 1) := dk_42 hN_cX11_named rfl rfl
theorem dX11_named_90 : decode cX11_named 90 = .ok (.getfield 88, 3) := dk_180 hN_cX11_named rfl rfl rfl
theorem dX11_named_93 : decode cX11_named 93 = .ok (.invokevirtual 134, 3) := dk_182 hN_cX11_named rfl rfl rfl
theorem dX11_named_68 : decode cX11_named 68 = .ok (.iload_n 3, 1) := dk_29 hN_cX11_named rfl rfl
theorem dX11_named_69 : decode cX11_named 69 = .ok (.goto 7, 3) := dk_167 hN_cX11_named rfl rfl rfl
theorem dX11_named_62 : decode cX11_named 62 = .ok (.iconst 0, 1) := dk_3 hN_cX11_named rfl rfl
theorem dX11_named_63 : decode cX11_named 63 = .ok (.ireturn, 1) := dk_172 hN_cX11_named rfl rfl
theorem dX11_named_31 : decode cX11_named 31 = .ok (.iload_n 1, 1) := dk_27 hN_cX11_named rfl rfl
theorem dX11_named_32 : decode cX11_named 32 = .ok (.iload_n 3, 1) := dk_29 hN_cX11_named rfl rfl
theorem dX11_named_33 : decode cX11_named 33 = .ok (.bipush 6, 2) := dk_16 hN_cX11_named rfl rfl rfl
theorem dX11_named_35 : decode cX11_named 35 = .ok (.if_icmp .ge 7, 3) := dk_162 hN_cX11_named rfl rfl rfl
theorem dX11_named_42 : decode cX11_named 42 = .ok (.iconst 0, 1) := dk_3 hN_cX11_named rfl rfl
theorem dX11_named_43 : decode cX11_named 43 = .ok (.if_icmp .eq 12, 3) := dk_159 hN_cX11_named rfl rfl rfl
theorem dX11_named_38 : decode cX11_named 38 = .ok (.iconst 1, 1) := dk_4 hN_cX11_named rfl rfl
theorem dX11_named_39 : decode cX11_named 39 = .ok (.goto 4, 3) := dk_167 hN_cX11_named rfl rfl rfl
theorem dX11_named_20 : decode cX11_named 20 = .ok (.iconst 0, 1) := dk_3 hN_cX11_named rfl rfl
theorem dX11_named_21 : decode cX11_named 21 = .ok (.ireturn, 1) := dk_172 hN_cX11_named rfl rfl
theorem dX11_named_7 : decode cX11_named 7 = .ok (.iconst 0, 1) := dk_3 hN_cX11_named rfl rfl
theorem dX11_named_8 : decode cX11_named 8 = .ok (.ireturn, 1) := dk_172 hN_cX11_named rfl rfl
theorem dX11_passed_0 : decode cX11_passed 0 = .ok (.aload_n 0, 1) := dk_42 hN_cX11_passed rfl rfl
theorem dX11_passed_1 : decode cX11_passed 1 = .ok (.iload_n 1, 1) := dk_27 hN_cX11_passed rfl rfl
theorem dX11_passed_2 : decode cX11_passed 2 = .ok (.iload_n 2, 1) := dk_28 hN_cX11_passed rfl rfl
theorem dX11_passed_3 : decode cX11_passed 3 = .ok (.invokevirtual 166, 3) := dk_182 hN_cX11_passed rfl rfl rfl
theorem dX11_passed_6 : decode cX11_passed 6 = .ok (.istore_n 3, 1) := dk_62 hN_cX11_passed rfl rfl
theorem dX11_passed_7 : decode cX11_passed 7 = .ok (.aload_n 0, 1) := dk_42 hN_cX11_passed rfl rfl
theorem dX11_passed_8 : decode cX11_passed 8 = .ok (.getfield 107, 3) := dk_180 hN_cX11_passed rfl rfl rfl
theorem dX11_passed_11 : decode cX11_passed 11 = .ok (.ifCond .ne 7, 3) := dk_154 hN_cX11_passed rfl rfl rfl
theorem dX11_passed_18 : decode cX11_passed 18 = .ok (.iload_n 3, 1) := dk_29 hN_cX11_passed rfl rfl
theorem dX11_passed_19 : decode cX11_passed 19 = .ok (.ireturn, 1) := dk_172 hN_cX11_passed rfl rfl
theorem dX11_passed_14 : decode cX11_passed 14 = .ok (.aload_n 0, 1) := dk_42 hN_cX11_passed rfl rfl
theorem dX11_passed_15 : decode cX11_passed 15 = .ok (.invokevirtual 128, 3) := dk_182 hN_cX11_passed rfl rfl rfl
theorem dX11_number_0 : decode cX11_number 0 = .ok (.aload_n 0, 1) := dk_42 hN_cX11_number rfl rfl
theorem dX11_number_1 : decode cX11_number 1 = .ok (.getfield 107, 3) := dk_180 hN_cX11_number rfl rfl rfl
theorem dX11_number_4 : decode cX11_number 4 = .ok (.ifCond .eq 5, 3) := dk_153 hN_cX11_number rfl rfl rfl
theorem dX11_number_9 : decode cX11_number 9 = .ok (.aload_n 0, 1) := dk_42 hN_cX11_number rfl rfl
theorem dX11_number_10 : decode cX11_number 10 = .ok (.getfield 97, 3) := dk_180 hN_cX11_number rfl rfl rfl
theorem dX11_number_13 : decode cX11_number 13 = .ok (.iconst 3, 1) := dk_6 hN_cX11_number rfl rfl
theorem dX11_number_14 : decode cX11_number 14 = .ok (.if_icmp .eq 14, 3) := dk_159 hN_cX11_number rfl rfl rfl
theorem dX11_number_28 : decode cX11_number 28 = .ok (.aload_n 0, 1) := dk_42 hN_cX11_number rfl rfl
theorem dX11_number_29 : decode cX11_number 29 = .ok (.getfield 94, 3) := dk_180 hN_cX11_number rfl rfl rfl
theorem dX11_number_32 : decode cX11_number 32 = .ok (.istore_n 3, 1) := dk_62 hN_cX11_number rfl rfl
theorem dX11_number_33 : decode cX11_number 33 = .ok (.iload_n 3, 1) := dk_29 hN_cX11_number rfl rfl
theorem dX11_number_34 : decode cX11_number 34 = .ok (.iload_n 1, 1) := dk_27 hN_cX11_number rfl rfl
theorem dX11_number_35 : decode cX11_number 35 = .ok (.iload_n 2, 1) := dk_28 hN_cX11_number rfl rfl
theorem dX11_number_36 : decode cX11_number 36 = .ok (.invokestatic 170, 3) := dk_184 hN_cX11_number rfl rfl rfl
theorem dX11_number_39 : decode cX11_number 39 = .ok (.ifCond .ne 14, 3) := dk_154 hN_cX11_number rfl rfl rfl
theorem dX11_number_53 : decode cX11_number 53 = .ok (.aload_n 0, 1) := dk_42 hN_cX11_number rfl rfl
theorem dX11_number_54 : decode cX11_number 54 = .ok (.invokevirtual 128, 3) := dk_182 hN_cX11_number rfl rfl rfl
theorem dX11_number_57 : decode cX11_number 57 = .ok (.iload_n 3, 1) := dk_29 hN_cX11_number rfl rfl
theorem dX11_number_58 : decode cX11_number 58 = .ok (.ireturn, 1) := dk_172 hN_cX11_number rfl rfl
theorem dX11_number_42 : decode cX11_number 42 = .ok (.aload_n 0, 1) := dk_42 hN_cX11_number rfl rfl
theorem dX11_number_43 : decode cX11_number 43 = .ok (.iconst 4, 1) := dk_7 hN_cX11_number rfl rfl
theorem dX11_number_44 : decode cX11_number 44 = .ok (.aload_n 0, 1) := dk_42 hN_cX11_number rfl rfl
theorem dX11_number_45 : decode cX11_number 45 = .ok (.getfield 88, 3) := dk_180 hN_cX11_number rfl rfl rfl
theorem dX11_number_48 : decode cX11_number 48 = .ok (.invokevirtual 134, 3) := dk_182 hN_cX11_number rfl rfl rfl
theorem dX11_number_51 : decode cX11_number 51 = .ok (.iload_n 1, 1) := dk_27 hN_cX11_number rfl rfl
theorem dX11_number_52 : decode cX11_number 52 = .ok (.ireturn, 1) := dk_172 hN_cX11_number rfl rfl
theorem dX11_number_17 : decode cX11_number 17 = .ok (.aload_n 0, 1) := dk_42 hN_cX11_number rfl rfl
theorem dX11_number_18 : decode cX11_number 18 = .ok (.iconst 1, 1) := dk_4 hN_cX11_number rfl rfl
theorem dX11_number_19 : decode cX11_number 19 = .ok (.aload_n 0, 1) := dk_42 hN_cX11_number rfl rfl
theorem dX11_number_20 : decode cX11_number 20 = .ok (.getfield 88, 3) := dk_180 hN_cX11_number rfl rfl rfl
theorem dX11_number_23 : decode cX11_number 23 = .ok (.invokevirtual 134, 3) := dk_182 hN_cX11_number rfl rfl rfl
theorem dX11_number_26 : decode cX11_number 26 = .ok (.iload_n 1, 1) := dk_27 hN_cX11_number rfl rfl
theorem dX11_number_27 : decode cX11_number 27 = .ok (.ireturn, 1) := dk_172 hN_cX11_number rfl rfl
theorem dX11_number_7 : decode cX11_number 7 = .ok (.iload_n 1, 1) := dk_27 hN_cX11_number rfl rfl
theorem dX11_number_8 : decode cX11_number 8 = .ok (.ireturn, 1) := dk_172 hN_cX11_number rfl rfl
theorem dX11_comma_0 : decode cX11_comma 0 = .ok (.aload_n 0, 1) := dk_42 hN_cX11_comma rfl rfl
theorem dX11_comma_1 : decode cX11_comma 1 = .ok (.getfield 107, 3) := dk_180 hN_cX11_comma rfl rfl rfl
theorem dX11_comma_4 : decode cX11_comma 4 = .ok (.ifCond .ne 12, 3) := dk_154 hN_cX11_comma rfl rfl rfl
theorem dX11_comma_16 : decode cX11_comma 16 = .ok (.iconst 0, 1) := dk_3 hN_cX11_comma rfl rfl
theorem dX11_comma_17 : decode cX11_comma 17 = .ok (.ireturn, 1) := dk_172 hN_cX11_comma rfl rfl
theorem dX11_comma_7 : decode cX11_comma 7 = .ok (.aload_n 0, 1) := dk_42 hN_cX11_comma rfl rfl
theorem dX11_comma_8 : decode cX11_comma 8 = .ok (.getfield 97, 3) := dk_180 hN_cX11_comma rfl rfl rfl
theorem dX11_comma_11 : decode cX11_comma 11 = .ok (.bipush 44, 2) := dk_16 hN_cX11_comma rfl rfl rfl
theorem dX11_comma_13 : decode cX11_comma 13 = .ok (.if_icmp .eq 5, 3) := dk_159 hN_cX11_comma rfl rfl rfl
theorem dX11_comma_18 : decode cX11_comma 18 = .ok (.aload_n 0, 1) := dk_42 hN_cX11_comma rfl rfl
theorem dX11_comma_19 : decode cX11_comma 19 = .ok (.invokevirtual 128, 3) := dk_182 hN_cX11_comma rfl rfl rfl
theorem dX11_comma_22 : decode cX11_comma 22 = .ok (.iconst 1, 1) := dk_4 hN_cX11_comma rfl rfl
theorem dX11_comma_23 : decode cX11_comma 23 = .ok (.ireturn, 1) := dk_172 hN_cX11_comma rfl rfl
theorem dX11_mustComma_0 : decode cX11_mustComma 0 = .ok (.aload_n 0, 1) := dk_42 hN_cX11_mustComma rfl rfl
theorem dX11_mustComma_1 : decode cX11_mustComma 1 = .ok (.getfield 107, 3) := dk_180 hN_cX11_mustComma rfl rfl rfl
theorem dX11_mustComma_4 : decode cX11_mustComma 4 = .ok (.ifCond .ne 19, 3) := dk_154 hN_cX11_mustComma rfl rfl rfl
theorem dX11_mustComma_23 : decode cX11_mustComma 23 = .ok (.return_, 1) := dk_177 hN_cX11_mustComma rfl rfl
theorem dX11_mustComma_7 : decode cX11_mustComma 7 = .ok (.aload_n 0, 1) := dk_42 hN_cX11_mustComma rfl rfl
theorem dX11_mustComma_8 : decode cX11_mustComma 8 = .ok (.invokevirtual 158, 3) := dk_182 hN_cX11_mustComma rfl rfl rfl
theorem dX11_mustComma_11 : decode cX11_mustComma 11 = .ok (.ifCond .ne 12, 3) := dk_154 hN_cX11_mustComma rfl rfl rfl
theorem dX11_mustComma_14 : decode cX11_mustComma 14 = .ok (.aload_n 0, 1) := dk_42 hN_cX11_mustComma rfl rfl
theorem dX11_mustComma_15 : decode cX11_mustComma 15 = .ok (.iconst 1, 1) := dk_4 hN_cX11_mustComma rfl rfl
theorem dX11_mustComma_16 : decode cX11_mustComma 16 = .ok (.aload_n 0, 1) := dk_42 hN_cX11_mustComma rfl rfl
theorem dX11_mustComma_17 : decode cX11_mustComma 17 = .ok (.getfield 88, 3) := dk_180 hN_cX11_mustComma rfl rfl rfl
theorem dX11_mustComma_20 : decode cX11_mustComma 20 = .ok (.invokevirtual 134, 3) := dk_182 hN_cX11_mustComma rfl rfl rfl
theorem dX11_book_0 : decode cX11_book 0 = .ok (.aload_n 0, 1) := dk_42 hN_cX11_book rfl rfl
theorem dX11_book_1 : decode cX11_book 1 = .ok (.invokevirtual 174, 3) := dk_182 hN_cX11_book rfl rfl rfl
theorem dX11_book_4 : decode cX11_book 4 = .ok (.iload_n 1, 1) := dk_27 hN_cX11_book rfl rfl
theorem dX11_book_5 : decode cX11_book 5 = .ok (.iconst 0, 1) := dk_3 hN_cX11_book rfl rfl
theorem dX11_book_6 : decode cX11_book 6 = .ok (.aload_n 0, 1) := dk_42 hN_cX11_book rfl rfl
theorem dX11_book_7 : decode cX11_book 7 = .ok (.getfield 75, 3) := dk_180 hN_cX11_book rfl rfl rfl
theorem dX11_book_10 : decode cX11_book 10 = .ok (.invokestatic 170, 3) := dk_184 hN_cX11_book rfl rfl rfl
theorem dX11_book_13 : decode cX11_book 13 = .ok (.ifCond .ne 9, 3) := dk_154 hN_cX11_book rfl rfl rfl
theorem dX11_book_22 : decode cX11_book 22 = .ok (.aload_n 0, 1) := dk_42 hN_cX11_book rfl rfl
theorem dX11_book_23 : decode cX11_book 23 = .ok (.iconst 0, 1) := dk_3 hN_cX11_book rfl rfl
theorem dX11_book_24 : decode cX11_book 24 = .ok (.putfield 75, 3) := dk_181 hN_cX11_book rfl rfl rfl
theorem dX11_book_27 : decode cX11_book 27 = .ok (.aload_n 0, 1) := dk_42 hN_cX11_book rfl rfl
theorem dX11_book_28 : decode cX11_book 28 = .ok (.iconst 0, 1) := dk_3 hN_cX11_book rfl rfl
theorem dX11_book_29 : decode cX11_book 29 = .ok (.putfield 111, 3) := dk_181 hN_cX11_book rfl rfl rfl
theorem dX11_book_32 : decode cX11_book 32 = .ok (.aload_n 0, 1) := dk_42 hN_cX11_book rfl rfl
theorem dX11_book_33 : decode cX11_book 33 = .ok (.iconst 0, 1) := dk_3 hN_cX11_book rfl rfl
theorem dX11_book_34 : decode cX11_book 34 = .ok (.putfield 107, 3) := dk_181 hN_cX11_book rfl rfl rfl
theorem dX11_book_37 : decode cX11_book 37 = .ok (.iconst 0, 1) := dk_3 hN_cX11_book rfl rfl
theorem dX11_book_38 : decode cX11_book 38 = .ok (.istore_n 2, 1) := dk_61 hN_cX11_book rfl rfl
theorem dX11_book_16 : decode cX11_book 16 = .ok (.aload_n 0, 1) := dk_42 hN_cX11_book rfl rfl
theorem dX11_book_17 : decode cX11_book 17 = .ok (.iconst 2, 1) := dk_5 hN_cX11_book rfl rfl
theorem dX11_book_18 : decode cX11_book 18 = .ok (.invokevirtual 177, 3) := dk_182 hN_cX11_book rfl rfl rfl
theorem dX11_book_21 : decode cX11_book 21 = .ok (.ireturn, 1) := dk_172 hN_cX11_book rfl rfl
theorem dX11_book_39 : decode cX11_book 39 = .ok (.iload_n 2, 1) := dk_28 hN_cX11_book rfl rfl
theorem dX11_book_40 : decode cX11_book 40 = .ok (.sipush 346, 3) := dk_17 hN_cX11_book rfl rfl rfl
theorem dX11_book_43 : decode cX11_book 43 = .ok (.if_icmp .ge 16, 3) := dk_162 hN_cX11_book rfl rfl rfl
theorem dX11_book_59 : decode cX11_book 59 = .ok (.aload_n 0, 1) := dk_42 hN_cX11_book rfl rfl
theorem dX11_book_60 : decode cX11_book 60 = .ok (.iload_n 1, 1) := dk_27 hN_cX11_book rfl rfl
theorem dX11_book_61 : decode cX11_book 61 = .ok (.putfield 78, 3) := dk_181 hN_cX11_book rfl rfl rfl
theorem dX11_book_64 : decode cX11_book 64 = .ok (.aload_n 0, 1) := dk_42 hN_cX11_book rfl rfl
theorem dX11_book_65 : decode cX11_book 65 = .ok (.iconst 0, 1) := dk_3 hN_cX11_book rfl rfl
theorem dX11_book_66 : decode cX11_book 66 = .ok (.putfield 81, 3) := dk_181 hN_cX11_book rfl rfl rfl
theorem dX11_book_69 : decode cX11_book 69 = .ok (.aload_n 0, 1) := dk_42 hN_cX11_book rfl rfl
theorem dX11_book_70 : decode cX11_book 70 = .ok (.invokevirtual 128, 3) := dk_182 hN_cX11_book rfl rfl rfl
theorem dX11_book_73 : decode cX11_book 73 = .ok (.aload_n 0, 1) := dk_42 hN_cX11_book rfl rfl
theorem dX11_book_74 : decode cX11_book 74 = .ok (.invokevirtual 180, 3) := dk_182 hN_cX11_book rfl rfl rfl
theorem dX11_book_46 : decode cX11_book 46 = .ok (.aload_n 0, 1) := dk_42 hN_cX11_book rfl rfl
theorem dX11_book_47 : decode cX11_book 47 = .ok (.getfield 23, 3) := dk_180 hN_cX11_book rfl rfl rfl
theorem dX11_book_50 : decode cX11_book 50 = .ok (.iload_n 2, 1) := dk_28 hN_cX11_book rfl rfl
theorem dX11_book_51 : decode cX11_book 51 = .ok (.iconst 0, 1) := dk_3 hN_cX11_book rfl rfl
theorem dX11_book_52 : decode cX11_book 52 = .ok (.iastore, 1) := dk_79 hN_cX11_book rfl rfl
theorem dX11_book_53 : decode cX11_book 53 = .ok (.iinc 2 1, 3) := dk_132 hN_cX11_book rfl rfl rfl rfl
theorem dX11_book_56 : decode cX11_book 56 = .ok (.goto (-17), 3) := dk_167 hN_cX11_book rfl rfl rfl
theorem dX11_book_77 : decode cX11_book 77 = .ok (.aload_n 0, 1) := dk_42 hN_cX11_book rfl rfl
theorem dX11_book_78 : decode cX11_book 78 = .ok (.getfield 107, 3) := dk_180 hN_cX11_book rfl rfl rfl
theorem dX11_book_81 : decode cX11_book 81 = .ok (.ifCond .ne 23, 3) := dk_154 hN_cX11_book rfl rfl rfl
theorem dX11_book_104 : decode cX11_book 104 = .ok (.aload_n 0, 1) := dk_42 hN_cX11_book rfl rfl
theorem dX11_book_105 : decode cX11_book 105 = .ok (.getfield 107, 3) := dk_180 hN_cX11_book rfl rfl rfl
theorem dX11_book_108 : decode cX11_book 108 = .ok (.ifCond .ne 19, 3) := dk_154 hN_cX11_book rfl rfl rfl
theorem dX11_book_127 : decode cX11_book 127 = .ok (.aload_n 0, 1) := dk_42 hN_cX11_book rfl rfl
theorem dX11_book_128 : decode cX11_book 128 = .ok (.getfield 107, 3) := dk_180 hN_cX11_book rfl rfl rfl
theorem dX11_book_131 : decode cX11_book 131 = .ok (.ifCond .ne 33, 3) := dk_154 hN_cX11_book rfl rfl rfl
theorem dX11_book_164 : decode cX11_book 164 = .ok (.aload_n 0, 1) := dk_42 hN_cX11_book rfl rfl
theorem dX11_book_165 : decode cX11_book 165 = .ok (.getfield 107, 3) := dk_180 hN_cX11_book rfl rfl rfl
theorem dX11_book_168 : decode cX11_book 168 = .ok (.ifCond .eq 9, 3) := dk_153 hN_cX11_book rfl rfl rfl
theorem dX11_book_177 : decode cX11_book 177 = .ok (.iconst 0, 1) := dk_3 hN_cX11_book rfl rfl
theorem dX11_book_178 : decode cX11_book 178 = .ok (.istore_n 2, 1) := dk_61 hN_cX11_book rfl rfl
theorem dX11_book_171 : decode cX11_book 171 = .ok (.aload_n 0, 1) := dk_42 hN_cX11_book rfl rfl
theorem dX11_book_172 : decode cX11_book 172 = .ok (.iconst 4, 1) := dk_7 hN_cX11_book rfl rfl
theorem dX11_book_173 : decode cX11_book 173 = .ok (.invokevirtual 177, 3) := dk_182 hN_cX11_book rfl rfl rfl
theorem dX11_book_176 : decode cX11_book 176 = .ok (.ireturn, 1) := dk_172 hN_cX11_book rfl rfl
theorem dX11_book_134 : decode cX11_book 134 = .ok (.aload_n 0, 1) := dk_42 hN_cX11_book rfl rfl
theorem dX11_book_135 : decode cX11_book 135 = .ok (.getfield 23, 3) := dk_180 hN_cX11_book rfl rfl rfl
theorem dX11_book_138 : decode cX11_book 138 = .ok (.bipush 49, 2) := dk_16 hN_cX11_book rfl rfl rfl
theorem dX11_book_140 : decode cX11_book 140 = .ok (.iaload, 1) := dk_46 hN_cX11_book rfl rfl
theorem dX11_book_141 : decode cX11_book 141 = .ok (.ifCond .eq 13, 3) := dk_153 hN_cX11_book rfl rfl rfl
theorem dX11_book_154 : decode cX11_book 154 = .ok (.aload_n 0, 1) := dk_42 hN_cX11_book rfl rfl
theorem dX11_book_155 : decode cX11_book 155 = .ok (.bipush 6, 2) := dk_16 hN_cX11_book rfl rfl rfl
theorem dX11_book_157 : decode cX11_book 157 = .ok (.aload_n 0, 1) := dk_42 hN_cX11_book rfl rfl
theorem dX11_book_158 : decode cX11_book 158 = .ok (.getfield 88, 3) := dk_180 hN_cX11_book rfl rfl rfl
theorem dX11_book_161 : decode cX11_book 161 = .ok (.invokevirtual 134, 3) := dk_182 hN_cX11_book rfl rfl rfl
theorem dX11_book_144 : decode cX11_book 144 = .ok (.aload_n 0, 1) := dk_42 hN_cX11_book rfl rfl
theorem dX11_book_145 : decode cX11_book 145 = .ok (.getfield 23, 3) := dk_180 hN_cX11_book rfl rfl rfl
theorem dX11_book_148 : decode cX11_book 148 = .ok (.bipush 50, 2) := dk_16 hN_cX11_book rfl rfl rfl
theorem dX11_book_150 : decode cX11_book 150 = .ok (.iaload, 1) := dk_46 hN_cX11_book rfl rfl
theorem dX11_book_151 : decode cX11_book 151 = .ok (.ifCond .ne 13, 3) := dk_154 hN_cX11_book rfl rfl rfl
theorem dX11_book_111 : decode cX11_book 111 = .ok (.aload_n 0, 1) := dk_42 hN_cX11_book rfl rfl
theorem dX11_book_112 : decode cX11_book 112 = .ok (.getfield 97, 3) := dk_180 hN_cX11_book rfl rfl rfl
theorem dX11_book_115 : decode cX11_book 115 = .ok (.ifCond .eq 12, 3) := dk_153 hN_cX11_book rfl rfl rfl
theorem dX11_book_118 : decode cX11_book 118 = .ok (.aload_n 0, 1) := dk_42 hN_cX11_book rfl rfl
theorem dX11_book_119 : decode cX11_book 119 = .ok (.iconst 1, 1) := dk_4 hN_cX11_book rfl rfl
theorem dX11_book_120 : decode cX11_book 120 = .ok (.aload_n 0, 1) := dk_42 hN_cX11_book rfl rfl
theorem dX11_book_121 : decode cX11_book 121 = .ok (.getfield 88, 3) := dk_180 hN_cX11_book rfl rfl rfl
theorem dX11_book_124 : decode cX11_book 124 = .ok (.invokevirtual 134, 3) := dk_182 hN_cX11_book rfl rfl rfl
theorem dX11_book_84 : decode cX11_book 84 = .ok (.aload_n 0, 1) := dk_42 hN_cX11_book rfl rfl
theorem dX11_book_85 : decode cX11_book 85 = .ok (.getfield 97, 3) := dk_180 hN_cX11_book rfl rfl rfl
theorem dX11_book_88 : decode cX11_book 88 = .ok (.bipush 59, 2) := dk_16 hN_cX11_book rfl rfl rfl
theorem dX11_book_90 : decode cX11_book 90 = .ok (.if_icmp .ne 14, 3) := dk_160 hN_cX11_book rfl rfl rfl
theorem dX11_book_93 : decode cX11_book 93 = .ok (.aload_n 0, 1) := dk_42 hN_cX11_book rfl rfl
theorem dX11_book_94 : decode cX11_book 94 = .ok (.invokevirtual 128, 3) := dk_182 hN_cX11_book rfl rfl rfl
theorem dX11_book_97 : decode cX11_book 97 = .ok (.aload_n 0, 1) := dk_42 hN_cX11_book rfl rfl
theorem dX11_book_98 : decode cX11_book 98 = .ok (.invokevirtual 180, 3) := dk_182 hN_cX11_book rfl rfl rfl
theorem dX11_book_101 : decode cX11_book 101 = .ok (.goto (-24), 3) := dk_167 hN_cX11_book rfl rfl rfl
theorem dX11_book_179 : decode cX11_book 179 = .ok (.iload_n 2, 1) := dk_28 hN_cX11_book rfl rfl
theorem dX11_book_180 : decode cX11_book 180 = .ok (.sipush 346, 3) := dk_17 hN_cX11_book rfl rfl rfl
theorem dX11_book_183 : decode cX11_book 183 = .ok (.if_icmp .ge 21, 3) := dk_162 hN_cX11_book rfl rfl rfl
theorem dX11_book_204 : decode cX11_book 204 = .ok (.aload_n 0, 1) := dk_42 hN_cX11_book rfl rfl
theorem dX11_book_205 : decode cX11_book 205 = .ok (.iconst 1, 1) := dk_4 hN_cX11_book rfl rfl
theorem dX11_book_206 : decode cX11_book 206 = .ok (.putfield 183, 3) := dk_181 hN_cX11_book rfl rfl rfl
theorem dX11_book_209 : decode cX11_book 209 = .ok (.aload_n 0, 1) := dk_42 hN_cX11_book rfl rfl
theorem dX11_book_210 : decode cX11_book 210 = .ok (.invokevirtual 186, 3) := dk_182 hN_cX11_book rfl rfl rfl
theorem dX11_book_213 : decode cX11_book 213 = .ok (.aload_n 0, 1) := dk_42 hN_cX11_book rfl rfl
theorem dX11_book_214 : decode cX11_book 214 = .ok (.iconst 0, 1) := dk_3 hN_cX11_book rfl rfl
theorem dX11_book_215 : decode cX11_book 215 = .ok (.putfield 189, 3) := dk_181 hN_cX11_book rfl rfl rfl
theorem dX11_book_218 : decode cX11_book 218 = .ok (.aload_n 0, 1) := dk_42 hN_cX11_book rfl rfl
theorem dX11_book_219 : decode cX11_book 219 = .ok (.iconst 0, 1) := dk_3 hN_cX11_book rfl rfl
theorem dX11_book_220 : decode cX11_book 220 = .ok (.putfield 192, 3) := dk_181 hN_cX11_book rfl rfl rfl
theorem dX11_book_223 : decode cX11_book 223 = .ok (.aload_n 0, 1) := dk_42 hN_cX11_book rfl rfl
theorem dX11_book_224 : decode cX11_book 224 = .ok (.iconst 0, 1) := dk_3 hN_cX11_book rfl rfl
theorem dX11_book_225 : decode cX11_book 225 = .ok (.putfield 195, 3) := dk_181 hN_cX11_book rfl rfl rfl
theorem dX11_book_228 : decode cX11_book 228 = .ok (.aload_n 0, 1) := dk_42 hN_cX11_book rfl rfl
theorem dX11_book_229 : decode cX11_book 229 = .ok (.getfield 20, 3) := dk_180 hN_cX11_book rfl rfl rfl
theorem dX11_book_232 : decode cX11_book 232 = .ok (.bipush 50, 2) := dk_16 hN_cX11_book rfl rfl rfl
theorem dX11_book_234 : decode cX11_book 234 = .ok (.iaload, 1) := dk_46 hN_cX11_book rfl rfl
theorem dX11_book_235 : decode cX11_book 235 = .ok (.ireturn, 1) := dk_172 hN_cX11_book rfl rfl
theorem dX11_book_186 : decode cX11_book 186 = .ok (.aload_n 0, 1) := dk_42 hN_cX11_book rfl rfl
theorem dX11_book_187 : decode cX11_book 187 = .ok (.getfield 20, 3) := dk_180 hN_cX11_book rfl rfl rfl
theorem dX11_book_190 : decode cX11_book 190 = .ok (.iload_n 2, 1) := dk_28 hN_cX11_book rfl rfl
theorem dX11_book_191 : decode cX11_book 191 = .ok (.aload_n 0, 1) := dk_42 hN_cX11_book rfl rfl
theorem dX11_book_192 : decode cX11_book 192 = .ok (.getfield 23, 3) := dk_180 hN_cX11_book rfl rfl rfl
theorem dX11_book_195 : decode cX11_book 195 = .ok (.iload_n 2, 1) := dk_28 hN_cX11_book rfl rfl
theorem dX11_book_196 : decode cX11_book 196 = .ok (.iaload, 1) := dk_46 hN_cX11_book rfl rfl
theorem dX11_book_197 : decode cX11_book 197 = .ok (.iastore, 1) := dk_79 hN_cX11_book rfl rfl
theorem dX11_book_198 : decode cX11_book 198 = .ok (.iinc 2 1, 3) := dk_132 hN_cX11_book rfl rfl rfl rfl
theorem dX11_book_201 : decode cX11_book 201 = .ok (.goto (-22), 3) := dk_167 hN_cX11_book rfl rfl rfl
theorem dX11_noCoins_0 : decode cX11_noCoins 0 = .ok (.iconst 0, 1) := dk_3 hN_cX11_noCoins rfl rfl
theorem dX11_noCoins_1 : decode cX11_noCoins 1 = .ok (.istore_n 1, 1) := dk_60 hN_cX11_noCoins rfl rfl
theorem dX11_noCoins_2 : decode cX11_noCoins 2 = .ok (.iload_n 1, 1) := dk_27 hN_cX11_noCoins rfl rfl
theorem dX11_noCoins_3 : decode cX11_noCoins 3 = .ok (.bipush 32, 2) := dk_16 hN_cX11_noCoins rfl rfl rfl
theorem dX11_noCoins_5 : decode cX11_noCoins 5 = .ok (.if_icmp .ge 16, 3) := dk_162 hN_cX11_noCoins rfl rfl rfl
theorem dX11_noCoins_21 : decode cX11_noCoins 21 = .ok (.return_, 1) := dk_177 hN_cX11_noCoins rfl rfl
theorem dX11_noCoins_8 : decode cX11_noCoins 8 = .ok (.aload_n 0, 1) := dk_42 hN_cX11_noCoins rfl rfl
theorem dX11_noCoins_9 : decode cX11_noCoins 9 = .ok (.getfield 26, 3) := dk_180 hN_cX11_noCoins rfl rfl rfl
theorem dX11_noCoins_12 : decode cX11_noCoins 12 = .ok (.iload_n 1, 1) := dk_27 hN_cX11_noCoins rfl rfl
theorem dX11_noCoins_13 : decode cX11_noCoins 13 = .ok (.iconst 0, 1) := dk_3 hN_cX11_noCoins rfl rfl
theorem dX11_noCoins_14 : decode cX11_noCoins 14 = .ok (.iastore, 1) := dk_79 hN_cX11_noCoins rfl rfl
theorem dX11_noCoins_15 : decode cX11_noCoins 15 = .ok (.iinc 1 1, 3) := dk_132 hN_cX11_noCoins rfl rfl rfl rfl
theorem dX11_noCoins_18 : decode cX11_noCoins 18 = .ok (.goto (-16), 3) := dk_167 hN_cX11_noCoins rfl rfl rfl
theorem dX11_begins_0 : decode cX11_begins 0 = .ok (.aload_n 0, 1) := dk_42 hN_cX11_begins rfl rfl
theorem dX11_begins_1 : decode cX11_begins 1 = .ok (.aload_n 1, 1) := dk_43 hN_cX11_begins rfl rfl
theorem dX11_begins_2 : decode cX11_begins 2 = .ok (.invokevirtual 124, 3) := dk_182 hN_cX11_begins rfl rfl rfl
theorem dX11_begins_5 : decode cX11_begins 5 = .ok (.ifCond .ne 5, 3) := dk_154 hN_cX11_begins rfl rfl rfl
theorem dX11_begins_10 : decode cX11_begins 10 = .ok (.iload_n 2, 1) := dk_28 hN_cX11_begins rfl rfl
theorem dX11_begins_11 : decode cX11_begins 11 = .ok (.ifCond .ne 12, 3) := dk_154 hN_cX11_begins rfl rfl rfl
theorem dX11_begins_23 : decode cX11_begins 23 = .ok (.aload_n 0, 1) := dk_42 hN_cX11_begins rfl rfl
theorem dX11_begins_24 : decode cX11_begins 24 = .ok (.getfield 107, 3) := dk_180 hN_cX11_begins rfl rfl rfl
theorem dX11_begins_27 : decode cX11_begins 27 = .ok (.ifCond .ne 7, 3) := dk_154 hN_cX11_begins rfl rfl rfl
theorem dX11_begins_34 : decode cX11_begins 34 = .ok (.iconst 1, 1) := dk_4 hN_cX11_begins rfl rfl
theorem dX11_begins_35 : decode cX11_begins 35 = .ok (.ireturn, 1) := dk_172 hN_cX11_begins rfl rfl
theorem dX11_begins_30 : decode cX11_begins 30 = .ok (.aload_n 0, 1) := dk_42 hN_cX11_begins rfl rfl
theorem dX11_begins_31 : decode cX11_begins 31 = .ok (.invokevirtual 128, 3) := dk_182 hN_cX11_begins rfl rfl rfl
theorem dX11_begins_14 : decode cX11_begins 14 = .ok (.aload_n 0, 1) := dk_42 hN_cX11_begins rfl rfl
theorem dX11_begins_15 : decode cX11_begins 15 = .ok (.iload_n 3, 1) := dk_29 hN_cX11_begins rfl rfl
theorem dX11_begins_16 : decode cX11_begins 16 = .ok (.aload_n 0, 1) := dk_42 hN_cX11_begins rfl rfl
theorem dX11_begins_17 : decode cX11_begins 17 = .ok (.getfield 88, 3) := dk_180 hN_cX11_begins rfl rfl rfl
theorem dX11_begins_20 : decode cX11_begins 20 = .ok (.invokevirtual 134, 3) := dk_182 hN_cX11_begins rfl rfl rfl
theorem dX11_begins_8 : decode cX11_begins 8 = .ok (.iconst 0, 1) := dk_3 hN_cX11_begins rfl rfl
theorem dX11_begins_9 : decode cX11_begins 9 = .ok (.ireturn, 1) := dk_172 hN_cX11_begins rfl rfl
theorem dX11_readLine_0 : decode cX11_readLine 0 = .ok (.aload_n 0, 1) := dk_42 hN_cX11_readLine rfl rfl
theorem dX11_readLine_1 : decode cX11_readLine 1 = .ok (.ldc 138, 2) := dk_18 hN_cX11_readLine rfl rfl rfl
theorem dX11_readLine_3 : decode cX11_readLine 3 = .ok (.aload_n 0, 1) := dk_42 hN_cX11_readLine rfl rfl
theorem dX11_readLine_4 : decode cX11_readLine 4 = .ok (.getfield 23, 3) := dk_180 hN_cX11_readLine rfl rfl rfl
theorem dX11_readLine_7 : decode cX11_readLine 7 = .ok (.bipush 49, 2) := dk_16 hN_cX11_readLine rfl rfl rfl
theorem dX11_readLine_9 : decode cX11_readLine 9 = .ok (.iaload, 1) := dk_46 hN_cX11_readLine rfl rfl
theorem dX11_readLine_10 : decode cX11_readLine 10 = .ok (.ifCond .ne 7, 3) := dk_154 hN_cX11_readLine rfl rfl rfl
theorem dX11_readLine_17 : decode cX11_readLine 17 = .ok (.iconst 0, 1) := dk_3 hN_cX11_readLine rfl rfl
theorem dX11_readLine_18 : decode cX11_readLine 18 = .ok (.iconst 3, 1) := dk_6 hN_cX11_readLine rfl rfl
theorem dX11_readLine_19 : decode cX11_readLine 19 = .ok (.invokevirtual 198, 3) := dk_182 hN_cX11_readLine rfl rfl rfl
theorem dX11_readLine_22 : decode cX11_readLine 22 = .ok (.ifCond .eq 10, 3) := dk_153 hN_cX11_readLine rfl rfl rfl
theorem dX11_readLine_32 : decode cX11_readLine 32 = .ok (.aload_n 0, 1) := dk_42 hN_cX11_readLine rfl rfl
theorem dX11_readLine_33 : decode cX11_readLine 33 = .ok (.ldc 140, 2) := dk_18 hN_cX11_readLine rfl rfl rfl
theorem dX11_readLine_35 : decode cX11_readLine 35 = .ok (.iconst 1, 1) := dk_4 hN_cX11_readLine rfl rfl
theorem dX11_readLine_36 : decode cX11_readLine 36 = .ok (.iconst 1, 1) := dk_4 hN_cX11_readLine rfl rfl
theorem dX11_readLine_37 : decode cX11_readLine 37 = .ok (.invokevirtual 198, 3) := dk_182 hN_cX11_readLine rfl rfl rfl
theorem dX11_readLine_40 : decode cX11_readLine 40 = .ok (.ifCond .eq 15, 3) := dk_153 hN_cX11_readLine rfl rfl rfl
theorem dX11_readLine_55 : decode cX11_readLine 55 = .ok (.aload_n 0, 1) := dk_42 hN_cX11_readLine rfl rfl
theorem dX11_readLine_56 : decode cX11_readLine 56 = .ok (.ldc 142, 2) := dk_18 hN_cX11_readLine rfl rfl rfl
theorem dX11_readLine_58 : decode cX11_readLine 58 = .ok (.iconst 1, 1) := dk_4 hN_cX11_readLine rfl rfl
theorem dX11_readLine_59 : decode cX11_readLine 59 = .ok (.iconst 1, 1) := dk_4 hN_cX11_readLine rfl rfl
theorem dX11_readLine_60 : decode cX11_readLine 60 = .ok (.invokevirtual 198, 3) := dk_182 hN_cX11_readLine rfl rfl rfl
theorem dX11_readLine_63 : decode cX11_readLine 63 = .ok (.ifCond .eq 16, 3) := dk_153 hN_cX11_readLine rfl rfl rfl
theorem dX11_readLine_79 : decode cX11_readLine 79 = .ok (.aload_n 0, 1) := dk_42 hN_cX11_readLine rfl rfl
theorem dX11_readLine_80 : decode cX11_readLine 80 = .ok (.ldc 144, 2) := dk_18 hN_cX11_readLine rfl rfl rfl
theorem dX11_readLine_82 : decode cX11_readLine 82 = .ok (.invokevirtual 124, 3) := dk_182 hN_cX11_readLine rfl rfl rfl
theorem dX11_readLine_85 : decode cX11_readLine 85 = .ok (.ifCond .eq 10, 3) := dk_153 hN_cX11_readLine rfl rfl rfl
theorem dX11_readLine_95 : decode cX11_readLine 95 = .ok (.aload_n 0, 1) := dk_42 hN_cX11_readLine rfl rfl
theorem dX11_readLine_96 : decode cX11_readLine 96 = .ok (.ldc 146, 2) := dk_18 hN_cX11_readLine rfl rfl rfl
theorem dX11_readLine_98 : decode cX11_readLine 98 = .ok (.aload_n 0, 1) := dk_42 hN_cX11_readLine rfl rfl
theorem dX11_readLine_99 : decode cX11_readLine 99 = .ok (.getfield 23, 3) := dk_180 hN_cX11_readLine rfl rfl rfl
theorem dX11_readLine_102 : decode cX11_readLine 102 = .ok (.bipush 52, 2) := dk_16 hN_cX11_readLine rfl rfl rfl
theorem dX11_readLine_104 : decode cX11_readLine 104 = .ok (.iaload, 1) := dk_46 hN_cX11_readLine rfl rfl
theorem dX11_readLine_105 : decode cX11_readLine 105 = .ok (.bipush 8, 2) := dk_16 hN_cX11_readLine rfl rfl rfl
theorem dX11_readLine_107 : decode cX11_readLine 107 = .ok (.if_icmp .ge 7, 3) := dk_162 hN_cX11_readLine rfl rfl rfl
theorem dX11_readLine_114 : decode cX11_readLine 114 = .ok (.iconst 0, 1) := dk_3 hN_cX11_readLine rfl rfl
theorem dX11_readLine_115 : decode cX11_readLine 115 = .ok (.iconst 5, 1) := dk_8 hN_cX11_readLine rfl rfl
theorem dX11_readLine_116 : decode cX11_readLine 116 = .ok (.invokevirtual 198, 3) := dk_182 hN_cX11_readLine rfl rfl rfl
theorem dX11_readLine_119 : decode cX11_readLine 119 = .ok (.ifCond .eq 10, 3) := dk_153 hN_cX11_readLine rfl rfl rfl
theorem dX11_readLine_129 : decode cX11_readLine 129 = .ok (.aload_n 0, 1) := dk_42 hN_cX11_readLine rfl rfl
theorem dX11_readLine_130 : decode cX11_readLine 130 = .ok (.ldc 148, 2) := dk_18 hN_cX11_readLine rfl rfl rfl
theorem dX11_readLine_132 : decode cX11_readLine 132 = .ok (.aload_n 0, 1) := dk_42 hN_cX11_readLine rfl rfl
theorem dX11_readLine_133 : decode cX11_readLine 133 = .ok (.getfield 23, 3) := dk_180 hN_cX11_readLine rfl rfl rfl
theorem dX11_readLine_136 : decode cX11_readLine 136 = .ok (.bipush 85, 2) := dk_16 hN_cX11_readLine rfl rfl rfl
theorem dX11_readLine_138 : decode cX11_readLine 138 = .ok (.iaload, 1) := dk_46 hN_cX11_readLine rfl rfl
theorem dX11_readLine_139 : decode cX11_readLine 139 = .ok (.bipush 18, 2) := dk_16 hN_cX11_readLine rfl rfl rfl
theorem dX11_readLine_141 : decode cX11_readLine 141 = .ok (.if_icmp .ge 7, 3) := dk_162 hN_cX11_readLine rfl rfl rfl
theorem dX11_readLine_148 : decode cX11_readLine 148 = .ok (.iconst 0, 1) := dk_3 hN_cX11_readLine rfl rfl
theorem dX11_readLine_149 : decode cX11_readLine 149 = .ok (.iconst 5, 1) := dk_8 hN_cX11_readLine rfl rfl
theorem dX11_readLine_150 : decode cX11_readLine 150 = .ok (.invokevirtual 198, 3) := dk_182 hN_cX11_readLine rfl rfl rfl
theorem dX11_readLine_153 : decode cX11_readLine 153 = .ok (.ifCond .eq 10, 3) := dk_153 hN_cX11_readLine rfl rfl rfl
theorem dX11_readLine_163 : decode cX11_readLine 163 = .ok (.aload_n 0, 1) := dk_42 hN_cX11_readLine rfl rfl
theorem dX11_readLine_164 : decode cX11_readLine 164 = .ok (.ldc 150, 2) := dk_18 hN_cX11_readLine rfl rfl rfl
theorem dX11_readLine_166 : decode cX11_readLine 166 = .ok (.aload_n 0, 1) := dk_42 hN_cX11_readLine rfl rfl
theorem dX11_readLine_167 : decode cX11_readLine 167 = .ok (.getfield 23, 3) := dk_180 hN_cX11_readLine rfl rfl rfl
theorem dX11_readLine_170 : decode cX11_readLine 170 = .ok (.sipush 158, 3) := dk_17 hN_cX11_readLine rfl rfl rfl
theorem dX11_readLine_173 : decode cX11_readLine 173 = .ok (.iaload, 1) := dk_46 hN_cX11_readLine rfl rfl
theorem dX11_readLine_174 : decode cX11_readLine 174 = .ok (.iconst 4, 1) := dk_7 hN_cX11_readLine rfl rfl
theorem dX11_readLine_175 : decode cX11_readLine 175 = .ok (.if_icmp .ge 7, 3) := dk_162 hN_cX11_readLine rfl rfl rfl
theorem dX11_readLine_182 : decode cX11_readLine 182 = .ok (.iconst 0, 1) := dk_3 hN_cX11_readLine rfl rfl
theorem dX11_readLine_183 : decode cX11_readLine 183 = .ok (.iconst 5, 1) := dk_8 hN_cX11_readLine rfl rfl
theorem dX11_readLine_184 : decode cX11_readLine 184 = .ok (.invokevirtual 198, 3) := dk_182 hN_cX11_readLine rfl rfl rfl
theorem dX11_readLine_187 : decode cX11_readLine 187 = .ok (.ifCond .eq 10, 3) := dk_153 hN_cX11_readLine rfl rfl rfl
theorem dX11_readLine_197 : decode cX11_readLine 197 = .ok (.aload_n 0, 1) := dk_42 hN_cX11_readLine rfl rfl
theorem dX11_readLine_198 : decode cX11_readLine 198 = .ok (.iconst 1, 1) := dk_4 hN_cX11_readLine rfl rfl
theorem dX11_readLine_199 : decode cX11_readLine 199 = .ok (.aload_n 0, 1) := dk_42 hN_cX11_readLine rfl rfl
theorem dX11_readLine_200 : decode cX11_readLine 200 = .ok (.getfield 88, 3) := dk_180 hN_cX11_readLine rfl rfl rfl
theorem dX11_readLine_203 : decode cX11_readLine 203 = .ok (.invokevirtual 134, 3) := dk_182 hN_cX11_readLine rfl rfl rfl
theorem dX11_readLine_206 : decode cX11_readLine 206 = .ok (.return_, 1) := dk_177 hN_cX11_readLine rfl rfl
theorem dX11_readLine_190 : decode cX11_readLine 190 = .ok (.aload_n 0, 1) := dk_42 hN_cX11_readLine rfl rfl
theorem dX11_readLine_191 : decode cX11_readLine 191 = .ok (.invokevirtual 218, 3) := dk_182 hN_cX11_readLine rfl rfl rfl
theorem dX11_readLine_194 : decode cX11_readLine 194 = .ok (.goto 12, 3) := dk_167 hN_cX11_readLine rfl rfl rfl
theorem dX11_readLine_178 : decode cX11_readLine 178 = .ok (.iconst 1, 1) := dk_4 hN_cX11_readLine rfl rfl
theorem dX11_readLine_179 : decode cX11_readLine 179 = .ok (.goto 4, 3) := dk_167 hN_cX11_readLine rfl rfl rfl
theorem dX11_readLine_156 : decode cX11_readLine 156 = .ok (.aload_n 0, 1) := dk_42 hN_cX11_readLine rfl rfl
theorem dX11_readLine_157 : decode cX11_readLine 157 = .ok (.invokevirtual 215, 3) := dk_182 hN_cX11_readLine rfl rfl rfl
theorem dX11_readLine_160 : decode cX11_readLine 160 = .ok (.goto 46, 3) := dk_167 hN_cX11_readLine rfl rfl rfl
theorem dX11_readLine_144 : decode cX11_readLine 144 = .ok (.iconst 1, 1) := dk_4 hN_cX11_readLine rfl rfl
theorem dX11_readLine_145 : decode cX11_readLine 145 = .ok (.goto 4, 3) := dk_167 hN_cX11_readLine rfl rfl rfl
theorem dX11_readLine_122 : decode cX11_readLine 122 = .ok (.aload_n 0, 1) := dk_42 hN_cX11_readLine rfl rfl
theorem dX11_readLine_123 : decode cX11_readLine 123 = .ok (.invokevirtual 212, 3) := dk_182 hN_cX11_readLine rfl rfl rfl
theorem dX11_readLine_126 : decode cX11_readLine 126 = .ok (.goto 80, 3) := dk_167 hN_cX11_readLine rfl rfl rfl
theorem dX11_readLine_110 : decode cX11_readLine 110 = .ok (.iconst 1, 1) := dk_4 hN_cX11_readLine rfl rfl
theorem dX11_readLine_111 : decode cX11_readLine 111 = .ok (.goto 4, 3) := dk_167 hN_cX11_readLine rfl rfl rfl
theorem dX11_readLine_88 : decode cX11_readLine 88 = .ok (.aload_n 0, 1) := dk_42 hN_cX11_readLine rfl rfl
theorem dX11_readLine_89 : decode cX11_readLine 89 = .ok (.invokevirtual 209, 3) := dk_182 hN_cX11_readLine rfl rfl rfl
theorem dX11_readLine_92 : decode cX11_readLine 92 = .ok (.goto 114, 3) := dk_167 hN_cX11_readLine rfl rfl rfl
theorem dX11_readLine_66 : decode cX11_readLine 66 = .ok (.aload_n 0, 1) := dk_42 hN_cX11_readLine rfl rfl
theorem dX11_readLine_67 : decode cX11_readLine 67 = .ok (.bipush 51, 2) := dk_16 hN_cX11_readLine rfl rfl rfl
theorem dX11_readLine_69 : decode cX11_readLine 69 = .ok (.bipush 6, 2) := dk_16 hN_cX11_readLine rfl rfl rfl
theorem dX11_readLine_71 : decode cX11_readLine 71 = .ok (.bipush 9, 2) := dk_16 hN_cX11_readLine rfl rfl rfl
theorem dX11_readLine_73 : decode cX11_readLine 73 = .ok (.invokevirtual 205, 3) := dk_182 hN_cX11_readLine rfl rfl rfl
theorem dX11_readLine_76 : decode cX11_readLine 76 = .ok (.goto 130, 3) := dk_167 hN_cX11_readLine rfl rfl rfl
theorem dX11_readLine_43 : decode cX11_readLine 43 = .ok (.aload_n 0, 1) := dk_42 hN_cX11_readLine rfl rfl
theorem dX11_readLine_44 : decode cX11_readLine 44 = .ok (.bipush 50, 2) := dk_16 hN_cX11_readLine rfl rfl rfl
theorem dX11_readLine_46 : decode cX11_readLine 46 = .ok (.iconst 0, 1) := dk_3 hN_cX11_readLine rfl rfl
theorem dX11_readLine_47 : decode cX11_readLine 47 = .ok (.bipush 6, 2) := dk_16 hN_cX11_readLine rfl rfl rfl
theorem dX11_readLine_49 : decode cX11_readLine 49 = .ok (.invokevirtual 205, 3) := dk_182 hN_cX11_readLine rfl rfl rfl
theorem dX11_readLine_52 : decode cX11_readLine 52 = .ok (.goto 154, 3) := dk_167 hN_cX11_readLine rfl rfl rfl
theorem dX11_readLine_25 : decode cX11_readLine 25 = .ok (.aload_n 0, 1) := dk_42 hN_cX11_readLine rfl rfl
theorem dX11_readLine_26 : decode cX11_readLine 26 = .ok (.invokevirtual 202, 3) := dk_182 hN_cX11_readLine rfl rfl rfl
theorem dX11_readLine_29 : decode cX11_readLine 29 = .ok (.goto 177, 3) := dk_167 hN_cX11_readLine rfl rfl rfl
theorem dX11_readLine_13 : decode cX11_readLine 13 = .ok (.iconst 1, 1) := dk_4 hN_cX11_readLine rfl rfl
theorem dX11_readLine_14 : decode cX11_readLine 14 = .ok (.goto 4, 3) := dk_167 hN_cX11_readLine rfl rfl rfl
theorem dX11_lawLine_0 : decode cX11_lawLine 0 = .ok (.aload_n 0, 1) := dk_42 hN_cX11_lawLine rfl rfl
theorem dX11_lawLine_1 : decode cX11_lawLine 1 = .ok (.ldc 221, 2) := dk_18 hN_cX11_lawLine rfl rfl rfl
theorem dX11_lawLine_3 : decode cX11_lawLine 3 = .ok (.invokevirtual 223, 3) := dk_182 hN_cX11_lawLine rfl rfl rfl
theorem dX11_lawLine_6 : decode cX11_lawLine 6 = .ok (.aload_n 0, 1) := dk_42 hN_cX11_lawLine rfl rfl
theorem dX11_lawLine_7 : decode cX11_lawLine 7 = .ok (.iconst 1, 1) := dk_4 hN_cX11_lawLine rfl rfl
theorem dX11_lawLine_8 : decode cX11_lawLine 8 = .ok (.bipush 60, 2) := dk_16 hN_cX11_lawLine rfl rfl rfl
theorem dX11_lawLine_10 : decode cX11_lawLine 10 = .ok (.invokevirtual 227, 3) := dk_182 hN_cX11_lawLine rfl rfl rfl
theorem dX11_lawLine_13 : decode cX11_lawLine 13 = .ok (.istore_n 1, 1) := dk_60 hN_cX11_lawLine rfl rfl
theorem dX11_lawLine_14 : decode cX11_lawLine 14 = .ok (.aload_n 0, 1) := dk_42 hN_cX11_lawLine rfl rfl
theorem dX11_lawLine_15 : decode cX11_lawLine 15 = .ok (.getfield 107, 3) := dk_180 hN_cX11_lawLine rfl rfl rfl
theorem dX11_lawLine_18 : decode cX11_lawLine 18 = .ok (.ifCond .ne 11, 3) := dk_154 hN_cX11_lawLine rfl rfl rfl
theorem dX11_lawLine_29 : decode cX11_lawLine 29 = .ok (.return_, 1) := dk_177 hN_cX11_lawLine rfl rfl
theorem dX11_lawLine_21 : decode cX11_lawLine 21 = .ok (.aload_n 0, 1) := dk_42 hN_cX11_lawLine rfl rfl
theorem dX11_lawLine_22 : decode cX11_lawLine 22 = .ok (.getfield 23, 3) := dk_180 hN_cX11_lawLine rfl rfl rfl
theorem dX11_lawLine_25 : decode cX11_lawLine 25 = .ok (.bipush 49, 2) := dk_16 hN_cX11_lawLine rfl rfl rfl
theorem dX11_lawLine_27 : decode cX11_lawLine 27 = .ok (.iload_n 1, 1) := dk_27 hN_cX11_lawLine rfl rfl
theorem dX11_lawLine_28 : decode cX11_lawLine 28 = .ok (.iastore, 1) := dk_79 hN_cX11_lawLine rfl rfl
theorem dX11_setLine_0 : decode cX11_setLine 0 = .ok (.aload_n 0, 1) := dk_42 hN_cX11_setLine rfl rfl
theorem dX11_setLine_1 : decode cX11_setLine 1 = .ok (.getfield 23, 3) := dk_180 hN_cX11_setLine rfl rfl rfl
theorem dX11_setLine_4 : decode cX11_setLine 4 = .ok (.iconst 0, 1) := dk_3 hN_cX11_setLine rfl rfl
theorem dX11_setLine_5 : decode cX11_setLine 5 = .ok (.iaload, 1) := dk_46 hN_cX11_setLine rfl rfl
theorem dX11_setLine_6 : decode cX11_setLine 6 = .ok (.bipush 8, 2) := dk_16 hN_cX11_setLine rfl rfl rfl
theorem dX11_setLine_8 : decode cX11_setLine 8 = .ok (.if_icmp .ne 12, 3) := dk_160 hN_cX11_setLine rfl rfl rfl
theorem dX11_setLine_20 : decode cX11_setLine 20 = .ok (.aload_n 0, 1) := dk_42 hN_cX11_setLine rfl rfl
theorem dX11_setLine_21 : decode cX11_setLine 21 = .ok (.getfield 23, 3) := dk_180 hN_cX11_setLine rfl rfl rfl
theorem dX11_setLine_24 : decode cX11_setLine 24 = .ok (.bipush 49, 2) := dk_16 hN_cX11_setLine rfl rfl rfl
theorem dX11_setLine_26 : decode cX11_setLine 26 = .ok (.iaload, 1) := dk_46 hN_cX11_setLine rfl rfl
theorem dX11_setLine_27 : decode cX11_setLine 27 = .ok (.ifCond .ne 13, 3) := dk_154 hN_cX11_setLine rfl rfl rfl
theorem dX11_setLine_40 : decode cX11_setLine 40 = .ok (.aload_n 0, 1) := dk_42 hN_cX11_setLine rfl rfl
theorem dX11_setLine_41 : decode cX11_setLine 41 = .ok (.getfield 107, 3) := dk_180 hN_cX11_setLine rfl rfl rfl
theorem dX11_setLine_44 : decode cX11_setLine 44 = .ok (.ifCond .eq 4, 3) := dk_153 hN_cX11_setLine rfl rfl rfl
theorem dX11_setLine_48 : decode cX11_setLine 48 = .ok (.aload_n 0, 1) := dk_42 hN_cX11_setLine rfl rfl
theorem dX11_setLine_49 : decode cX11_setLine 49 = .ok (.invokevirtual 128, 3) := dk_182 hN_cX11_setLine rfl rfl rfl
theorem dX11_setLine_52 : decode cX11_setLine 52 = .ok (.aload_n 0, 1) := dk_42 hN_cX11_setLine rfl rfl
theorem dX11_setLine_53 : decode cX11_setLine 53 = .ok (.getfield 23, 3) := dk_180 hN_cX11_setLine rfl rfl rfl
theorem dX11_setLine_56 : decode cX11_setLine 56 = .ok (.iconst 0, 1) := dk_3 hN_cX11_setLine rfl rfl
theorem dX11_setLine_57 : decode cX11_setLine 57 = .ok (.iaload, 1) := dk_46 hN_cX11_setLine rfl rfl
theorem dX11_setLine_58 : decode cX11_setLine 58 = .ok (.istore_n 1, 1) := dk_60 hN_cX11_setLine rfl rfl
theorem dX11_setLine_59 : decode cX11_setLine 59 = .ok (.aload_n 0, 1) := dk_42 hN_cX11_setLine rfl rfl
theorem dX11_setLine_60 : decode cX11_setLine 60 = .ok (.iconst 1, 1) := dk_4 hN_cX11_setLine rfl rfl
theorem dX11_setLine_61 : decode cX11_setLine 61 = .ok (.iconst 0, 1) := dk_3 hN_cX11_setLine rfl rfl
theorem dX11_setLine_62 : decode cX11_setLine 62 = .ok (.invokevirtual 231, 3) := dk_182 hN_cX11_setLine rfl rfl rfl
theorem dX11_setLine_65 : decode cX11_setLine 65 = .ok (.istore_n 2, 1) := dk_61 hN_cX11_setLine rfl rfl
theorem dX11_setLine_66 : decode cX11_setLine 66 = .ok (.aload_n 0, 1) := dk_42 hN_cX11_setLine rfl rfl
theorem dX11_setLine_67 : decode cX11_setLine 67 = .ok (.getfield 23, 3) := dk_180 hN_cX11_setLine rfl rfl rfl
theorem dX11_setLine_70 : decode cX11_setLine 70 = .ok (.iconst 1, 1) := dk_4 hN_cX11_setLine rfl rfl
theorem dX11_setLine_71 : decode cX11_setLine 71 = .ok (.iload_n 1, 1) := dk_27 hN_cX11_setLine rfl rfl
theorem dX11_setLine_72 : decode cX11_setLine 72 = .ok (.iadd, 1) := dk_96 hN_cX11_setLine rfl rfl
theorem dX11_setLine_73 : decode cX11_setLine 73 = .ok (.iload_n 2, 1) := dk_28 hN_cX11_setLine rfl rfl
theorem dX11_setLine_74 : decode cX11_setLine 74 = .ok (.iastore, 1) := dk_79 hN_cX11_setLine rfl rfl
theorem dX11_setLine_75 : decode cX11_setLine 75 = .ok (.aload_n 0, 1) := dk_42 hN_cX11_setLine rfl rfl
theorem dX11_setLine_76 : decode cX11_setLine 76 = .ok (.getfield 23, 3) := dk_180 hN_cX11_setLine rfl rfl rfl
theorem dX11_setLine_79 : decode cX11_setLine 79 = .ok (.bipush 9, 2) := dk_16 hN_cX11_setLine rfl rfl rfl
theorem dX11_setLine_81 : decode cX11_setLine 81 = .ok (.iload_n 1, 1) := dk_27 hN_cX11_setLine rfl rfl
theorem dX11_setLine_82 : decode cX11_setLine 82 = .ok (.iadd, 1) := dk_96 hN_cX11_setLine rfl rfl
theorem dX11_setLine_83 : decode cX11_setLine 83 = .ok (.bipush (-2), 2) := dk_16 hN_cX11_setLine rfl rfl rfl
theorem dX11_setLine_85 : decode cX11_setLine 85 = .ok (.iastore, 1) := dk_79 hN_cX11_setLine rfl rfl
theorem dX11_setLine_86 : decode cX11_setLine 86 = .ok (.aload_n 0, 1) := dk_42 hN_cX11_setLine rfl rfl
theorem dX11_setLine_87 : decode cX11_setLine 87 = .ok (.invokevirtual 158, 3) := dk_182 hN_cX11_setLine rfl rfl rfl
theorem dX11_setLine_90 : decode cX11_setLine 90 = .ok (.ifCond .eq 20, 3) := dk_153 hN_cX11_setLine rfl rfl rfl
theorem dX11_setLine_110 : decode cX11_setLine 110 = .ok (.aload_n 0, 1) := dk_42 hN_cX11_setLine rfl rfl
theorem dX11_setLine_111 : decode cX11_setLine 111 = .ok (.ldc 234, 2) := dk_18 hN_cX11_setLine rfl rfl rfl
theorem dX11_setLine_113 : decode cX11_setLine 113 = .ok (.invokevirtual 223, 3) := dk_182 hN_cX11_setLine rfl rfl rfl
theorem dX11_setLine_116 : decode cX11_setLine 116 = .ok (.aload_n 0, 1) := dk_42 hN_cX11_setLine rfl rfl
theorem dX11_setLine_117 : decode cX11_setLine 117 = .ok (.getfield 23, 3) := dk_180 hN_cX11_setLine rfl rfl rfl
theorem dX11_setLine_120 : decode cX11_setLine 120 = .ok (.bipush 9, 2) := dk_16 hN_cX11_setLine rfl rfl rfl
theorem dX11_setLine_122 : decode cX11_setLine 122 = .ok (.iload_n 1, 1) := dk_27 hN_cX11_setLine rfl rfl
theorem dX11_setLine_123 : decode cX11_setLine 123 = .ok (.iadd, 1) := dk_96 hN_cX11_setLine rfl rfl
theorem dX11_setLine_124 : decode cX11_setLine 124 = .ok (.iaload, 1) := dk_46 hN_cX11_setLine rfl rfl
theorem dX11_setLine_125 : decode cX11_setLine 125 = .ok (.bipush (-2), 2) := dk_16 hN_cX11_setLine rfl rfl rfl
theorem dX11_setLine_127 : decode cX11_setLine 127 = .ok (.if_icmp .ne 7, 3) := dk_160 hN_cX11_setLine rfl rfl rfl
theorem dX11_setLine_134 : decode cX11_setLine 134 = .ok (.iconst 4, 1) := dk_7 hN_cX11_setLine rfl rfl
theorem dX11_setLine_135 : decode cX11_setLine 135 = .ok (.istore_n 3, 1) := dk_62 hN_cX11_setLine rfl rfl
theorem dX11_setLine_136 : decode cX11_setLine 136 = .ok (.iconst 0, 1) := dk_3 hN_cX11_setLine rfl rfl
theorem dX11_setLine_137 : decode cX11_setLine 137 = .ok (.istore 4, 2) := dk_54 hN_cX11_setLine rfl rfl rfl
theorem dX11_setLine_139 : decode cX11_setLine 139 = .ok (.iconst 0, 1) := dk_3 hN_cX11_setLine rfl rfl
theorem dX11_setLine_140 : decode cX11_setLine 140 = .ok (.istore 5, 2) := dk_54 hN_cX11_setLine rfl rfl rfl
theorem dX11_setLine_130 : decode cX11_setLine 130 = .ok (.iconst 2, 1) := dk_5 hN_cX11_setLine rfl rfl
theorem dX11_setLine_131 : decode cX11_setLine 131 = .ok (.goto 4, 3) := dk_167 hN_cX11_setLine rfl rfl rfl
theorem dX11_setLine_93 : decode cX11_setLine 93 = .ok (.aload_n 0, 1) := dk_42 hN_cX11_setLine rfl rfl
theorem dX11_setLine_94 : decode cX11_setLine 94 = .ok (.getfield 23, 3) := dk_180 hN_cX11_setLine rfl rfl rfl
theorem dX11_setLine_97 : decode cX11_setLine 97 = .ok (.bipush 9, 2) := dk_16 hN_cX11_setLine rfl rfl rfl
theorem dX11_setLine_99 : decode cX11_setLine 99 = .ok (.iload_n 1, 1) := dk_27 hN_cX11_setLine rfl rfl
theorem dX11_setLine_100 : decode cX11_setLine 100 = .ok (.iadd, 1) := dk_96 hN_cX11_setLine rfl rfl
theorem dX11_setLine_101 : decode cX11_setLine 101 = .ok (.aload_n 0, 1) := dk_42 hN_cX11_setLine rfl rfl
theorem dX11_setLine_102 : decode cX11_setLine 102 = .ok (.iconst 1, 1) := dk_4 hN_cX11_setLine rfl rfl
theorem dX11_setLine_103 : decode cX11_setLine 103 = .ok (.iconst 1, 1) := dk_4 hN_cX11_setLine rfl rfl
theorem dX11_setLine_104 : decode cX11_setLine 104 = .ok (.iload_n 2, 1) := dk_28 hN_cX11_setLine rfl rfl
theorem dX11_setLine_105 : decode cX11_setLine 105 = .ok (.ishl, 1) := dk_120 hN_cX11_setLine rfl rfl
theorem dX11_setLine_106 : decode cX11_setLine 106 = .ok (.invokevirtual 231, 3) := dk_182 hN_cX11_setLine rfl rfl rfl
theorem dX11_setLine_109 : decode cX11_setLine 109 = .ok (.iastore, 1) := dk_79 hN_cX11_setLine rfl rfl
theorem dX11_setLine_47 : decode cX11_setLine 47 = .ok (.return_, 1) := dk_177 hN_cX11_setLine rfl rfl
theorem dX11_setLine_30 : decode cX11_setLine 30 = .ok (.aload_n 0, 1) := dk_42 hN_cX11_setLine rfl rfl
theorem dX11_setLine_31 : decode cX11_setLine 31 = .ok (.bipush 6, 2) := dk_16 hN_cX11_setLine rfl rfl rfl
theorem dX11_setLine_33 : decode cX11_setLine 33 = .ok (.aload_n 0, 1) := dk_42 hN_cX11_setLine rfl rfl
theorem dX11_setLine_34 : decode cX11_setLine 34 = .ok (.getfield 88, 3) := dk_180 hN_cX11_setLine rfl rfl rfl
theorem dX11_setLine_37 : decode cX11_setLine 37 = .ok (.invokevirtual 134, 3) := dk_182 hN_cX11_setLine rfl rfl rfl
theorem dX11_setLine_11 : decode cX11_setLine 11 = .ok (.aload_n 0, 1) := dk_42 hN_cX11_setLine rfl rfl
theorem dX11_setLine_12 : decode cX11_setLine 12 = .ok (.iconst 5, 1) := dk_8 hN_cX11_setLine rfl rfl
theorem dX11_setLine_13 : decode cX11_setLine 13 = .ok (.aload_n 0, 1) := dk_42 hN_cX11_setLine rfl rfl
theorem dX11_setLine_14 : decode cX11_setLine 14 = .ok (.getfield 88, 3) := dk_180 hN_cX11_setLine rfl rfl rfl
theorem dX11_setLine_17 : decode cX11_setLine 17 = .ok (.invokevirtual 134, 3) := dk_182 hN_cX11_setLine rfl rfl rfl
theorem dX11_setLine_142 : decode cX11_setLine 142 = .ok (.iload 5, 2) := dk_21 hN_cX11_setLine rfl rfl rfl
theorem dX11_setLine_144 : decode cX11_setLine 144 = .ok (.iload_n 3, 1) := dk_29 hN_cX11_setLine rfl rfl
theorem dX11_setLine_145 : decode cX11_setLine 145 = .ok (.if_icmp .ge 125, 3) := dk_162 hN_cX11_setLine rfl rfl rfl
theorem dX11_setLine_270 : decode cX11_setLine 270 = .ok (.aload_n 0, 1) := dk_42 hN_cX11_setLine rfl rfl
theorem dX11_setLine_271 : decode cX11_setLine 271 = .ok (.getfield 107, 3) := dk_180 hN_cX11_setLine rfl rfl rfl
theorem dX11_setLine_274 : decode cX11_setLine 274 = .ok (.ifCond .ne 13, 3) := dk_154 hN_cX11_setLine rfl rfl rfl
theorem dX11_setLine_287 : decode cX11_setLine 287 = .ok (.return_, 1) := dk_177 hN_cX11_setLine rfl rfl
theorem dX11_setLine_277 : decode cX11_setLine 277 = .ok (.aload_n 0, 1) := dk_42 hN_cX11_setLine rfl rfl
theorem dX11_setLine_278 : decode cX11_setLine 278 = .ok (.getfield 23, 3) := dk_180 hN_cX11_setLine rfl rfl rfl
theorem dX11_setLine_281 : decode cX11_setLine 281 = .ok (.iconst 0, 1) := dk_3 hN_cX11_setLine rfl rfl
theorem dX11_setLine_282 : decode cX11_setLine 282 = .ok (.dup2, 1) := dk_92 hN_cX11_setLine rfl rfl
theorem dX11_setLine_283 : decode cX11_setLine 283 = .ok (.iaload, 1) := dk_46 hN_cX11_setLine rfl rfl
theorem dX11_setLine_284 : decode cX11_setLine 284 = .ok (.iconst 1, 1) := dk_4 hN_cX11_setLine rfl rfl
theorem dX11_setLine_285 : decode cX11_setLine 285 = .ok (.iadd, 1) := dk_96 hN_cX11_setLine rfl rfl
theorem dX11_setLine_286 : decode cX11_setLine 286 = .ok (.iastore, 1) := dk_79 hN_cX11_setLine rfl rfl
theorem dX11_setLine_148 : decode cX11_setLine 148 = .ok (.iload 5, 2) := dk_21 hN_cX11_setLine rfl rfl rfl
theorem dX11_setLine_150 : decode cX11_setLine 150 = .ok (.ifCond .le 7, 3) := dk_158 hN_cX11_setLine rfl rfl rfl
theorem dX11_setLine_157 : decode cX11_setLine 157 = .ok (.aload_n 0, 1) := dk_42 hN_cX11_setLine rfl rfl
theorem dX11_setLine_158 : decode cX11_setLine 158 = .ok (.getfield 107, 3) := dk_180 hN_cX11_setLine rfl rfl rfl
theorem dX11_setLine_161 : decode cX11_setLine 161 = .ok (.ifCond .eq 4, 3) := dk_153 hN_cX11_setLine rfl rfl rfl
theorem dX11_setLine_165 : decode cX11_setLine 165 = .ok (.iload 5, 2) := dk_21 hN_cX11_setLine rfl rfl rfl
theorem dX11_setLine_167 : decode cX11_setLine 167 = .ok (.iload_n 3, 1) := dk_29 hN_cX11_setLine rfl rfl
theorem dX11_setLine_168 : decode cX11_setLine 168 = .ok (.iconst 1, 1) := dk_4 hN_cX11_setLine rfl rfl
theorem dX11_setLine_169 : decode cX11_setLine 169 = .ok (.isub, 1) := dk_100 hN_cX11_setLine rfl rfl
theorem dX11_setLine_170 : decode cX11_setLine 170 = .ok (.if_icmp .ne 28, 3) := dk_160 hN_cX11_setLine rfl rfl rfl
theorem dX11_setLine_198 : decode cX11_setLine 198 = .ok (.iconst 0, 1) := dk_3 hN_cX11_setLine rfl rfl
theorem dX11_setLine_199 : decode cX11_setLine 199 = .ok (.istore 6, 2) := dk_54 hN_cX11_setLine rfl rfl rfl
theorem dX11_setLine_201 : decode cX11_setLine 201 = .ok (.iload 6, 2) := dk_21 hN_cX11_setLine rfl rfl rfl
theorem dX11_setLine_203 : decode cX11_setLine 203 = .ok (.ifCond .eq 29, 3) := dk_153 hN_cX11_setLine rfl rfl rfl
theorem dX11_setLine_232 : decode cX11_setLine 232 = .ok (.aload_n 0, 1) := dk_42 hN_cX11_setLine rfl rfl
theorem dX11_setLine_233 : decode cX11_setLine 233 = .ok (.iconst 0, 1) := dk_3 hN_cX11_setLine rfl rfl
theorem dX11_setLine_234 : decode cX11_setLine 234 = .ok (.bipush 60, 2) := dk_16 hN_cX11_setLine rfl rfl rfl
theorem dX11_setLine_236 : decode cX11_setLine 236 = .ok (.invokevirtual 227, 3) := dk_182 hN_cX11_setLine rfl rfl rfl
theorem dX11_setLine_239 : decode cX11_setLine 239 = .ok (.istore 7, 2) := dk_54 hN_cX11_setLine rfl rfl rfl
theorem dX11_setLine_241 : decode cX11_setLine 241 = .ok (.aload_n 0, 1) := dk_42 hN_cX11_setLine rfl rfl
theorem dX11_setLine_242 : decode cX11_setLine 242 = .ok (.getfield 23, 3) := dk_180 hN_cX11_setLine rfl rfl rfl
theorem dX11_setLine_245 : decode cX11_setLine 245 = .ok (.bipush 17, 2) := dk_16 hN_cX11_setLine rfl rfl rfl
theorem dX11_setLine_247 : decode cX11_setLine 247 = .ok (.iconst 4, 1) := dk_7 hN_cX11_setLine rfl rfl
theorem dX11_setLine_248 : decode cX11_setLine 248 = .ok (.iload_n 1, 1) := dk_27 hN_cX11_setLine rfl rfl
theorem dX11_setLine_249 : decode cX11_setLine 249 = .ok (.imul, 1) := dk_104 hN_cX11_setLine rfl rfl
theorem dX11_setLine_250 : decode cX11_setLine 250 = .ok (.iadd, 1) := dk_96 hN_cX11_setLine rfl rfl
theorem dX11_setLine_251 : decode cX11_setLine 251 = .ok (.iload 5, 2) := dk_21 hN_cX11_setLine rfl rfl rfl
theorem dX11_setLine_253 : decode cX11_setLine 253 = .ok (.iadd, 1) := dk_96 hN_cX11_setLine rfl rfl
theorem dX11_setLine_254 : decode cX11_setLine 254 = .ok (.iload 7, 2) := dk_21 hN_cX11_setLine rfl rfl rfl
theorem dX11_setLine_256 : decode cX11_setLine 256 = .ok (.iastore, 1) := dk_79 hN_cX11_setLine rfl rfl
theorem dX11_setLine_257 : decode cX11_setLine 257 = .ok (.iload 4, 2) := dk_21 hN_cX11_setLine rfl rfl rfl
theorem dX11_setLine_259 : decode cX11_setLine 259 = .ok (.iload 7, 2) := dk_21 hN_cX11_setLine rfl rfl rfl
theorem dX11_setLine_261 : decode cX11_setLine 261 = .ok (.iadd, 1) := dk_96 hN_cX11_setLine rfl rfl
theorem dX11_setLine_262 : decode cX11_setLine 262 = .ok (.istore 4, 2) := dk_54 hN_cX11_setLine rfl rfl rfl
theorem dX11_setLine_264 : decode cX11_setLine 264 = .ok (.iinc 5 1, 3) := dk_132 hN_cX11_setLine rfl rfl rfl rfl
theorem dX11_setLine_267 : decode cX11_setLine 267 = .ok (.goto (-125), 3) := dk_167 hN_cX11_setLine rfl rfl rfl
theorem dX11_setLine_173 : decode cX11_setLine 173 = .ok (.aload_n 0, 1) := dk_42 hN_cX11_setLine rfl rfl
theorem dX11_setLine_174 : decode cX11_setLine 174 = .ok (.getfield 97, 3) := dk_180 hN_cX11_setLine rfl rfl rfl
theorem dX11_setLine_177 : decode cX11_setLine 177 = .ok (.iconst 3, 1) := dk_6 hN_cX11_setLine rfl rfl
theorem dX11_setLine_178 : decode cX11_setLine 178 = .ok (.if_icmp .ne 20, 3) := dk_160 hN_cX11_setLine rfl rfl rfl
theorem dX11_setLine_181 : decode cX11_setLine 181 = .ok (.aload_n 0, 1) := dk_42 hN_cX11_setLine rfl rfl
theorem dX11_setLine_182 : decode cX11_setLine 182 = .ok (.getfield 94, 3) := dk_180 hN_cX11_setLine rfl rfl rfl
theorem dX11_setLine_185 : decode cX11_setLine 185 = .ok (.iconst 0, 1) := dk_3 hN_cX11_setLine rfl rfl
theorem dX11_setLine_186 : decode cX11_setLine 186 = .ok (.bipush 60, 2) := dk_16 hN_cX11_setLine rfl rfl rfl
theorem dX11_setLine_188 : decode cX11_setLine 188 = .ok (.invokestatic 170, 3) := dk_184 hN_cX11_setLine rfl rfl rfl
theorem dX11_setLine_191 : decode cX11_setLine 191 = .ok (.ifCond .eq 7, 3) := dk_153 hN_cX11_setLine rfl rfl rfl
theorem dX11_setLine_194 : decode cX11_setLine 194 = .ok (.iconst 1, 1) := dk_4 hN_cX11_setLine rfl rfl
theorem dX11_setLine_195 : decode cX11_setLine 195 = .ok (.goto 4, 3) := dk_167 hN_cX11_setLine rfl rfl rfl
theorem dX11_setLine_206 : decode cX11_setLine 206 = .ok (.iload 4, 2) := dk_21 hN_cX11_setLine rfl rfl rfl
theorem dX11_setLine_208 : decode cX11_setLine 208 = .ok (.aload_n 0, 1) := dk_42 hN_cX11_setLine rfl rfl
theorem dX11_setLine_209 : decode cX11_setLine 209 = .ok (.getfield 94, 3) := dk_180 hN_cX11_setLine rfl rfl rfl
theorem dX11_setLine_212 : decode cX11_setLine 212 = .ok (.iadd, 1) := dk_96 hN_cX11_setLine rfl rfl
theorem dX11_setLine_213 : decode cX11_setLine 213 = .ok (.aload_n 0, 1) := dk_42 hN_cX11_setLine rfl rfl
theorem dX11_setLine_214 : decode cX11_setLine 214 = .ok (.getfield 23, 3) := dk_180 hN_cX11_setLine rfl rfl rfl
theorem dX11_setLine_217 : decode cX11_setLine 217 = .ok (.bipush 49, 2) := dk_16 hN_cX11_setLine rfl rfl rfl
theorem dX11_setLine_219 : decode cX11_setLine 219 = .ok (.iaload, 1) := dk_46 hN_cX11_setLine rfl rfl
theorem dX11_setLine_220 : decode cX11_setLine 220 = .ok (.if_icmp .eq 12, 3) := dk_159 hN_cX11_setLine rfl rfl rfl
theorem dX11_setLine_223 : decode cX11_setLine 223 = .ok (.aload_n 0, 1) := dk_42 hN_cX11_setLine rfl rfl
theorem dX11_setLine_224 : decode cX11_setLine 224 = .ok (.iconst 4, 1) := dk_7 hN_cX11_setLine rfl rfl
theorem dX11_setLine_225 : decode cX11_setLine 225 = .ok (.aload_n 0, 1) := dk_42 hN_cX11_setLine rfl rfl
theorem dX11_setLine_226 : decode cX11_setLine 226 = .ok (.getfield 88, 3) := dk_180 hN_cX11_setLine rfl rfl rfl
theorem dX11_setLine_229 : decode cX11_setLine 229 = .ok (.invokevirtual 134, 3) := dk_182 hN_cX11_setLine rfl rfl rfl
theorem dX11_setLine_164 : decode cX11_setLine 164 = .ok (.return_, 1) := dk_177 hN_cX11_setLine rfl rfl
theorem dX11_setLine_153 : decode cX11_setLine 153 = .ok (.aload_n 0, 1) := dk_42 hN_cX11_setLine rfl rfl
theorem dX11_setLine_154 : decode cX11_setLine 154 = .ok (.invokevirtual 235, 3) := dk_182 hN_cX11_setLine rfl rfl rfl
theorem dX11_lineLine_0 : decode cX11_lineLine 0 = .ok (.aload_n 0, 1) := dk_42 hN_cX11_lineLine rfl rfl
theorem dX11_lineLine_1 : decode cX11_lineLine 1 = .ok (.getfield 107, 3) := dk_180 hN_cX11_lineLine rfl rfl rfl
theorem dX11_lineLine_4 : decode cX11_lineLine 4 = .ok (.ifCond .eq 4, 3) := dk_153 hN_cX11_lineLine rfl rfl rfl
theorem dX11_lineLine_8 : decode cX11_lineLine 8 = .ok (.aload_n 0, 1) := dk_42 hN_cX11_lineLine rfl rfl
theorem dX11_lineLine_9 : decode cX11_lineLine 9 = .ok (.getfield 23, 3) := dk_180 hN_cX11_lineLine rfl rfl rfl
theorem dX11_lineLine_12 : decode cX11_lineLine 12 = .ok (.bipush 52, 2) := dk_16 hN_cX11_lineLine rfl rfl rfl
theorem dX11_lineLine_14 : decode cX11_lineLine 14 = .ok (.iaload, 1) := dk_46 hN_cX11_lineLine rfl rfl
theorem dX11_lineLine_15 : decode cX11_lineLine 15 = .ok (.istore_n 1, 1) := dk_60 hN_cX11_lineLine rfl rfl
theorem dX11_lineLine_16 : decode cX11_lineLine 16 = .ok (.iconst 0, 1) := dk_3 hN_cX11_lineLine rfl rfl
theorem dX11_lineLine_17 : decode cX11_lineLine 17 = .ok (.istore_n 2, 1) := dk_61 hN_cX11_lineLine rfl rfl
theorem dX11_lineLine_18 : decode cX11_lineLine 18 = .ok (.iconst 0, 1) := dk_3 hN_cX11_lineLine rfl rfl
theorem dX11_lineLine_19 : decode cX11_lineLine 19 = .ok (.istore_n 3, 1) := dk_62 hN_cX11_lineLine rfl rfl
theorem dX11_lineLine_7 : decode cX11_lineLine 7 = .ok (.return_, 1) := dk_177 hN_cX11_lineLine rfl rfl
theorem dX11_lineLine_20 : decode cX11_lineLine 20 = .ok (.iload_n 3, 1) := dk_29 hN_cX11_lineLine rfl rfl
theorem dX11_lineLine_21 : decode cX11_lineLine 21 = .ok (.iconst 3, 1) := dk_6 hN_cX11_lineLine rfl rfl
theorem dX11_lineLine_22 : decode cX11_lineLine 22 = .ok (.if_icmp .ge 55, 3) := dk_162 hN_cX11_lineLine rfl rfl rfl
theorem dX11_lineLine_77 : decode cX11_lineLine 77 = .ok (.aload_n 0, 1) := dk_42 hN_cX11_lineLine rfl rfl
theorem dX11_lineLine_78 : decode cX11_lineLine 78 = .ok (.ldc 238, 2) := dk_18 hN_cX11_lineLine rfl rfl rfl
theorem dX11_lineLine_80 : decode cX11_lineLine 80 = .ok (.invokevirtual 223, 3) := dk_182 hN_cX11_lineLine rfl rfl rfl
theorem dX11_lineLine_83 : decode cX11_lineLine 83 = .ok (.aload_n 0, 1) := dk_42 hN_cX11_lineLine rfl rfl
theorem dX11_lineLine_84 : decode cX11_lineLine 84 = .ok (.getfield 107, 3) := dk_180 hN_cX11_lineLine rfl rfl rfl
theorem dX11_lineLine_87 : decode cX11_lineLine 87 = .ok (.ifCond .eq 4, 3) := dk_153 hN_cX11_lineLine rfl rfl rfl
theorem dX11_lineLine_91 : decode cX11_lineLine 91 = .ok (.aload_n 0, 1) := dk_42 hN_cX11_lineLine rfl rfl
theorem dX11_lineLine_92 : decode cX11_lineLine 92 = .ok (.ldc 240, 2) := dk_18 hN_cX11_lineLine rfl rfl rfl
theorem dX11_lineLine_94 : decode cX11_lineLine 94 = .ok (.invokevirtual 131, 3) := dk_182 hN_cX11_lineLine rfl rfl rfl
theorem dX11_lineLine_97 : decode cX11_lineLine 97 = .ok (.ifCond .eq 16, 3) := dk_153 hN_cX11_lineLine rfl rfl rfl
theorem dX11_lineLine_113 : decode cX11_lineLine 113 = .ok (.aload_n 0, 1) := dk_42 hN_cX11_lineLine rfl rfl
theorem dX11_lineLine_114 : decode cX11_lineLine 114 = .ok (.ldc 242, 2) := dk_18 hN_cX11_lineLine rfl rfl rfl
theorem dX11_lineLine_116 : decode cX11_lineLine 116 = .ok (.invokevirtual 223, 3) := dk_182 hN_cX11_lineLine rfl rfl rfl
theorem dX11_lineLine_119 : decode cX11_lineLine 119 = .ok (.aload_n 0, 1) := dk_42 hN_cX11_lineLine rfl rfl
theorem dX11_lineLine_120 : decode cX11_lineLine 120 = .ok (.getfield 23, 3) := dk_180 hN_cX11_lineLine rfl rfl rfl
theorem dX11_lineLine_123 : decode cX11_lineLine 123 = .ok (.bipush 52, 2) := dk_16 hN_cX11_lineLine rfl rfl rfl
theorem dX11_lineLine_125 : decode cX11_lineLine 125 = .ok (.dup2, 1) := dk_92 hN_cX11_lineLine rfl rfl
theorem dX11_lineLine_126 : decode cX11_lineLine 126 = .ok (.iaload, 1) := dk_46 hN_cX11_lineLine rfl rfl
theorem dX11_lineLine_127 : decode cX11_lineLine 127 = .ok (.iconst 1, 1) := dk_4 hN_cX11_lineLine rfl rfl
theorem dX11_lineLine_128 : decode cX11_lineLine 128 = .ok (.iadd, 1) := dk_96 hN_cX11_lineLine rfl rfl
theorem dX11_lineLine_129 : decode cX11_lineLine 129 = .ok (.iastore, 1) := dk_79 hN_cX11_lineLine rfl rfl
theorem dX11_lineLine_130 : decode cX11_lineLine 130 = .ok (.return_, 1) := dk_177 hN_cX11_lineLine rfl rfl
theorem dX11_lineLine_100 : decode cX11_lineLine 100 = .ok (.aload_n 0, 1) := dk_42 hN_cX11_lineLine rfl rfl
theorem dX11_lineLine_101 : decode cX11_lineLine 101 = .ok (.getfield 23, 3) := dk_180 hN_cX11_lineLine rfl rfl rfl
theorem dX11_lineLine_104 : decode cX11_lineLine 104 = .ok (.bipush 77, 2) := dk_16 hN_cX11_lineLine rfl rfl rfl
theorem dX11_lineLine_106 : decode cX11_lineLine 106 = .ok (.iload_n 1, 1) := dk_27 hN_cX11_lineLine rfl rfl
theorem dX11_lineLine_107 : decode cX11_lineLine 107 = .ok (.iadd, 1) := dk_96 hN_cX11_lineLine rfl rfl
theorem dX11_lineLine_108 : decode cX11_lineLine 108 = .ok (.iconst 1, 1) := dk_4 hN_cX11_lineLine rfl rfl
theorem dX11_lineLine_109 : decode cX11_lineLine 109 = .ok (.iastore, 1) := dk_79 hN_cX11_lineLine rfl rfl
theorem dX11_lineLine_110 : decode cX11_lineLine 110 = .ok (.goto 9, 3) := dk_167 hN_cX11_lineLine rfl rfl rfl
theorem dX11_lineLine_90 : decode cX11_lineLine 90 = .ok (.return_, 1) := dk_177 hN_cX11_lineLine rfl rfl
theorem dX11_lineLine_25 : decode cX11_lineLine 25 = .ok (.iload_n 3, 1) := dk_29 hN_cX11_lineLine rfl rfl
theorem dX11_lineLine_26 : decode cX11_lineLine 26 = .ok (.ifCond .le 7, 3) := dk_158 hN_cX11_lineLine rfl rfl rfl
theorem dX11_lineLine_33 : decode cX11_lineLine 33 = .ok (.aload_n 0, 1) := dk_42 hN_cX11_lineLine rfl rfl
theorem dX11_lineLine_34 : decode cX11_lineLine 34 = .ok (.iconst 0, 1) := dk_3 hN_cX11_lineLine rfl rfl
theorem dX11_lineLine_35 : decode cX11_lineLine 35 = .ok (.iload_n 2, 1) := dk_28 hN_cX11_lineLine rfl rfl
theorem dX11_lineLine_36 : decode cX11_lineLine 36 = .ok (.invokevirtual 231, 3) := dk_182 hN_cX11_lineLine rfl rfl rfl
theorem dX11_lineLine_39 : decode cX11_lineLine 39 = .ok (.istore 4, 2) := dk_54 hN_cX11_lineLine rfl rfl rfl
theorem dX11_lineLine_41 : decode cX11_lineLine 41 = .ok (.aload_n 0, 1) := dk_42 hN_cX11_lineLine rfl rfl
theorem dX11_lineLine_42 : decode cX11_lineLine 42 = .ok (.getfield 107, 3) := dk_180 hN_cX11_lineLine rfl rfl rfl
theorem dX11_lineLine_45 : decode cX11_lineLine 45 = .ok (.ifCond .eq 4, 3) := dk_153 hN_cX11_lineLine rfl rfl rfl
theorem dX11_lineLine_49 : decode cX11_lineLine 49 = .ok (.iload_n 2, 1) := dk_28 hN_cX11_lineLine rfl rfl
theorem dX11_lineLine_50 : decode cX11_lineLine 50 = .ok (.iconst 1, 1) := dk_4 hN_cX11_lineLine rfl rfl
theorem dX11_lineLine_51 : decode cX11_lineLine 51 = .ok (.iload 4, 2) := dk_21 hN_cX11_lineLine rfl rfl rfl
theorem dX11_lineLine_53 : decode cX11_lineLine 53 = .ok (.ishl, 1) := dk_120 hN_cX11_lineLine rfl rfl
theorem dX11_lineLine_54 : decode cX11_lineLine 54 = .ok (.ior, 1) := dk_128 hN_cX11_lineLine rfl rfl
theorem dX11_lineLine_55 : decode cX11_lineLine 55 = .ok (.istore_n 2, 1) := dk_61 hN_cX11_lineLine rfl rfl
theorem dX11_lineLine_56 : decode cX11_lineLine 56 = .ok (.aload_n 0, 1) := dk_42 hN_cX11_lineLine rfl rfl
theorem dX11_lineLine_57 : decode cX11_lineLine 57 = .ok (.getfield 23, 3) := dk_180 hN_cX11_lineLine rfl rfl rfl
theorem dX11_lineLine_60 : decode cX11_lineLine 60 = .ok (.bipush 53, 2) := dk_16 hN_cX11_lineLine rfl rfl rfl
theorem dX11_lineLine_62 : decode cX11_lineLine 62 = .ok (.iconst 3, 1) := dk_6 hN_cX11_lineLine rfl rfl
theorem dX11_lineLine_63 : decode cX11_lineLine 63 = .ok (.iload_n 1, 1) := dk_27 hN_cX11_lineLine rfl rfl
theorem dX11_lineLine_64 : decode cX11_lineLine 64 = .ok (.imul, 1) := dk_104 hN_cX11_lineLine rfl rfl
theorem dX11_lineLine_65 : decode cX11_lineLine 65 = .ok (.iadd, 1) := dk_96 hN_cX11_lineLine rfl rfl
theorem dX11_lineLine_66 : decode cX11_lineLine 66 = .ok (.iload_n 3, 1) := dk_29 hN_cX11_lineLine rfl rfl
theorem dX11_lineLine_67 : decode cX11_lineLine 67 = .ok (.iadd, 1) := dk_96 hN_cX11_lineLine rfl rfl
theorem dX11_lineLine_68 : decode cX11_lineLine 68 = .ok (.iload 4, 2) := dk_21 hN_cX11_lineLine rfl rfl rfl
theorem dX11_lineLine_70 : decode cX11_lineLine 70 = .ok (.iastore, 1) := dk_79 hN_cX11_lineLine rfl rfl
theorem dX11_lineLine_71 : decode cX11_lineLine 71 = .ok (.iinc 3 1, 3) := dk_132 hN_cX11_lineLine rfl rfl rfl rfl
theorem dX11_lineLine_74 : decode cX11_lineLine 74 = .ok (.goto (-54), 3) := dk_167 hN_cX11_lineLine rfl rfl rfl
theorem dX11_lineLine_48 : decode cX11_lineLine 48 = .ok (.return_, 1) := dk_177 hN_cX11_lineLine rfl rfl
theorem dX11_lineLine_29 : decode cX11_lineLine 29 = .ok (.aload_n 0, 1) := dk_42 hN_cX11_lineLine rfl rfl
theorem dX11_lineLine_30 : decode cX11_lineLine 30 = .ok (.invokevirtual 235, 3) := dk_182 hN_cX11_lineLine rfl rfl rfl
theorem dX11_rayLine_0 : decode cX11_rayLine 0 = .ok (.aload_n 0, 1) := dk_42 hN_cX11_rayLine rfl rfl
theorem dX11_rayLine_1 : decode cX11_rayLine 1 = .ok (.getfield 107, 3) := dk_180 hN_cX11_rayLine rfl rfl rfl
theorem dX11_rayLine_4 : decode cX11_rayLine 4 = .ok (.ifCond .eq 4, 3) := dk_153 hN_cX11_rayLine rfl rfl rfl
theorem dX11_rayLine_8 : decode cX11_rayLine 8 = .ok (.aload_n 0, 1) := dk_42 hN_cX11_rayLine rfl rfl
theorem dX11_rayLine_9 : decode cX11_rayLine 9 = .ok (.getfield 23, 3) := dk_180 hN_cX11_rayLine rfl rfl rfl
theorem dX11_rayLine_12 : decode cX11_rayLine 12 = .ok (.bipush 85, 2) := dk_16 hN_cX11_rayLine rfl rfl rfl
theorem dX11_rayLine_14 : decode cX11_rayLine 14 = .ok (.iaload, 1) := dk_46 hN_cX11_rayLine rfl rfl
theorem dX11_rayLine_15 : decode cX11_rayLine 15 = .ok (.istore_n 1, 1) := dk_60 hN_cX11_rayLine rfl rfl
theorem dX11_rayLine_16 : decode cX11_rayLine 16 = .ok (.iconst 0, 1) := dk_3 hN_cX11_rayLine rfl rfl
theorem dX11_rayLine_17 : decode cX11_rayLine 17 = .ok (.istore_n 2, 1) := dk_61 hN_cX11_rayLine rfl rfl
theorem dX11_rayLine_18 : decode cX11_rayLine 18 = .ok (.iconst 0, 1) := dk_3 hN_cX11_rayLine rfl rfl
theorem dX11_rayLine_19 : decode cX11_rayLine 19 = .ok (.istore_n 3, 1) := dk_62 hN_cX11_rayLine rfl rfl
theorem dX11_rayLine_7 : decode cX11_rayLine 7 = .ok (.return_, 1) := dk_177 hN_cX11_rayLine rfl rfl
theorem dX11_rayLine_20 : decode cX11_rayLine 20 = .ok (.iload_n 3, 1) := dk_29 hN_cX11_rayLine rfl rfl
theorem dX11_rayLine_21 : decode cX11_rayLine 21 = .ok (.iconst 4, 1) := dk_7 hN_cX11_rayLine rfl rfl
theorem dX11_rayLine_22 : decode cX11_rayLine 22 = .ok (.if_icmp .ge 144, 3) := dk_162 hN_cX11_rayLine rfl rfl rfl
theorem dX11_rayLine_166 : decode cX11_rayLine 166 = .ok (.aload_n 0, 1) := dk_42 hN_cX11_rayLine rfl rfl
theorem dX11_rayLine_167 : decode cX11_rayLine 167 = .ok (.getfield 107, 3) := dk_180 hN_cX11_rayLine rfl rfl rfl
theorem dX11_rayLine_170 : decode cX11_rayLine 170 = .ok (.ifCond .ne 14, 3) := dk_154 hN_cX11_rayLine rfl rfl rfl
theorem dX11_rayLine_184 : decode cX11_rayLine 184 = .ok (.return_, 1) := dk_177 hN_cX11_rayLine rfl rfl
theorem dX11_rayLine_173 : decode cX11_rayLine 173 = .ok (.aload_n 0, 1) := dk_42 hN_cX11_rayLine rfl rfl
theorem dX11_rayLine_174 : decode cX11_rayLine 174 = .ok (.getfield 23, 3) := dk_180 hN_cX11_rayLine rfl rfl rfl
theorem dX11_rayLine_177 : decode cX11_rayLine 177 = .ok (.bipush 85, 2) := dk_16 hN_cX11_rayLine rfl rfl rfl
theorem dX11_rayLine_179 : decode cX11_rayLine 179 = .ok (.dup2, 1) := dk_92 hN_cX11_rayLine rfl rfl
theorem dX11_rayLine_180 : decode cX11_rayLine 180 = .ok (.iaload, 1) := dk_46 hN_cX11_rayLine rfl rfl
theorem dX11_rayLine_181 : decode cX11_rayLine 181 = .ok (.iconst 1, 1) := dk_4 hN_cX11_rayLine rfl rfl
theorem dX11_rayLine_182 : decode cX11_rayLine 182 = .ok (.iadd, 1) := dk_96 hN_cX11_rayLine rfl rfl
theorem dX11_rayLine_183 : decode cX11_rayLine 183 = .ok (.iastore, 1) := dk_79 hN_cX11_rayLine rfl rfl
theorem dX11_rayLine_25 : decode cX11_rayLine 25 = .ok (.iload_n 3, 1) := dk_29 hN_cX11_rayLine rfl rfl
theorem dX11_rayLine_26 : decode cX11_rayLine 26 = .ok (.ifCond .le 7, 3) := dk_158 hN_cX11_rayLine rfl rfl rfl
theorem dX11_rayLine_33 : decode cX11_rayLine 33 = .ok (.aload_n 0, 1) := dk_42 hN_cX11_rayLine rfl rfl
theorem dX11_rayLine_34 : decode cX11_rayLine 34 = .ok (.getfield 107, 3) := dk_180 hN_cX11_rayLine rfl rfl rfl
theorem dX11_rayLine_37 : decode cX11_rayLine 37 = .ok (.ifCond .eq 4, 3) := dk_153 hN_cX11_rayLine rfl rfl rfl
theorem dX11_rayLine_41 : decode cX11_rayLine 41 = .ok (.aload_n 0, 1) := dk_42 hN_cX11_rayLine rfl rfl
theorem dX11_rayLine_42 : decode cX11_rayLine 42 = .ok (.getfield 97, 3) := dk_180 hN_cX11_rayLine rfl rfl rfl
theorem dX11_rayLine_45 : decode cX11_rayLine 45 = .ok (.bipush 45, 2) := dk_16 hN_cX11_rayLine rfl rfl rfl
theorem dX11_rayLine_47 : decode cX11_rayLine 47 = .ok (.if_icmp .ne 7, 3) := dk_160 hN_cX11_rayLine rfl rfl rfl
theorem dX11_rayLine_54 : decode cX11_rayLine 54 = .ok (.iconst 0, 1) := dk_3 hN_cX11_rayLine rfl rfl
theorem dX11_rayLine_55 : decode cX11_rayLine 55 = .ok (.istore 4, 2) := dk_54 hN_cX11_rayLine rfl rfl rfl
theorem dX11_rayLine_57 : decode cX11_rayLine 57 = .ok (.iload 4, 2) := dk_21 hN_cX11_rayLine rfl rfl rfl
theorem dX11_rayLine_59 : decode cX11_rayLine 59 = .ok (.ifCond .eq 7, 3) := dk_153 hN_cX11_rayLine rfl rfl rfl
theorem dX11_rayLine_66 : decode cX11_rayLine 66 = .ok (.iload_n 3, 1) := dk_29 hN_cX11_rayLine rfl rfl
theorem dX11_rayLine_67 : decode cX11_rayLine 67 = .ok (.iconst 3, 1) := dk_6 hN_cX11_rayLine rfl rfl
theorem dX11_rayLine_68 : decode cX11_rayLine 68 = .ok (.if_icmp .ne 26, 3) := dk_160 hN_cX11_rayLine rfl rfl rfl
theorem dX11_rayLine_94 : decode cX11_rayLine 94 = .ok (.iconst 0, 1) := dk_3 hN_cX11_rayLine rfl rfl
theorem dX11_rayLine_95 : decode cX11_rayLine 95 = .ok (.istore 5, 2) := dk_54 hN_cX11_rayLine rfl rfl rfl
theorem dX11_rayLine_97 : decode cX11_rayLine 97 = .ok (.iload 5, 2) := dk_21 hN_cX11_rayLine rfl rfl rfl
theorem dX11_rayLine_99 : decode cX11_rayLine 99 = .ok (.ifCond .eq 12, 3) := dk_153 hN_cX11_rayLine rfl rfl rfl
theorem dX11_rayLine_111 : decode cX11_rayLine 111 = .ok (.aload_n 0, 1) := dk_42 hN_cX11_rayLine rfl rfl
theorem dX11_rayLine_112 : decode cX11_rayLine 112 = .ok (.iconst 0, 1) := dk_3 hN_cX11_rayLine rfl rfl
theorem dX11_rayLine_113 : decode cX11_rayLine 113 = .ok (.iconst 3, 1) := dk_6 hN_cX11_rayLine rfl rfl
theorem dX11_rayLine_114 : decode cX11_rayLine 114 = .ok (.invokevirtual 227, 3) := dk_182 hN_cX11_rayLine rfl rfl rfl
theorem dX11_rayLine_117 : decode cX11_rayLine 117 = .ok (.istore 6, 2) := dk_54 hN_cX11_rayLine rfl rfl rfl
theorem dX11_rayLine_119 : decode cX11_rayLine 119 = .ok (.iload_n 2, 1) := dk_28 hN_cX11_rayLine rfl rfl
theorem dX11_rayLine_120 : decode cX11_rayLine 120 = .ok (.ifCond .ne 8, 3) := dk_154 hN_cX11_rayLine rfl rfl rfl
theorem dX11_rayLine_128 : decode cX11_rayLine 128 = .ok (.iconst 1, 1) := dk_4 hN_cX11_rayLine rfl rfl
theorem dX11_rayLine_129 : decode cX11_rayLine 129 = .ok (.goto 4, 3) := dk_167 hN_cX11_rayLine rfl rfl rfl
theorem dX11_rayLine_133 : decode cX11_rayLine 133 = .ok (.istore_n 2, 1) := dk_61 hN_cX11_rayLine rfl rfl
theorem dX11_rayLine_134 : decode cX11_rayLine 134 = .ok (.aload_n 0, 1) := dk_42 hN_cX11_rayLine rfl rfl
theorem dX11_rayLine_135 : decode cX11_rayLine 135 = .ok (.getfield 23, 3) := dk_180 hN_cX11_rayLine rfl rfl rfl
theorem dX11_rayLine_138 : decode cX11_rayLine 138 = .ok (.bipush 86, 2) := dk_16 hN_cX11_rayLine rfl rfl rfl
theorem dX11_rayLine_140 : decode cX11_rayLine 140 = .ok (.iconst 4, 1) := dk_7 hN_cX11_rayLine rfl rfl
theorem dX11_rayLine_141 : decode cX11_rayLine 141 = .ok (.iload_n 1, 1) := dk_27 hN_cX11_rayLine rfl rfl
theorem dX11_rayLine_142 : decode cX11_rayLine 142 = .ok (.imul, 1) := dk_104 hN_cX11_rayLine rfl rfl
theorem dX11_rayLine_143 : decode cX11_rayLine 143 = .ok (.iadd, 1) := dk_96 hN_cX11_rayLine rfl rfl
theorem dX11_rayLine_144 : decode cX11_rayLine 144 = .ok (.iload_n 3, 1) := dk_29 hN_cX11_rayLine rfl rfl
theorem dX11_rayLine_145 : decode cX11_rayLine 145 = .ok (.iadd, 1) := dk_96 hN_cX11_rayLine rfl rfl
theorem dX11_rayLine_146 : decode cX11_rayLine 146 = .ok (.iload 4, 2) := dk_21 hN_cX11_rayLine rfl rfl rfl
theorem dX11_rayLine_148 : decode cX11_rayLine 148 = .ok (.ifCond .eq 9, 3) := dk_153 hN_cX11_rayLine rfl rfl rfl
theorem dX11_rayLine_157 : decode cX11_rayLine 157 = .ok (.iload 6, 2) := dk_21 hN_cX11_rayLine rfl rfl rfl
theorem dX11_rayLine_159 : decode cX11_rayLine 159 = .ok (.iastore, 1) := dk_79 hN_cX11_rayLine rfl rfl
theorem dX11_rayLine_160 : decode cX11_rayLine 160 = .ok (.iinc 3 1, 3) := dk_132 hN_cX11_rayLine rfl rfl rfl rfl
theorem dX11_rayLine_163 : decode cX11_rayLine 163 = .ok (.goto (-143), 3) := dk_167 hN_cX11_rayLine rfl rfl rfl
theorem dX11_rayLine_123 : decode cX11_rayLine 123 = .ok (.iload 6, 2) := dk_21 hN_cX11_rayLine rfl rfl rfl
theorem dX11_rayLine_125 : decode cX11_rayLine 125 = .ok (.ifCond .le 7, 3) := dk_158 hN_cX11_rayLine rfl rfl rfl
theorem dX11_rayLine_132 : decode cX11_rayLine 132 = .ok (.iconst 0, 1) := dk_3 hN_cX11_rayLine rfl rfl
theorem dX11_rayLine_71 : decode cX11_rayLine 71 = .ok (.iload_n 2, 1) := dk_28 hN_cX11_rayLine rfl rfl
theorem dX11_rayLine_72 : decode cX11_rayLine 72 = .ok (.ifCond .ne 22, 3) := dk_154 hN_cX11_rayLine rfl rfl rfl
theorem dX11_rayLine_75 : decode cX11_rayLine 75 = .ok (.aload_n 0, 1) := dk_42 hN_cX11_rayLine rfl rfl
theorem dX11_rayLine_76 : decode cX11_rayLine 76 = .ok (.getfield 97, 3) := dk_180 hN_cX11_rayLine rfl rfl rfl
theorem dX11_rayLine_79 : decode cX11_rayLine 79 = .ok (.iconst 3, 1) := dk_6 hN_cX11_rayLine rfl rfl
theorem dX11_rayLine_80 : decode cX11_rayLine 80 = .ok (.if_icmp .ne 14, 3) := dk_160 hN_cX11_rayLine rfl rfl rfl
theorem dX11_rayLine_83 : decode cX11_rayLine 83 = .ok (.aload_n 0, 1) := dk_42 hN_cX11_rayLine rfl rfl
theorem dX11_rayLine_84 : decode cX11_rayLine 84 = .ok (.getfield 94, 3) := dk_180 hN_cX11_rayLine rfl rfl rfl
theorem dX11_rayLine_87 : decode cX11_rayLine 87 = .ok (.ifCond .ne 7, 3) := dk_154 hN_cX11_rayLine rfl rfl rfl
theorem dX11_rayLine_90 : decode cX11_rayLine 90 = .ok (.iconst 1, 1) := dk_4 hN_cX11_rayLine rfl rfl
theorem dX11_rayLine_91 : decode cX11_rayLine 91 = .ok (.goto 4, 3) := dk_167 hN_cX11_rayLine rfl rfl rfl
theorem dX11_rayLine_102 : decode cX11_rayLine 102 = .ok (.aload_n 0, 1) := dk_42 hN_cX11_rayLine rfl rfl
theorem dX11_rayLine_103 : decode cX11_rayLine 103 = .ok (.iconst 4, 1) := dk_7 hN_cX11_rayLine rfl rfl
theorem dX11_rayLine_104 : decode cX11_rayLine 104 = .ok (.aload_n 0, 1) := dk_42 hN_cX11_rayLine rfl rfl
theorem dX11_rayLine_105 : decode cX11_rayLine 105 = .ok (.getfield 88, 3) := dk_180 hN_cX11_rayLine rfl rfl rfl
theorem dX11_rayLine_108 : decode cX11_rayLine 108 = .ok (.invokevirtual 134, 3) := dk_182 hN_cX11_rayLine rfl rfl rfl
theorem dX11_rayLine_50 : decode cX11_rayLine 50 = .ok (.iconst 1, 1) := dk_4 hN_cX11_rayLine rfl rfl
theorem dX11_rayLine_51 : decode cX11_rayLine 51 = .ok (.goto 4, 3) := dk_167 hN_cX11_rayLine rfl rfl rfl
theorem dX11_rayLine_62 : decode cX11_rayLine 62 = .ok (.aload_n 0, 1) := dk_42 hN_cX11_rayLine rfl rfl
theorem dX11_rayLine_63 : decode cX11_rayLine 63 = .ok (.invokevirtual 128, 3) := dk_182 hN_cX11_rayLine rfl rfl rfl
theorem dX11_rayLine_151 : decode cX11_rayLine 151 = .ok (.iload 6, 2) := dk_21 hN_cX11_rayLine rfl rfl rfl
theorem dX11_rayLine_153 : decode cX11_rayLine 153 = .ok (.ineg, 1) := dk_116 hN_cX11_rayLine rfl rfl
theorem dX11_rayLine_154 : decode cX11_rayLine 154 = .ok (.goto 5, 3) := dk_167 hN_cX11_rayLine rfl rfl rfl
theorem dX11_rayLine_40 : decode cX11_rayLine 40 = .ok (.return_, 1) := dk_177 hN_cX11_rayLine rfl rfl
theorem dX11_rayLine_29 : decode cX11_rayLine 29 = .ok (.aload_n 0, 1) := dk_42 hN_cX11_rayLine rfl rfl
theorem dX11_rayLine_30 : decode cX11_rayLine 30 = .ok (.invokevirtual 235, 3) := dk_182 hN_cX11_rayLine rfl rfl rfl
theorem dX11_runLine_0 : decode cX11_runLine 0 = .ok (.aload_n 0, 1) := dk_42 hN_cX11_runLine rfl rfl
theorem dX11_runLine_1 : decode cX11_runLine 1 = .ok (.getfield 107, 3) := dk_180 hN_cX11_runLine rfl rfl rfl
theorem dX11_runLine_4 : decode cX11_runLine 4 = .ok (.ifCond .eq 4, 3) := dk_153 hN_cX11_runLine rfl rfl rfl
theorem dX11_runLine_8 : decode cX11_runLine 8 = .ok (.aload_n 0, 1) := dk_42 hN_cX11_runLine rfl rfl
theorem dX11_runLine_9 : decode cX11_runLine 9 = .ok (.getfield 23, 3) := dk_180 hN_cX11_runLine rfl rfl rfl
theorem dX11_runLine_12 : decode cX11_runLine 12 = .ok (.sipush 158, 3) := dk_17 hN_cX11_runLine rfl rfl rfl
theorem dX11_runLine_15 : decode cX11_runLine 15 = .ok (.iaload, 1) := dk_46 hN_cX11_runLine rfl rfl
theorem dX11_runLine_16 : decode cX11_runLine 16 = .ok (.istore_n 1, 1) := dk_60 hN_cX11_runLine rfl rfl
theorem dX11_runLine_17 : decode cX11_runLine 17 = .ok (.iconst 0, 1) := dk_3 hN_cX11_runLine rfl rfl
theorem dX11_runLine_18 : decode cX11_runLine 18 = .ok (.istore_n 2, 1) := dk_61 hN_cX11_runLine rfl rfl
theorem dX11_runLine_19 : decode cX11_runLine 19 = .ok (.iconst 1, 1) := dk_4 hN_cX11_runLine rfl rfl
theorem dX11_runLine_20 : decode cX11_runLine 20 = .ok (.istore_n 3, 1) := dk_62 hN_cX11_runLine rfl rfl
theorem dX11_runLine_7 : decode cX11_runLine 7 = .ok (.return_, 1) := dk_177 hN_cX11_runLine rfl rfl
theorem dX11_runLine_21 : decode cX11_runLine 21 = .ok (.iload_n 3, 1) := dk_29 hN_cX11_runLine rfl rfl
theorem dX11_runLine_22 : decode cX11_runLine 22 = .ok (.ifCond .eq 94, 3) := dk_153 hN_cX11_runLine rfl rfl rfl
theorem dX11_runLine_116 : decode cX11_runLine 116 = .ok (.aload_n 0, 1) := dk_42 hN_cX11_runLine rfl rfl
theorem dX11_runLine_117 : decode cX11_runLine 117 = .ok (.getfield 23, 3) := dk_180 hN_cX11_runLine rfl rfl rfl
theorem dX11_runLine_120 : decode cX11_runLine 120 = .ok (.sipush 159, 3) := dk_17 hN_cX11_runLine rfl rfl rfl
theorem dX11_runLine_123 : decode cX11_runLine 123 = .ok (.iload_n 1, 1) := dk_27 hN_cX11_runLine rfl rfl
theorem dX11_runLine_124 : decode cX11_runLine 124 = .ok (.iadd, 1) := dk_96 hN_cX11_runLine rfl rfl
theorem dX11_runLine_125 : decode cX11_runLine 125 = .ok (.iload_n 2, 1) := dk_28 hN_cX11_runLine rfl rfl
theorem dX11_runLine_126 : decode cX11_runLine 126 = .ok (.iastore, 1) := dk_79 hN_cX11_runLine rfl rfl
theorem dX11_runLine_127 : decode cX11_runLine 127 = .ok (.aload_n 0, 1) := dk_42 hN_cX11_runLine rfl rfl
theorem dX11_runLine_128 : decode cX11_runLine 128 = .ok (.getfield 23, 3) := dk_180 hN_cX11_runLine rfl rfl rfl
theorem dX11_runLine_131 : decode cX11_runLine 131 = .ok (.sipush 158, 3) := dk_17 hN_cX11_runLine rfl rfl rfl
theorem dX11_runLine_134 : decode cX11_runLine 134 = .ok (.dup2, 1) := dk_92 hN_cX11_runLine rfl rfl
theorem dX11_runLine_135 : decode cX11_runLine 135 = .ok (.iaload, 1) := dk_46 hN_cX11_runLine rfl rfl
theorem dX11_runLine_136 : decode cX11_runLine 136 = .ok (.iconst 1, 1) := dk_4 hN_cX11_runLine rfl rfl
theorem dX11_runLine_137 : decode cX11_runLine 137 = .ok (.iadd, 1) := dk_96 hN_cX11_runLine rfl rfl
theorem dX11_runLine_138 : decode cX11_runLine 138 = .ok (.iastore, 1) := dk_79 hN_cX11_runLine rfl rfl
theorem dX11_runLine_139 : decode cX11_runLine 139 = .ok (.return_, 1) := dk_177 hN_cX11_runLine rfl rfl
theorem dX11_runLine_25 : decode cX11_runLine 25 = .ok (.aload_n 0, 1) := dk_42 hN_cX11_runLine rfl rfl
theorem dX11_runLine_26 : decode cX11_runLine 26 = .ok (.iconst 1, 1) := dk_4 hN_cX11_runLine rfl rfl
theorem dX11_runLine_27 : decode cX11_runLine 27 = .ok (.iconst 0, 1) := dk_3 hN_cX11_runLine rfl rfl
theorem dX11_runLine_28 : decode cX11_runLine 28 = .ok (.invokevirtual 166, 3) := dk_182 hN_cX11_runLine rfl rfl rfl
theorem dX11_runLine_31 : decode cX11_runLine 31 = .ok (.istore 4, 2) := dk_54 hN_cX11_runLine rfl rfl rfl
theorem dX11_runLine_33 : decode cX11_runLine 33 = .ok (.aload_n 0, 1) := dk_42 hN_cX11_runLine rfl rfl
theorem dX11_runLine_34 : decode cX11_runLine 34 = .ok (.getfield 107, 3) := dk_180 hN_cX11_runLine rfl rfl rfl
theorem dX11_runLine_37 : decode cX11_runLine 37 = .ok (.ifCond .ne 18, 3) := dk_154 hN_cX11_runLine rfl rfl rfl
theorem dX11_runLine_55 : decode cX11_runLine 55 = .ok (.aload_n 0, 1) := dk_42 hN_cX11_runLine rfl rfl
theorem dX11_runLine_56 : decode cX11_runLine 56 = .ok (.getfield 107, 3) := dk_180 hN_cX11_runLine rfl rfl rfl
theorem dX11_runLine_59 : decode cX11_runLine 59 = .ok (.ifCond .eq 4, 3) := dk_153 hN_cX11_runLine rfl rfl rfl
theorem dX11_runLine_63 : decode cX11_runLine 63 = .ok (.aload_n 0, 1) := dk_42 hN_cX11_runLine rfl rfl
theorem dX11_runLine_64 : decode cX11_runLine 64 = .ok (.invokevirtual 128, 3) := dk_182 hN_cX11_runLine rfl rfl rfl
theorem dX11_runLine_67 : decode cX11_runLine 67 = .ok (.aload_n 0, 1) := dk_42 hN_cX11_runLine rfl rfl
theorem dX11_runLine_68 : decode cX11_runLine 68 = .ok (.getfield 23, 3) := dk_180 hN_cX11_runLine rfl rfl rfl
theorem dX11_runLine_71 : decode cX11_runLine 71 = .ok (.sipush 163, 3) := dk_17 hN_cX11_runLine rfl rfl rfl
theorem dX11_runLine_74 : decode cX11_runLine 74 = .ok (.bipush 6, 2) := dk_16 hN_cX11_runLine rfl rfl rfl
theorem dX11_runLine_76 : decode cX11_runLine 76 = .ok (.iload_n 1, 1) := dk_27 hN_cX11_runLine rfl rfl
theorem dX11_runLine_77 : decode cX11_runLine 77 = .ok (.imul, 1) := dk_104 hN_cX11_runLine rfl rfl
theorem dX11_runLine_78 : decode cX11_runLine 78 = .ok (.iadd, 1) := dk_96 hN_cX11_runLine rfl rfl
theorem dX11_runLine_79 : decode cX11_runLine 79 = .ok (.iload_n 2, 1) := dk_28 hN_cX11_runLine rfl rfl
theorem dX11_runLine_80 : decode cX11_runLine 80 = .ok (.iadd, 1) := dk_96 hN_cX11_runLine rfl rfl
theorem dX11_runLine_81 : decode cX11_runLine 81 = .ok (.iload 4, 2) := dk_21 hN_cX11_runLine rfl rfl rfl
theorem dX11_runLine_83 : decode cX11_runLine 83 = .ok (.iastore, 1) := dk_79 hN_cX11_runLine rfl rfl
theorem dX11_runLine_84 : decode cX11_runLine 84 = .ok (.aload_n 0, 1) := dk_42 hN_cX11_runLine rfl rfl
theorem dX11_runLine_85 : decode cX11_runLine 85 = .ok (.getfield 23, 3) := dk_180 hN_cX11_runLine rfl rfl rfl
theorem dX11_runLine_88 : decode cX11_runLine 88 = .ok (.sipush 187, 3) := dk_17 hN_cX11_runLine rfl rfl rfl
theorem dX11_runLine_91 : decode cX11_runLine 91 = .ok (.bipush 6, 2) := dk_16 hN_cX11_runLine rfl rfl rfl
theorem dX11_runLine_93 : decode cX11_runLine 93 = .ok (.iload_n 1, 1) := dk_27 hN_cX11_runLine rfl rfl
theorem dX11_runLine_94 : decode cX11_runLine 94 = .ok (.imul, 1) := dk_104 hN_cX11_runLine rfl rfl
theorem dX11_runLine_95 : decode cX11_runLine 95 = .ok (.iadd, 1) := dk_96 hN_cX11_runLine rfl rfl
theorem dX11_runLine_96 : decode cX11_runLine 96 = .ok (.iload_n 2, 1) := dk_28 hN_cX11_runLine rfl rfl
theorem dX11_runLine_97 : decode cX11_runLine 97 = .ok (.iadd, 1) := dk_96 hN_cX11_runLine rfl rfl
theorem dX11_runLine_98 : decode cX11_runLine 98 = .ok (.aload_n 0, 1) := dk_42 hN_cX11_runLine rfl rfl
theorem dX11_runLine_99 : decode cX11_runLine 99 = .ok (.iconst 0, 1) := dk_3 hN_cX11_runLine rfl rfl
theorem dX11_runLine_100 : decode cX11_runLine 100 = .ok (.iconst 1, 1) := dk_4 hN_cX11_runLine rfl rfl
theorem dX11_runLine_101 : decode cX11_runLine 101 = .ok (.invokevirtual 227, 3) := dk_182 hN_cX11_runLine rfl rfl rfl
theorem dX11_runLine_104 : decode cX11_runLine 104 = .ok (.iastore, 1) := dk_79 hN_cX11_runLine rfl rfl
theorem dX11_runLine_105 : decode cX11_runLine 105 = .ok (.iinc 2 1, 3) := dk_132 hN_cX11_runLine rfl rfl rfl rfl
theorem dX11_runLine_108 : decode cX11_runLine 108 = .ok (.aload_n 0, 1) := dk_42 hN_cX11_runLine rfl rfl
theorem dX11_runLine_109 : decode cX11_runLine 109 = .ok (.invokevirtual 158, 3) := dk_182 hN_cX11_runLine rfl rfl rfl
theorem dX11_runLine_112 : decode cX11_runLine 112 = .ok (.istore_n 3, 1) := dk_62 hN_cX11_runLine rfl rfl
theorem dX11_runLine_113 : decode cX11_runLine 113 = .ok (.goto (-92), 3) := dk_167 hN_cX11_runLine rfl rfl rfl
theorem dX11_runLine_62 : decode cX11_runLine 62 = .ok (.return_, 1) := dk_177 hN_cX11_runLine rfl rfl
theorem dX11_runLine_40 : decode cX11_runLine 40 = .ok (.iload_n 2, 1) := dk_28 hN_cX11_runLine rfl rfl
theorem dX11_runLine_41 : decode cX11_runLine 41 = .ok (.bipush 6, 2) := dk_16 hN_cX11_runLine rfl rfl rfl
theorem dX11_runLine_43 : decode cX11_runLine 43 = .ok (.if_icmp .ne 12, 3) := dk_160 hN_cX11_runLine rfl rfl rfl
theorem dX11_runLine_46 : decode cX11_runLine 46 = .ok (.aload_n 0, 1) := dk_42 hN_cX11_runLine rfl rfl
theorem dX11_runLine_47 : decode cX11_runLine 47 = .ok (.iconst 5, 1) := dk_8 hN_cX11_runLine rfl rfl
theorem dX11_runLine_48 : decode cX11_runLine 48 = .ok (.aload_n 0, 1) := dk_42 hN_cX11_runLine rfl rfl
theorem dX11_runLine_49 : decode cX11_runLine 49 = .ok (.getfield 88, 3) := dk_180 hN_cX11_runLine rfl rfl rfl
theorem dX11_runLine_52 : decode cX11_runLine 52 = .ok (.invokevirtual 134, 3) := dk_182 hN_cX11_runLine rfl rfl rfl
theorem dX11_fault_0 : decode cX11_fault 0 = .ok (.aload_n 0, 1) := dk_42 hN_cX11_fault rfl rfl
theorem dX11_fault_1 : decode cX11_fault 1 = .ok (.iconst 0, 1) := dk_3 hN_cX11_fault rfl rfl
theorem dX11_fault_2 : decode cX11_fault 2 = .ok (.putfield 69, 3) := dk_181 hN_cX11_fault rfl rfl rfl
theorem dX11_fault_5 : decode cX11_fault 5 = .ok (.aload_n 0, 1) := dk_42 hN_cX11_fault rfl rfl
theorem dX11_fault_6 : decode cX11_fault 6 = .ok (.getfield 111, 3) := dk_180 hN_cX11_fault rfl rfl rfl
theorem dX11_fault_9 : decode cX11_fault 9 = .ok (.ireturn, 1) := dk_172 hN_cX11_fault rfl rfl
theorem dX11_where_0 : decode cX11_where 0 = .ok (.aload_n 0, 1) := dk_42 hN_cX11_where rfl rfl
theorem dX11_where_1 : decode cX11_where 1 = .ok (.iconst 0, 1) := dk_3 hN_cX11_where rfl rfl
theorem dX11_where_2 : decode cX11_where 2 = .ok (.putfield 69, 3) := dk_181 hN_cX11_where rfl rfl rfl
theorem dX11_where_5 : decode cX11_where 5 = .ok (.aload_n 0, 1) := dk_42 hN_cX11_where rfl rfl
theorem dX11_where_6 : decode cX11_where 6 = .ok (.getfield 72, 3) := dk_180 hN_cX11_where rfl rfl rfl
theorem dX11_where_9 : decode cX11_where 9 = .ok (.iconst 4, 1) := dk_7 hN_cX11_where rfl rfl
theorem dX11_where_10 : decode cX11_where 10 = .ok (.if_icmp .ne 10, 3) := dk_160 hN_cX11_where rfl rfl rfl
theorem dX11_where_20 : decode cX11_where 20 = .ok (.iconst (-1), 1) := dk_2 hN_cX11_where rfl rfl
theorem dX11_where_21 : decode cX11_where 21 = .ok (.ireturn, 1) := dk_172 hN_cX11_where rfl rfl
theorem dX11_where_13 : decode cX11_where 13 = .ok (.aload_n 0, 1) := dk_42 hN_cX11_where rfl rfl
theorem dX11_where_14 : decode cX11_where 14 = .ok (.getfield 13, 3) := dk_180 hN_cX11_where rfl rfl rfl
theorem dX11_where_17 : decode cX11_where 17 = .ok (.goto 4, 3) := dk_167 hN_cX11_where rfl rfl rfl
theorem dX11_isSet_0 : decode cX11_isSet 0 = .ok (.aload_n 0, 1) := dk_42 hN_cX11_isSet rfl rfl
theorem dX11_isSet_1 : decode cX11_isSet 1 = .ok (.getfield 183, 3) := dk_180 hN_cX11_isSet rfl rfl rfl
theorem dX11_isSet_4 : decode cX11_isSet 4 = .ok (.ifCond .eq 23, 3) := dk_153 hN_cX11_isSet rfl rfl rfl
theorem dX11_isSet_27 : decode cX11_isSet 27 = .ok (.iconst 0, 1) := dk_3 hN_cX11_isSet rfl rfl
theorem dX11_isSet_28 : decode cX11_isSet 28 = .ok (.ireturn, 1) := dk_172 hN_cX11_isSet rfl rfl
theorem dX11_isSet_7 : decode cX11_isSet 7 = .ok (.iload_n 1, 1) := dk_27 hN_cX11_isSet rfl rfl
theorem dX11_isSet_8 : decode cX11_isSet 8 = .ok (.iconst 0, 1) := dk_3 hN_cX11_isSet rfl rfl
theorem dX11_isSet_9 : decode cX11_isSet 9 = .ok (.aload_n 0, 1) := dk_42 hN_cX11_isSet rfl rfl
theorem dX11_isSet_10 : decode cX11_isSet 10 = .ok (.getfield 20, 3) := dk_180 hN_cX11_isSet rfl rfl rfl
theorem dX11_isSet_13 : decode cX11_isSet 13 = .ok (.iconst 0, 1) := dk_3 hN_cX11_isSet rfl rfl
theorem dX11_isSet_14 : decode cX11_isSet 14 = .ok (.iaload, 1) := dk_46 hN_cX11_isSet rfl rfl
theorem dX11_isSet_15 : decode cX11_isSet 15 = .ok (.iconst 1, 1) := dk_4 hN_cX11_isSet rfl rfl
theorem dX11_isSet_16 : decode cX11_isSet 16 = .ok (.isub, 1) := dk_100 hN_cX11_isSet rfl rfl
theorem dX11_isSet_17 : decode cX11_isSet 17 = .ok (.invokestatic 170, 3) := dk_184 hN_cX11_isSet rfl rfl rfl
theorem dX11_isSet_20 : decode cX11_isSet 20 = .ok (.ifCond .eq 7, 3) := dk_153 hN_cX11_isSet rfl rfl rfl
theorem dX11_isSet_23 : decode cX11_isSet 23 = .ok (.iconst 1, 1) := dk_4 hN_cX11_isSet rfl rfl
theorem dX11_isSet_24 : decode cX11_isSet 24 = .ok (.goto 4, 3) := dk_167 hN_cX11_isSet rfl rfl rfl
theorem dX11_isLook_0 : decode cX11_isLook 0 = .ok (.aload_n 0, 1) := dk_42 hN_cX11_isLook rfl rfl
theorem dX11_isLook_1 : decode cX11_isLook 1 = .ok (.getfield 183, 3) := dk_180 hN_cX11_isLook rfl rfl rfl
theorem dX11_isLook_4 : decode cX11_isLook 4 = .ok (.ifCond .eq 24, 3) := dk_153 hN_cX11_isLook rfl rfl rfl
theorem dX11_isLook_28 : decode cX11_isLook 28 = .ok (.iconst 0, 1) := dk_3 hN_cX11_isLook rfl rfl
theorem dX11_isLook_29 : decode cX11_isLook 29 = .ok (.ireturn, 1) := dk_172 hN_cX11_isLook rfl rfl
theorem dX11_isLook_7 : decode cX11_isLook 7 = .ok (.iload_n 1, 1) := dk_27 hN_cX11_isLook rfl rfl
theorem dX11_isLook_8 : decode cX11_isLook 8 = .ok (.iconst 0, 1) := dk_3 hN_cX11_isLook rfl rfl
theorem dX11_isLook_9 : decode cX11_isLook 9 = .ok (.aload_n 0, 1) := dk_42 hN_cX11_isLook rfl rfl
theorem dX11_isLook_10 : decode cX11_isLook 10 = .ok (.getfield 20, 3) := dk_180 hN_cX11_isLook rfl rfl rfl
theorem dX11_isLook_13 : decode cX11_isLook 13 = .ok (.bipush 50, 2) := dk_16 hN_cX11_isLook rfl rfl rfl
theorem dX11_isLook_15 : decode cX11_isLook 15 = .ok (.iaload, 1) := dk_46 hN_cX11_isLook rfl rfl
theorem dX11_isLook_16 : decode cX11_isLook 16 = .ok (.iconst 1, 1) := dk_4 hN_cX11_isLook rfl rfl
theorem dX11_isLook_17 : decode cX11_isLook 17 = .ok (.isub, 1) := dk_100 hN_cX11_isLook rfl rfl
theorem dX11_isLook_18 : decode cX11_isLook 18 = .ok (.invokestatic 170, 3) := dk_184 hN_cX11_isLook rfl rfl rfl
theorem dX11_isLook_21 : decode cX11_isLook 21 = .ok (.ifCond .eq 7, 3) := dk_153 hN_cX11_isLook rfl rfl rfl
theorem dX11_isLook_24 : decode cX11_isLook 24 = .ok (.iconst 1, 1) := dk_4 hN_cX11_isLook rfl rfl
theorem dX11_isLook_25 : decode cX11_isLook 25 = .ok (.goto 4, 3) := dk_167 hN_cX11_isLook rfl rfl rfl
theorem dX11_outcomes_0 : decode cX11_outcomes 0 = .ok (.aload_n 0, 1) := dk_42 hN_cX11_outcomes rfl rfl
theorem dX11_outcomes_1 : decode cX11_outcomes 1 = .ok (.bipush 9, 2) := dk_16 hN_cX11_outcomes rfl rfl rfl
theorem dX11_outcomes_3 : decode cX11_outcomes 3 = .ok (.iload_n 1, 1) := dk_27 hN_cX11_outcomes rfl rfl
theorem dX11_outcomes_4 : decode cX11_outcomes 4 = .ok (.iadd, 1) := dk_96 hN_cX11_outcomes rfl rfl
theorem dX11_outcomes_5 : decode cX11_outcomes 5 = .ok (.iaload, 1) := dk_46 hN_cX11_outcomes rfl rfl
theorem dX11_outcomes_6 : decode cX11_outcomes 6 = .ok (.bipush (-2), 2) := dk_16 hN_cX11_outcomes rfl rfl rfl
theorem dX11_outcomes_8 : decode cX11_outcomes 8 = .ok (.if_icmp .ne 7, 3) := dk_160 hN_cX11_outcomes rfl rfl rfl
theorem dX11_outcomes_15 : decode cX11_outcomes 15 = .ok (.iconst 4, 1) := dk_7 hN_cX11_outcomes rfl rfl
theorem dX11_outcomes_16 : decode cX11_outcomes 16 = .ok (.ireturn, 1) := dk_172 hN_cX11_outcomes rfl rfl
theorem dX11_outcomes_11 : decode cX11_outcomes 11 = .ok (.iconst 2, 1) := dk_5 hN_cX11_outcomes rfl rfl
theorem dX11_outcomes_12 : decode cX11_outcomes 12 = .ok (.goto 4, 3) := dk_167 hN_cX11_outcomes rfl rfl rfl
theorem dX11_isOutcome_0 : decode cX11_isOutcome 0 = .ok (.aload_n 0, 1) := dk_42 hN_cX11_isOutcome rfl rfl
theorem dX11_isOutcome_1 : decode cX11_isOutcome 1 = .ok (.iload_n 1, 1) := dk_27 hN_cX11_isOutcome rfl rfl
theorem dX11_isOutcome_2 : decode cX11_isOutcome 2 = .ok (.invokevirtual 244, 3) := dk_182 hN_cX11_isOutcome rfl rfl rfl
theorem dX11_isOutcome_5 : decode cX11_isOutcome 5 = .ok (.ifCond .eq 25, 3) := dk_153 hN_cX11_isOutcome rfl rfl rfl
theorem dX11_isOutcome_30 : decode cX11_isOutcome 30 = .ok (.iconst 0, 1) := dk_3 hN_cX11_isOutcome rfl rfl
theorem dX11_isOutcome_31 : decode cX11_isOutcome 31 = .ok (.ireturn, 1) := dk_172 hN_cX11_isOutcome rfl rfl
theorem dX11_isOutcome_8 : decode cX11_isOutcome 8 = .ok (.iload_n 2, 1) := dk_28 hN_cX11_isOutcome rfl rfl
theorem dX11_isOutcome_9 : decode cX11_isOutcome 9 = .ok (.iconst 0, 1) := dk_3 hN_cX11_isOutcome rfl rfl
theorem dX11_isOutcome_10 : decode cX11_isOutcome 10 = .ok (.aload_n 0, 1) := dk_42 hN_cX11_isOutcome rfl rfl
theorem dX11_isOutcome_11 : decode cX11_isOutcome 11 = .ok (.getfield 20, 3) := dk_180 hN_cX11_isOutcome rfl rfl rfl
theorem dX11_isOutcome_14 : decode cX11_isOutcome 14 = .ok (.iload_n 1, 1) := dk_27 hN_cX11_isOutcome rfl rfl
theorem dX11_isOutcome_15 : decode cX11_isOutcome 15 = .ok (.invokestatic 247, 3) := dk_184 hN_cX11_isOutcome rfl rfl rfl
theorem dX11_isOutcome_18 : decode cX11_isOutcome 18 = .ok (.iconst 1, 1) := dk_4 hN_cX11_isOutcome rfl rfl
theorem dX11_isOutcome_19 : decode cX11_isOutcome 19 = .ok (.isub, 1) := dk_100 hN_cX11_isOutcome rfl rfl
theorem dX11_isOutcome_20 : decode cX11_isOutcome 20 = .ok (.invokestatic 170, 3) := dk_184 hN_cX11_isOutcome rfl rfl rfl
theorem dX11_isOutcome_23 : decode cX11_isOutcome 23 = .ok (.ifCond .eq 7, 3) := dk_153 hN_cX11_isOutcome rfl rfl rfl
theorem dX11_isOutcome_26 : decode cX11_isOutcome 26 = .ok (.iconst 1, 1) := dk_4 hN_cX11_isOutcome rfl rfl
theorem dX11_isOutcome_27 : decode cX11_isOutcome 27 = .ok (.goto 4, 3) := dk_167 hN_cX11_isOutcome rfl rfl rfl
theorem dX11_hiddenMany_0 : decode cX11_hiddenMany 0 = .ok (.iconst 1, 1) := dk_4 hN_cX11_hiddenMany rfl rfl
theorem dX11_hiddenMany_1 : decode cX11_hiddenMany 1 = .ok (.aload_n 0, 1) := dk_42 hN_cX11_hiddenMany rfl rfl
theorem dX11_hiddenMany_2 : decode cX11_hiddenMany 2 = .ok (.getfield 20, 3) := dk_180 hN_cX11_hiddenMany rfl rfl rfl
theorem dX11_hiddenMany_5 : decode cX11_hiddenMany 5 = .ok (.bipush 50, 2) := dk_16 hN_cX11_hiddenMany rfl rfl rfl
theorem dX11_hiddenMany_7 : decode cX11_hiddenMany 7 = .ok (.iaload, 1) := dk_46 hN_cX11_hiddenMany rfl rfl
theorem dX11_hiddenMany_8 : decode cX11_hiddenMany 8 = .ok (.ishl, 1) := dk_120 hN_cX11_hiddenMany rfl rfl
theorem dX11_hiddenMany_9 : decode cX11_hiddenMany 9 = .ok (.ireturn, 1) := dk_172 hN_cX11_hiddenMany rfl rfl
theorem dX11_fitted_0 : decode cX11_fitted 0 = .ok (.iload_n 2, 1) := dk_28 hN_cX11_fitted rfl rfl
theorem dX11_fitted_1 : decode cX11_fitted 1 = .ok (.aload_n 0, 1) := dk_42 hN_cX11_fitted rfl rfl
theorem dX11_fitted_2 : decode cX11_fitted 2 = .ok (.getfield 20, 3) := dk_180 hN_cX11_fitted rfl rfl rfl
theorem dX11_fitted_5 : decode cX11_fitted 5 = .ok (.iconst 1, 1) := dk_4 hN_cX11_fitted rfl rfl
theorem dX11_fitted_6 : decode cX11_fitted 6 = .ok (.iload_n 1, 1) := dk_27 hN_cX11_fitted rfl rfl
theorem dX11_fitted_7 : decode cX11_fitted 7 = .ok (.iadd, 1) := dk_96 hN_cX11_fitted rfl rfl
theorem dX11_fitted_8 : decode cX11_fitted 8 = .ok (.iaload, 1) := dk_46 hN_cX11_fitted rfl rfl
theorem dX11_fitted_9 : decode cX11_fitted 9 = .ok (.ishr, 1) := dk_122 hN_cX11_fitted rfl rfl
theorem dX11_fitted_10 : decode cX11_fitted 10 = .ok (.iconst 1, 1) := dk_4 hN_cX11_fitted rfl rfl
theorem dX11_fitted_11 : decode cX11_fitted 11 = .ok (.iand, 1) := dk_126 hN_cX11_fitted rfl rfl
theorem dX11_fitted_12 : decode cX11_fitted 12 = .ok (.istore_n 3, 1) := dk_62 hN_cX11_fitted rfl rfl
theorem dX11_fitted_13 : decode cX11_fitted 13 = .ok (.aload_n 0, 1) := dk_42 hN_cX11_fitted rfl rfl
theorem dX11_fitted_14 : decode cX11_fitted 14 = .ok (.getfield 20, 3) := dk_180 hN_cX11_fitted rfl rfl rfl
theorem dX11_fitted_17 : decode cX11_fitted 17 = .ok (.bipush 9, 2) := dk_16 hN_cX11_fitted rfl rfl rfl
theorem dX11_fitted_19 : decode cX11_fitted 19 = .ok (.iload_n 1, 1) := dk_27 hN_cX11_fitted rfl rfl
theorem dX11_fitted_20 : decode cX11_fitted 20 = .ok (.iadd, 1) := dk_96 hN_cX11_fitted rfl rfl
theorem dX11_fitted_21 : decode cX11_fitted 21 = .ok (.iaload, 1) := dk_46 hN_cX11_fitted rfl rfl
theorem dX11_fitted_22 : decode cX11_fitted 22 = .ok (.bipush (-2), 2) := dk_16 hN_cX11_fitted rfl rfl rfl
theorem dX11_fitted_24 : decode cX11_fitted 24 = .ok (.if_icmp .ne 7, 3) := dk_160 hN_cX11_fitted rfl rfl rfl
theorem dX11_fitted_31 : decode cX11_fitted 31 = .ok (.iconst 2, 1) := dk_5 hN_cX11_fitted rfl rfl
theorem dX11_fitted_32 : decode cX11_fitted 32 = .ok (.iload_n 3, 1) := dk_29 hN_cX11_fitted rfl rfl
theorem dX11_fitted_33 : decode cX11_fitted 33 = .ok (.imul, 1) := dk_104 hN_cX11_fitted rfl rfl
theorem dX11_fitted_34 : decode cX11_fitted 34 = .ok (.iload_n 2, 1) := dk_28 hN_cX11_fitted rfl rfl
theorem dX11_fitted_35 : decode cX11_fitted 35 = .ok (.aload_n 0, 1) := dk_42 hN_cX11_fitted rfl rfl
theorem dX11_fitted_36 : decode cX11_fitted 36 = .ok (.getfield 20, 3) := dk_180 hN_cX11_fitted rfl rfl rfl
theorem dX11_fitted_39 : decode cX11_fitted 39 = .ok (.bipush 9, 2) := dk_16 hN_cX11_fitted rfl rfl rfl
theorem dX11_fitted_41 : decode cX11_fitted 41 = .ok (.iload_n 1, 1) := dk_27 hN_cX11_fitted rfl rfl
theorem dX11_fitted_42 : decode cX11_fitted 42 = .ok (.iadd, 1) := dk_96 hN_cX11_fitted rfl rfl
theorem dX11_fitted_43 : decode cX11_fitted 43 = .ok (.iaload, 1) := dk_46 hN_cX11_fitted rfl rfl
theorem dX11_fitted_44 : decode cX11_fitted 44 = .ok (.ishr, 1) := dk_122 hN_cX11_fitted rfl rfl
theorem dX11_fitted_45 : decode cX11_fitted 45 = .ok (.iconst 1, 1) := dk_4 hN_cX11_fitted rfl rfl
theorem dX11_fitted_46 : decode cX11_fitted 46 = .ok (.iand, 1) := dk_126 hN_cX11_fitted rfl rfl
theorem dX11_fitted_47 : decode cX11_fitted 47 = .ok (.iadd, 1) := dk_96 hN_cX11_fitted rfl rfl
theorem dX11_fitted_48 : decode cX11_fitted 48 = .ok (.ireturn, 1) := dk_172 hN_cX11_fitted rfl rfl
theorem dX11_fitted_27 : decode cX11_fitted 27 = .ok (.iload_n 3, 1) := dk_29 hN_cX11_fitted rfl rfl
theorem dX11_fitted_28 : decode cX11_fitted 28 = .ok (.goto 20, 3) := dk_167 hN_cX11_fitted rfl rfl rfl
theorem dX11_cell_0 : decode cX11_cell 0 = .ok (.bipush 97, 2) := dk_16 hN_cX11_cell rfl rfl rfl
theorem dX11_cell_2 : decode cX11_cell 2 = .ok (.iload_n 0, 1) := dk_26 hN_cX11_cell rfl rfl
theorem dX11_cell_3 : decode cX11_cell 3 = .ok (.imul, 1) := dk_104 hN_cX11_cell rfl rfl
theorem dX11_cell_4 : decode cX11_cell 4 = .ok (.iload_n 1, 1) := dk_27 hN_cX11_cell rfl rfl
theorem dX11_cell_5 : decode cX11_cell 5 = .ok (.iadd, 1) := dk_96 hN_cX11_cell rfl rfl
theorem dX11_cell_6 : decode cX11_cell 6 = .ok (.ireturn, 1) := dk_172 hN_cX11_cell rfl rfl
theorem dX11_layTab_0 : decode cX11_layTab 0 = .ok (.aload_n 0, 1) := dk_42 hN_cX11_layTab rfl rfl
theorem dX11_layTab_1 : decode cX11_layTab 1 = .ok (.invokevirtual 251, 3) := dk_182 hN_cX11_layTab rfl rfl rfl
theorem dX11_layTab_4 : decode cX11_layTab 4 = .ok (.istore_n 1, 1) := dk_60 hN_cX11_layTab rfl rfl
theorem dX11_layTab_5 : decode cX11_layTab 5 = .ok (.aload_n 0, 1) := dk_42 hN_cX11_layTab rfl rfl
theorem dX11_layTab_6 : decode cX11_layTab 6 = .ok (.iconst 0, 1) := dk_3 hN_cX11_layTab rfl rfl
theorem dX11_layTab_7 : decode cX11_layTab 7 = .ok (.putfield 254, 3) := dk_181 hN_cX11_layTab rfl rfl rfl
theorem dX11_layTab_10 : decode cX11_layTab 10 = .ok (.iconst 0, 1) := dk_3 hN_cX11_layTab rfl rfl
theorem dX11_layTab_11 : decode cX11_layTab 11 = .ok (.istore_n 2, 1) := dk_61 hN_cX11_layTab rfl rfl
theorem dX11_layTab_12 : decode cX11_layTab 12 = .ok (.iload_n 2, 1) := dk_28 hN_cX11_layTab rfl rfl
theorem dX11_layTab_13 : decode cX11_layTab 13 = .ok (.aload_n 0, 1) := dk_42 hN_cX11_layTab rfl rfl
theorem dX11_layTab_14 : decode cX11_layTab 14 = .ok (.getfield 20, 3) := dk_180 hN_cX11_layTab rfl rfl rfl
theorem dX11_layTab_17 : decode cX11_layTab 17 = .ok (.iconst 0, 1) := dk_3 hN_cX11_layTab rfl rfl
theorem dX11_layTab_18 : decode cX11_layTab 18 = .ok (.iaload, 1) := dk_46 hN_cX11_layTab rfl rfl
theorem dX11_layTab_19 : decode cX11_layTab 19 = .ok (.if_icmp .ge 26, 3) := dk_162 hN_cX11_layTab rfl rfl rfl
theorem dX11_layTab_45 : decode cX11_layTab 45 = .ok (.aload_n 0, 1) := dk_42 hN_cX11_layTab rfl rfl
theorem dX11_layTab_46 : decode cX11_layTab 46 = .ok (.iload_n 1, 1) := dk_27 hN_cX11_layTab rfl rfl
theorem dX11_layTab_47 : decode cX11_layTab 47 = .ok (.aload_n 0, 1) := dk_42 hN_cX11_layTab rfl rfl
theorem dX11_layTab_48 : decode cX11_layTab 48 = .ok (.getfield 254, 3) := dk_180 hN_cX11_layTab rfl rfl rfl
theorem dX11_layTab_51 : decode cX11_layTab 51 = .ok (.iadd, 1) := dk_96 hN_cX11_layTab rfl rfl
theorem dX11_layTab_52 : decode cX11_layTab 52 = .ok (.iconst 1, 1) := dk_4 hN_cX11_layTab rfl rfl
theorem dX11_layTab_53 : decode cX11_layTab 53 = .ok (.iadd, 1) := dk_96 hN_cX11_layTab rfl rfl
theorem dX11_layTab_54 : decode cX11_layTab 54 = .ok (.putfield 257, 3) := dk_181 hN_cX11_layTab rfl rfl rfl
theorem dX11_layTab_57 : decode cX11_layTab 57 = .ok (.iconst 0, 1) := dk_3 hN_cX11_layTab rfl rfl
theorem dX11_layTab_58 : decode cX11_layTab 58 = .ok (.istore_n 2, 1) := dk_61 hN_cX11_layTab rfl rfl
theorem dX11_layTab_22 : decode cX11_layTab 22 = .ok (.aload_n 0, 1) := dk_42 hN_cX11_layTab rfl rfl
theorem dX11_layTab_23 : decode cX11_layTab 23 = .ok (.dup, 1) := dk_89 hN_cX11_layTab rfl rfl
theorem dX11_layTab_24 : decode cX11_layTab 24 = .ok (.getfield 254, 3) := dk_180 hN_cX11_layTab rfl rfl rfl
theorem dX11_layTab_27 : decode cX11_layTab 27 = .ok (.aload_n 0, 1) := dk_42 hN_cX11_layTab rfl rfl
theorem dX11_layTab_28 : decode cX11_layTab 28 = .ok (.getfield 20, 3) := dk_180 hN_cX11_layTab rfl rfl rfl
theorem dX11_layTab_31 : decode cX11_layTab 31 = .ok (.iload_n 2, 1) := dk_28 hN_cX11_layTab rfl rfl
theorem dX11_layTab_32 : decode cX11_layTab 32 = .ok (.invokestatic 247, 3) := dk_184 hN_cX11_layTab rfl rfl rfl
theorem dX11_layTab_35 : decode cX11_layTab 35 = .ok (.iadd, 1) := dk_96 hN_cX11_layTab rfl rfl
theorem dX11_layTab_36 : decode cX11_layTab 36 = .ok (.putfield 254, 3) := dk_181 hN_cX11_layTab rfl rfl rfl
theorem dX11_layTab_39 : decode cX11_layTab 39 = .ok (.iinc 2 1, 3) := dk_132 hN_cX11_layTab rfl rfl rfl rfl
theorem dX11_layTab_42 : decode cX11_layTab 42 = .ok (.goto (-30), 3) := dk_167 hN_cX11_layTab rfl rfl rfl
theorem dX11_layTab_59 : decode cX11_layTab 59 = .ok (.iload_n 2, 1) := dk_28 hN_cX11_layTab rfl rfl
theorem dX11_layTab_60 : decode cX11_layTab 60 = .ok (.sipush 3298, 3) := dk_17 hN_cX11_layTab rfl rfl rfl
theorem dX11_layTab_63 : decode cX11_layTab 63 = .ok (.if_icmp .ge 16, 3) := dk_162 hN_cX11_layTab rfl rfl rfl
theorem dX11_layTab_79 : decode cX11_layTab 79 = .ok (.iconst 0, 1) := dk_3 hN_cX11_layTab rfl rfl
theorem dX11_layTab_80 : decode cX11_layTab 80 = .ok (.istore_n 2, 1) := dk_61 hN_cX11_layTab rfl rfl
theorem dX11_layTab_81 : decode cX11_layTab 81 = .ok (.iconst 0, 1) := dk_3 hN_cX11_layTab rfl rfl
theorem dX11_layTab_82 : decode cX11_layTab 82 = .ok (.istore_n 3, 1) := dk_62 hN_cX11_layTab rfl rfl
theorem dX11_layTab_66 : decode cX11_layTab 66 = .ok (.aload_n 0, 1) := dk_42 hN_cX11_layTab rfl rfl
theorem dX11_layTab_67 : decode cX11_layTab 67 = .ok (.getfield 47, 3) := dk_180 hN_cX11_layTab rfl rfl rfl
theorem dX11_layTab_70 : decode cX11_layTab 70 = .ok (.iload_n 2, 1) := dk_28 hN_cX11_layTab rfl rfl
theorem dX11_layTab_71 : decode cX11_layTab 71 = .ok (.lconst 0, 1) := dk_9 hN_cX11_layTab rfl rfl
theorem dX11_layTab_72 : decode cX11_layTab 72 = .ok (.lastore, 1) := dk_80 hN_cX11_layTab rfl rfl
theorem dX11_layTab_73 : decode cX11_layTab 73 = .ok (.iinc 2 1, 3) := dk_132 hN_cX11_layTab rfl rfl rfl rfl
theorem dX11_layTab_76 : decode cX11_layTab 76 = .ok (.goto (-17), 3) := dk_167 hN_cX11_layTab rfl rfl rfl
theorem dX11_layTab_83 : decode cX11_layTab 83 = .ok (.iload_n 3, 1) := dk_29 hN_cX11_layTab rfl rfl
theorem dX11_layTab_84 : decode cX11_layTab 84 = .ok (.aload_n 0, 1) := dk_42 hN_cX11_layTab rfl rfl
theorem dX11_layTab_85 : decode cX11_layTab 85 = .ok (.getfield 20, 3) := dk_180 hN_cX11_layTab rfl rfl rfl
theorem dX11_layTab_88 : decode cX11_layTab 88 = .ok (.iconst 0, 1) := dk_3 hN_cX11_layTab rfl rfl
theorem dX11_layTab_89 : decode cX11_layTab 89 = .ok (.iaload, 1) := dk_46 hN_cX11_layTab rfl rfl
theorem dX11_layTab_90 : decode cX11_layTab 90 = .ok (.if_icmp .ge 129, 3) := dk_162 hN_cX11_layTab rfl rfl rfl
theorem dX11_layTab_219 : decode cX11_layTab 219 = .ok (.iconst 0, 1) := dk_3 hN_cX11_layTab rfl rfl
theorem dX11_layTab_220 : decode cX11_layTab 220 = .ok (.istore_n 3, 1) := dk_62 hN_cX11_layTab rfl rfl
theorem dX11_layTab_93 : decode cX11_layTab 93 = .ok (.iconst 0, 1) := dk_3 hN_cX11_layTab rfl rfl
theorem dX11_layTab_94 : decode cX11_layTab 94 = .ok (.istore 4, 2) := dk_54 hN_cX11_layTab rfl rfl rfl
theorem dX11_layTab_96 : decode cX11_layTab 96 = .ok (.iload 4, 2) := dk_21 hN_cX11_layTab rfl rfl rfl
theorem dX11_layTab_98 : decode cX11_layTab 98 = .ok (.aload_n 0, 1) := dk_42 hN_cX11_layTab rfl rfl
theorem dX11_layTab_99 : decode cX11_layTab 99 = .ok (.getfield 20, 3) := dk_180 hN_cX11_layTab rfl rfl rfl
theorem dX11_layTab_102 : decode cX11_layTab 102 = .ok (.iload_n 3, 1) := dk_29 hN_cX11_layTab rfl rfl
theorem dX11_layTab_103 : decode cX11_layTab 103 = .ok (.invokestatic 247, 3) := dk_184 hN_cX11_layTab rfl rfl rfl
theorem dX11_layTab_106 : decode cX11_layTab 106 = .ok (.if_icmp .ge 107, 3) := dk_162 hN_cX11_layTab rfl rfl rfl
theorem dX11_layTab_213 : decode cX11_layTab 213 = .ok (.iinc 3 1, 3) := dk_132 hN_cX11_layTab rfl rfl rfl rfl
theorem dX11_layTab_216 : decode cX11_layTab 216 = .ok (.goto (-133), 3) := dk_167 hN_cX11_layTab rfl rfl rfl
theorem dX11_layTab_109 : decode cX11_layTab 109 = .ok (.iconst 0, 1) := dk_3 hN_cX11_layTab rfl rfl
theorem dX11_layTab_110 : decode cX11_layTab 110 = .ok (.istore 5, 2) := dk_54 hN_cX11_layTab rfl rfl rfl
theorem dX11_layTab_112 : decode cX11_layTab 112 = .ok (.iload 5, 2) := dk_21 hN_cX11_layTab rfl rfl rfl
theorem dX11_layTab_114 : decode cX11_layTab 114 = .ok (.iload_n 1, 1) := dk_27 hN_cX11_layTab rfl rfl
theorem dX11_layTab_115 : decode cX11_layTab 115 = .ok (.if_icmp .ge 37, 3) := dk_162 hN_cX11_layTab rfl rfl rfl
theorem dX11_layTab_152 : decode cX11_layTab 152 = .ok (.aload_n 0, 1) := dk_42 hN_cX11_layTab rfl rfl
theorem dX11_layTab_153 : decode cX11_layTab 153 = .ok (.getfield 47, 3) := dk_180 hN_cX11_layTab rfl rfl rfl
theorem dX11_layTab_156 : decode cX11_layTab 156 = .ok (.iload_n 2, 1) := dk_28 hN_cX11_layTab rfl rfl
theorem dX11_layTab_157 : decode cX11_layTab 157 = .ok (.iload_n 1, 1) := dk_27 hN_cX11_layTab rfl rfl
theorem dX11_layTab_158 : decode cX11_layTab 158 = .ok (.iload_n 2, 1) := dk_28 hN_cX11_layTab rfl rfl
theorem dX11_layTab_159 : decode cX11_layTab 159 = .ok (.iadd, 1) := dk_96 hN_cX11_layTab rfl rfl
theorem dX11_layTab_160 : decode cX11_layTab 160 = .ok (.invokestatic 260, 3) := dk_184 hN_cX11_layTab rfl rfl rfl
theorem dX11_layTab_163 : decode cX11_layTab 163 = .ok (.lconst 1, 1) := dk_10 hN_cX11_layTab rfl rfl
theorem dX11_layTab_164 : decode cX11_layTab 164 = .ok (.lastore, 1) := dk_80 hN_cX11_layTab rfl rfl
theorem dX11_layTab_165 : decode cX11_layTab 165 = .ok (.aload_n 0, 1) := dk_42 hN_cX11_layTab rfl rfl
theorem dX11_layTab_166 : decode cX11_layTab 166 = .ok (.getfield 47, 3) := dk_180 hN_cX11_layTab rfl rfl rfl
theorem dX11_layTab_169 : decode cX11_layTab 169 = .ok (.iload_n 2, 1) := dk_28 hN_cX11_layTab rfl rfl
theorem dX11_layTab_170 : decode cX11_layTab 170 = .ok (.aload_n 0, 1) := dk_42 hN_cX11_layTab rfl rfl
theorem dX11_layTab_171 : decode cX11_layTab 171 = .ok (.getfield 257, 3) := dk_180 hN_cX11_layTab rfl rfl rfl
theorem dX11_layTab_174 : decode cX11_layTab 174 = .ok (.iconst 1, 1) := dk_4 hN_cX11_layTab rfl rfl
theorem dX11_layTab_175 : decode cX11_layTab 175 = .ok (.isub, 1) := dk_100 hN_cX11_layTab rfl rfl
theorem dX11_layTab_176 : decode cX11_layTab 176 = .ok (.invokestatic 260, 3) := dk_184 hN_cX11_layTab rfl rfl rfl
theorem dX11_layTab_179 : decode cX11_layTab 179 = .ok (.aload_n 0, 1) := dk_42 hN_cX11_layTab rfl rfl
theorem dX11_layTab_180 : decode cX11_layTab 180 = .ok (.getfield 20, 3) := dk_180 hN_cX11_layTab rfl rfl rfl
theorem dX11_layTab_183 : decode cX11_layTab 183 = .ok (.bipush 17, 2) := dk_16 hN_cX11_layTab rfl rfl rfl
theorem dX11_layTab_185 : decode cX11_layTab 185 = .ok (.iconst 4, 1) := dk_7 hN_cX11_layTab rfl rfl
theorem dX11_layTab_186 : decode cX11_layTab 186 = .ok (.iload_n 3, 1) := dk_29 hN_cX11_layTab rfl rfl
theorem dX11_layTab_187 : decode cX11_layTab 187 = .ok (.imul, 1) := dk_104 hN_cX11_layTab rfl rfl
theorem dX11_layTab_188 : decode cX11_layTab 188 = .ok (.iadd, 1) := dk_96 hN_cX11_layTab rfl rfl
theorem dX11_layTab_189 : decode cX11_layTab 189 = .ok (.iload 4, 2) := dk_21 hN_cX11_layTab rfl rfl rfl
theorem dX11_layTab_191 : decode cX11_layTab 191 = .ok (.iadd, 1) := dk_96 hN_cX11_layTab rfl rfl
theorem dX11_layTab_192 : decode cX11_layTab 192 = .ok (.iaload, 1) := dk_46 hN_cX11_layTab rfl rfl
theorem dX11_layTab_193 : decode cX11_layTab 193 = .ok (.i2l, 1) := dk_133 hN_cX11_layTab rfl rfl
theorem dX11_layTab_194 : decode cX11_layTab 194 = .ok (.lastore, 1) := dk_80 hN_cX11_layTab rfl rfl
theorem dX11_layTab_195 : decode cX11_layTab 195 = .ok (.aload_n 0, 1) := dk_42 hN_cX11_layTab rfl rfl
theorem dX11_layTab_196 : decode cX11_layTab 196 = .ok (.getfield 51, 3) := dk_180 hN_cX11_layTab rfl rfl rfl
theorem dX11_layTab_199 : decode cX11_layTab 199 = .ok (.iload_n 2, 1) := dk_28 hN_cX11_layTab rfl rfl
theorem dX11_layTab_200 : decode cX11_layTab 200 = .ok (.iload_n 1, 1) := dk_27 hN_cX11_layTab rfl rfl
theorem dX11_layTab_201 : decode cX11_layTab 201 = .ok (.iload_n 2, 1) := dk_28 hN_cX11_layTab rfl rfl
theorem dX11_layTab_202 : decode cX11_layTab 202 = .ok (.iadd, 1) := dk_96 hN_cX11_layTab rfl rfl
theorem dX11_layTab_203 : decode cX11_layTab 203 = .ok (.iastore, 1) := dk_79 hN_cX11_layTab rfl rfl
theorem dX11_layTab_204 : decode cX11_layTab 204 = .ok (.iinc 2 1, 3) := dk_132 hN_cX11_layTab rfl rfl rfl rfl
theorem dX11_layTab_207 : decode cX11_layTab 207 = .ok (.iinc 4 1, 3) := dk_132 hN_cX11_layTab rfl rfl rfl rfl
theorem dX11_layTab_210 : decode cX11_layTab 210 = .ok (.goto (-114), 3) := dk_167 hN_cX11_layTab rfl rfl rfl
theorem dX11_layTab_118 : decode cX11_layTab 118 = .ok (.aload_n 0, 1) := dk_42 hN_cX11_layTab rfl rfl
theorem dX11_layTab_119 : decode cX11_layTab 119 = .ok (.getfield 47, 3) := dk_180 hN_cX11_layTab rfl rfl rfl
theorem dX11_layTab_122 : decode cX11_layTab 122 = .ok (.iload_n 2, 1) := dk_28 hN_cX11_layTab rfl rfl
theorem dX11_layTab_123 : decode cX11_layTab 123 = .ok (.iload 5, 2) := dk_21 hN_cX11_layTab rfl rfl rfl
theorem dX11_layTab_125 : decode cX11_layTab 125 = .ok (.invokestatic 260, 3) := dk_184 hN_cX11_layTab rfl rfl rfl
theorem dX11_layTab_128 : decode cX11_layTab 128 = .ok (.aload_n 0, 1) := dk_42 hN_cX11_layTab rfl rfl
theorem dX11_layTab_129 : decode cX11_layTab 129 = .ok (.iload_n 3, 1) := dk_29 hN_cX11_layTab rfl rfl
theorem dX11_layTab_130 : decode cX11_layTab 130 = .ok (.iload 5, 2) := dk_21 hN_cX11_layTab rfl rfl rfl
theorem dX11_layTab_132 : decode cX11_layTab 132 = .ok (.invokevirtual 263, 3) := dk_182 hN_cX11_layTab rfl rfl rfl
theorem dX11_layTab_135 : decode cX11_layTab 135 = .ok (.iload 4, 2) := dk_21 hN_cX11_layTab rfl rfl rfl
theorem dX11_layTab_137 : decode cX11_layTab 137 = .ok (.if_icmp .ne 7, 3) := dk_160 hN_cX11_layTab rfl rfl rfl
theorem dX11_layTab_144 : decode cX11_layTab 144 = .ok (.lconst 0, 1) := dk_9 hN_cX11_layTab rfl rfl
theorem dX11_layTab_145 : decode cX11_layTab 145 = .ok (.lastore, 1) := dk_80 hN_cX11_layTab rfl rfl
theorem dX11_layTab_146 : decode cX11_layTab 146 = .ok (.iinc 5 1, 3) := dk_132 hN_cX11_layTab rfl rfl rfl rfl
theorem dX11_layTab_149 : decode cX11_layTab 149 = .ok (.goto (-37), 3) := dk_167 hN_cX11_layTab rfl rfl rfl
theorem dX11_layTab_140 : decode cX11_layTab 140 = .ok (.lconst 1, 1) := dk_10 hN_cX11_layTab rfl rfl
theorem dX11_layTab_141 : decode cX11_layTab 141 = .ok (.goto 4, 3) := dk_167 hN_cX11_layTab rfl rfl rfl
theorem dX11_layTab_221 : decode cX11_layTab 221 = .ok (.iload_n 3, 1) := dk_29 hN_cX11_layTab rfl rfl
theorem dX11_layTab_222 : decode cX11_layTab 222 = .ok (.iload_n 1, 1) := dk_27 hN_cX11_layTab rfl rfl
theorem dX11_layTab_223 : decode cX11_layTab 223 = .ok (.if_icmp .ge 25, 3) := dk_162 hN_cX11_layTab rfl rfl rfl
theorem dX11_layTab_248 : decode cX11_layTab 248 = .ok (.aload_n 0, 1) := dk_42 hN_cX11_layTab rfl rfl
theorem dX11_layTab_249 : decode cX11_layTab 249 = .ok (.lconst 1, 1) := dk_10 hN_cX11_layTab rfl rfl
theorem dX11_layTab_250 : decode cX11_layTab 250 = .ok (.putfield 268, 3) := dk_181 hN_cX11_layTab rfl rfl rfl
theorem dX11_layTab_253 : decode cX11_layTab 253 = .ok (.return_, 1) := dk_177 hN_cX11_layTab rfl rfl
theorem dX11_layTab_226 : decode cX11_layTab 226 = .ok (.aload_n 0, 1) := dk_42 hN_cX11_layTab rfl rfl
theorem dX11_layTab_227 : decode cX11_layTab 227 = .ok (.getfield 47, 3) := dk_180 hN_cX11_layTab rfl rfl rfl
theorem dX11_layTab_230 : decode cX11_layTab 230 = .ok (.aload_n 0, 1) := dk_42 hN_cX11_layTab rfl rfl
theorem dX11_layTab_231 : decode cX11_layTab 231 = .ok (.getfield 254, 3) := dk_180 hN_cX11_layTab rfl rfl rfl
theorem dX11_layTab_234 : decode cX11_layTab 234 = .ok (.iload_n 3, 1) := dk_29 hN_cX11_layTab rfl rfl
theorem dX11_layTab_235 : decode cX11_layTab 235 = .ok (.invokestatic 260, 3) := dk_184 hN_cX11_layTab rfl rfl rfl
theorem dX11_layTab_238 : decode cX11_layTab 238 = .ok (.ldc2_w 266, 3) := dk_20 hN_cX11_layTab rfl rfl rfl
theorem dX11_layTab_241 : decode cX11_layTab 241 = .ok (.lastore, 1) := dk_80 hN_cX11_layTab rfl rfl
theorem dX11_layTab_242 : decode cX11_layTab 242 = .ok (.iinc 3 1, 3) := dk_132 hN_cX11_layTab rfl rfl rfl rfl
theorem dX11_layTab_245 : decode cX11_layTab 245 = .ok (.goto (-24), 3) := dk_167 hN_cX11_layTab rfl rfl rfl
theorem dX11_turnOver_0 : decode cX11_turnOver 0 = .ok (.aload_n 0, 1) := dk_42 hN_cX11_turnOver rfl rfl
theorem dX11_turnOver_1 : decode cX11_turnOver 1 = .ok (.getfield 47, 3) := dk_180 hN_cX11_turnOver rfl rfl rfl
theorem dX11_turnOver_4 : decode cX11_turnOver 4 = .ok (.iload_n 1, 1) := dk_27 hN_cX11_turnOver rfl rfl
theorem dX11_turnOver_5 : decode cX11_turnOver 5 = .ok (.iload_n 2, 1) := dk_28 hN_cX11_turnOver rfl rfl
theorem dX11_turnOver_6 : decode cX11_turnOver 6 = .ok (.invokestatic 260, 3) := dk_184 hN_cX11_turnOver rfl rfl rfl
theorem dX11_turnOver_9 : decode cX11_turnOver 9 = .ok (.laload, 1) := dk_47 hN_cX11_turnOver rfl rfl
theorem dX11_turnOver_10 : decode cX11_turnOver 10 = .ok (.lstore_n 3, 1) := dk_66 hN_cX11_turnOver rfl rfl
theorem dX11_turnOver_11 : decode cX11_turnOver 11 = .ok (.iconst 0, 1) := dk_3 hN_cX11_turnOver rfl rfl
theorem dX11_turnOver_12 : decode cX11_turnOver 12 = .ok (.istore 5, 2) := dk_54 hN_cX11_turnOver rfl rfl rfl
theorem dX11_turnOver_14 : decode cX11_turnOver 14 = .ok (.iload 5, 2) := dk_21 hN_cX11_turnOver rfl rfl rfl
theorem dX11_turnOver_16 : decode cX11_turnOver 16 = .ok (.aload_n 0, 1) := dk_42 hN_cX11_turnOver rfl rfl
theorem dX11_turnOver_17 : decode cX11_turnOver 17 = .ok (.getfield 254, 3) := dk_180 hN_cX11_turnOver rfl rfl rfl
theorem dX11_turnOver_20 : decode cX11_turnOver 20 = .ok (.iconst 1, 1) := dk_4 hN_cX11_turnOver rfl rfl
theorem dX11_turnOver_21 : decode cX11_turnOver 21 = .ok (.iadd, 1) := dk_96 hN_cX11_turnOver rfl rfl
theorem dX11_turnOver_22 : decode cX11_turnOver 22 = .ok (.if_icmp .gt 95, 3) := dk_163 hN_cX11_turnOver rfl rfl rfl
theorem dX11_turnOver_117 : decode cX11_turnOver 117 = .ok (.aload_n 0, 1) := dk_42 hN_cX11_turnOver rfl rfl
theorem dX11_turnOver_118 : decode cX11_turnOver 118 = .ok (.lload_n 3, 1) := dk_33 hN_cX11_turnOver rfl rfl
theorem dX11_turnOver_119 : decode cX11_turnOver 119 = .ok (.putfield 268, 3) := dk_181 hN_cX11_turnOver rfl rfl rfl
theorem dX11_turnOver_122 : decode cX11_turnOver 122 = .ok (.aload_n 0, 1) := dk_42 hN_cX11_turnOver rfl rfl
theorem dX11_turnOver_123 : decode cX11_turnOver 123 = .ok (.getfield 51, 3) := dk_180 hN_cX11_turnOver rfl rfl rfl
theorem dX11_turnOver_126 : decode cX11_turnOver 126 = .ok (.iload_n 1, 1) := dk_27 hN_cX11_turnOver rfl rfl
theorem dX11_turnOver_127 : decode cX11_turnOver 127 = .ok (.iload_n 2, 1) := dk_28 hN_cX11_turnOver rfl rfl
theorem dX11_turnOver_128 : decode cX11_turnOver 128 = .ok (.iastore, 1) := dk_79 hN_cX11_turnOver rfl rfl
theorem dX11_turnOver_129 : decode cX11_turnOver 129 = .ok (.return_, 1) := dk_177 hN_cX11_turnOver rfl rfl
theorem dX11_turnOver_25 : decode cX11_turnOver 25 = .ok (.iload 5, 2) := dk_21 hN_cX11_turnOver rfl rfl rfl
theorem dX11_turnOver_27 : decode cX11_turnOver 27 = .ok (.iload_n 1, 1) := dk_27 hN_cX11_turnOver rfl rfl
theorem dX11_turnOver_28 : decode cX11_turnOver 28 = .ok (.if_icmp .ne 6, 3) := dk_160 hN_cX11_turnOver rfl rfl rfl
theorem dX11_turnOver_34 : decode cX11_turnOver 34 = .ok (.aload_n 0, 1) := dk_42 hN_cX11_turnOver rfl rfl
theorem dX11_turnOver_35 : decode cX11_turnOver 35 = .ok (.getfield 47, 3) := dk_180 hN_cX11_turnOver rfl rfl rfl
theorem dX11_turnOver_38 : decode cX11_turnOver 38 = .ok (.iload 5, 2) := dk_21 hN_cX11_turnOver rfl rfl rfl
theorem dX11_turnOver_40 : decode cX11_turnOver 40 = .ok (.iload_n 2, 1) := dk_28 hN_cX11_turnOver rfl rfl
theorem dX11_turnOver_41 : decode cX11_turnOver 41 = .ok (.invokestatic 260, 3) := dk_184 hN_cX11_turnOver rfl rfl rfl
theorem dX11_turnOver_44 : decode cX11_turnOver 44 = .ok (.laload, 1) := dk_47 hN_cX11_turnOver rfl rfl
theorem dX11_turnOver_45 : decode cX11_turnOver 45 = .ok (.lstore 6, 2) := dk_55 hN_cX11_turnOver rfl rfl rfl
theorem dX11_turnOver_47 : decode cX11_turnOver 47 = .ok (.iconst 0, 1) := dk_3 hN_cX11_turnOver rfl rfl
theorem dX11_turnOver_48 : decode cX11_turnOver 48 = .ok (.istore 8, 2) := dk_54 hN_cX11_turnOver rfl rfl rfl
theorem dX11_turnOver_31 : decode cX11_turnOver 31 = .ok (.goto 80, 3) := dk_167 hN_cX11_turnOver rfl rfl rfl
theorem dX11_turnOver_111 : decode cX11_turnOver 111 = .ok (.iinc 5 1, 3) := dk_132 hN_cX11_turnOver rfl rfl rfl rfl
theorem dX11_turnOver_114 : decode cX11_turnOver 114 = .ok (.goto (-100), 3) := dk_167 hN_cX11_turnOver rfl rfl rfl
theorem dX11_turnOver_50 : decode cX11_turnOver 50 = .ok (.iload 8, 2) := dk_21 hN_cX11_turnOver rfl rfl rfl
theorem dX11_turnOver_52 : decode cX11_turnOver 52 = .ok (.aload_n 0, 1) := dk_42 hN_cX11_turnOver rfl rfl
theorem dX11_turnOver_53 : decode cX11_turnOver 53 = .ok (.getfield 257, 3) := dk_180 hN_cX11_turnOver rfl rfl rfl
theorem dX11_turnOver_56 : decode cX11_turnOver 56 = .ok (.if_icmp .ge 55, 3) := dk_162 hN_cX11_turnOver rfl rfl rfl
theorem dX11_turnOver_59 : decode cX11_turnOver 59 = .ok (.aload_n 0, 1) := dk_42 hN_cX11_turnOver rfl rfl
theorem dX11_turnOver_60 : decode cX11_turnOver 60 = .ok (.getfield 47, 3) := dk_180 hN_cX11_turnOver rfl rfl rfl
theorem dX11_turnOver_63 : decode cX11_turnOver 63 = .ok (.iload 5, 2) := dk_21 hN_cX11_turnOver rfl rfl rfl
theorem dX11_turnOver_65 : decode cX11_turnOver 65 = .ok (.iload 8, 2) := dk_21 hN_cX11_turnOver rfl rfl rfl
theorem dX11_turnOver_67 : decode cX11_turnOver 67 = .ok (.invokestatic 260, 3) := dk_184 hN_cX11_turnOver rfl rfl rfl
theorem dX11_turnOver_70 : decode cX11_turnOver 70 = .ok (.aload_n 0, 1) := dk_42 hN_cX11_turnOver rfl rfl
theorem dX11_turnOver_71 : decode cX11_turnOver 71 = .ok (.getfield 47, 3) := dk_180 hN_cX11_turnOver rfl rfl rfl
theorem dX11_turnOver_74 : decode cX11_turnOver 74 = .ok (.iload 5, 2) := dk_21 hN_cX11_turnOver rfl rfl rfl
theorem dX11_turnOver_76 : decode cX11_turnOver 76 = .ok (.iload 8, 2) := dk_21 hN_cX11_turnOver rfl rfl rfl
theorem dX11_turnOver_78 : decode cX11_turnOver 78 = .ok (.invokestatic 260, 3) := dk_184 hN_cX11_turnOver rfl rfl rfl
theorem dX11_turnOver_81 : decode cX11_turnOver 81 = .ok (.laload, 1) := dk_47 hN_cX11_turnOver rfl rfl
theorem dX11_turnOver_82 : decode cX11_turnOver 82 = .ok (.lload_n 3, 1) := dk_33 hN_cX11_turnOver rfl rfl
theorem dX11_turnOver_83 : decode cX11_turnOver 83 = .ok (.lmul, 1) := dk_105 hN_cX11_turnOver rfl rfl
theorem dX11_turnOver_84 : decode cX11_turnOver 84 = .ok (.lload 6, 2) := dk_22 hN_cX11_turnOver rfl rfl rfl
theorem dX11_turnOver_86 : decode cX11_turnOver 86 = .ok (.aload_n 0, 1) := dk_42 hN_cX11_turnOver rfl rfl
theorem dX11_turnOver_87 : decode cX11_turnOver 87 = .ok (.getfield 47, 3) := dk_180 hN_cX11_turnOver rfl rfl rfl
theorem dX11_turnOver_90 : decode cX11_turnOver 90 = .ok (.iload_n 1, 1) := dk_27 hN_cX11_turnOver rfl rfl
theorem dX11_turnOver_91 : decode cX11_turnOver 91 = .ok (.iload 8, 2) := dk_21 hN_cX11_turnOver rfl rfl rfl
theorem dX11_turnOver_93 : decode cX11_turnOver 93 = .ok (.invokestatic 260, 3) := dk_184 hN_cX11_turnOver rfl rfl rfl
theorem dX11_turnOver_96 : decode cX11_turnOver 96 = .ok (.laload, 1) := dk_47 hN_cX11_turnOver rfl rfl
theorem dX11_turnOver_97 : decode cX11_turnOver 97 = .ok (.lmul, 1) := dk_105 hN_cX11_turnOver rfl rfl
theorem dX11_turnOver_98 : decode cX11_turnOver 98 = .ok (.lsub, 1) := dk_101 hN_cX11_turnOver rfl rfl
theorem dX11_turnOver_99 : decode cX11_turnOver 99 = .ok (.aload_n 0, 1) := dk_42 hN_cX11_turnOver rfl rfl
theorem dX11_turnOver_100 : decode cX11_turnOver 100 = .ok (.getfield 268, 3) := dk_180 hN_cX11_turnOver rfl rfl rfl
theorem dX11_turnOver_103 : decode cX11_turnOver 103 = .ok (.ldiv, 1) := dk_109 hN_cX11_turnOver rfl rfl
theorem dX11_turnOver_104 : decode cX11_turnOver 104 = .ok (.lastore, 1) := dk_80 hN_cX11_turnOver rfl rfl
theorem dX11_turnOver_105 : decode cX11_turnOver 105 = .ok (.iinc 8 1, 3) := dk_132 hN_cX11_turnOver rfl rfl rfl rfl
theorem dX11_turnOver_108 : decode cX11_turnOver 108 = .ok (.goto (-58), 3) := dk_167 hN_cX11_turnOver rfl rfl rfl
theorem dX11_bounding_0 : decode cX11_bounding 0 = .ok (.iconst (-1), 1) := dk_2 hN_cX11_bounding rfl rfl
theorem dX11_bounding_1 : decode cX11_bounding 1 = .ok (.istore_n 2, 1) := dk_61 hN_cX11_bounding rfl rfl
theorem dX11_bounding_2 : decode cX11_bounding 2 = .ok (.iconst 0, 1) := dk_3 hN_cX11_bounding rfl rfl
theorem dX11_bounding_3 : decode cX11_bounding 3 = .ok (.istore_n 3, 1) := dk_62 hN_cX11_bounding rfl rfl
theorem dX11_bounding_4 : decode cX11_bounding 4 = .ok (.iload_n 3, 1) := dk_29 hN_cX11_bounding rfl rfl
theorem dX11_bounding_5 : decode cX11_bounding 5 = .ok (.aload_n 0, 1) := dk_42 hN_cX11_bounding rfl rfl
theorem dX11_bounding_6 : decode cX11_bounding 6 = .ok (.getfield 254, 3) := dk_180 hN_cX11_bounding rfl rfl rfl
theorem dX11_bounding_9 : decode cX11_bounding 9 = .ok (.if_icmp .ge 125, 3) := dk_162 hN_cX11_bounding rfl rfl rfl
theorem dX11_bounding_134 : decode cX11_bounding 134 = .ok (.iload_n 2, 1) := dk_28 hN_cX11_bounding rfl rfl
theorem dX11_bounding_135 : decode cX11_bounding 135 = .ok (.ireturn, 1) := dk_172 hN_cX11_bounding rfl rfl
theorem dX11_bounding_12 : decode cX11_bounding 12 = .ok (.aload_n 0, 1) := dk_42 hN_cX11_bounding rfl rfl
theorem dX11_bounding_13 : decode cX11_bounding 13 = .ok (.getfield 47, 3) := dk_180 hN_cX11_bounding rfl rfl rfl
theorem dX11_bounding_16 : decode cX11_bounding 16 = .ok (.iload_n 3, 1) := dk_29 hN_cX11_bounding rfl rfl
theorem dX11_bounding_17 : decode cX11_bounding 17 = .ok (.iload_n 1, 1) := dk_27 hN_cX11_bounding rfl rfl
theorem dX11_bounding_18 : decode cX11_bounding 18 = .ok (.invokestatic 260, 3) := dk_184 hN_cX11_bounding rfl rfl rfl
theorem dX11_bounding_21 : decode cX11_bounding 21 = .ok (.laload, 1) := dk_47 hN_cX11_bounding rfl rfl
theorem dX11_bounding_22 : decode cX11_bounding 22 = .ok (.lstore 4, 2) := dk_55 hN_cX11_bounding rfl rfl rfl
theorem dX11_bounding_24 : decode cX11_bounding 24 = .ok (.lload 4, 2) := dk_22 hN_cX11_bounding rfl rfl rfl
theorem dX11_bounding_26 : decode cX11_bounding 26 = .ok (.lconst 0, 1) := dk_9 hN_cX11_bounding rfl rfl
theorem dX11_bounding_27 : decode cX11_bounding 27 = .ok (.lcmp, 1) := dk_148 hN_cX11_bounding rfl rfl
theorem dX11_bounding_28 : decode cX11_bounding 28 = .ok (.ifCond .gt 6, 3) := dk_157 hN_cX11_bounding rfl rfl rfl
theorem dX11_bounding_34 : decode cX11_bounding 34 = .ok (.iload_n 2, 1) := dk_28 hN_cX11_bounding rfl rfl
theorem dX11_bounding_35 : decode cX11_bounding 35 = .ok (.ifCond .ge 8, 3) := dk_156 hN_cX11_bounding rfl rfl rfl
theorem dX11_bounding_43 : decode cX11_bounding 43 = .ok (.aload_n 0, 1) := dk_42 hN_cX11_bounding rfl rfl
theorem dX11_bounding_44 : decode cX11_bounding 44 = .ok (.getfield 47, 3) := dk_180 hN_cX11_bounding rfl rfl rfl
theorem dX11_bounding_47 : decode cX11_bounding 47 = .ok (.iload_n 2, 1) := dk_28 hN_cX11_bounding rfl rfl
theorem dX11_bounding_48 : decode cX11_bounding 48 = .ok (.iload_n 1, 1) := dk_27 hN_cX11_bounding rfl rfl
theorem dX11_bounding_49 : decode cX11_bounding 49 = .ok (.invokestatic 260, 3) := dk_184 hN_cX11_bounding rfl rfl rfl
theorem dX11_bounding_52 : decode cX11_bounding 52 = .ok (.laload, 1) := dk_47 hN_cX11_bounding rfl rfl
theorem dX11_bounding_53 : decode cX11_bounding 53 = .ok (.lstore 6, 2) := dk_55 hN_cX11_bounding rfl rfl rfl
theorem dX11_bounding_55 : decode cX11_bounding 55 = .ok (.aload_n 0, 1) := dk_42 hN_cX11_bounding rfl rfl
theorem dX11_bounding_56 : decode cX11_bounding 56 = .ok (.getfield 47, 3) := dk_180 hN_cX11_bounding rfl rfl rfl
theorem dX11_bounding_59 : decode cX11_bounding 59 = .ok (.iload_n 3, 1) := dk_29 hN_cX11_bounding rfl rfl
theorem dX11_bounding_60 : decode cX11_bounding 60 = .ok (.aload_n 0, 1) := dk_42 hN_cX11_bounding rfl rfl
theorem dX11_bounding_61 : decode cX11_bounding 61 = .ok (.getfield 257, 3) := dk_180 hN_cX11_bounding rfl rfl rfl
theorem dX11_bounding_64 : decode cX11_bounding 64 = .ok (.iconst 1, 1) := dk_4 hN_cX11_bounding rfl rfl
theorem dX11_bounding_65 : decode cX11_bounding 65 = .ok (.isub, 1) := dk_100 hN_cX11_bounding rfl rfl
theorem dX11_bounding_66 : decode cX11_bounding 66 = .ok (.invokestatic 260, 3) := dk_184 hN_cX11_bounding rfl rfl rfl
theorem dX11_bounding_69 : decode cX11_bounding 69 = .ok (.laload, 1) := dk_47 hN_cX11_bounding rfl rfl
theorem dX11_bounding_70 : decode cX11_bounding 70 = .ok (.lload 6, 2) := dk_22 hN_cX11_bounding rfl rfl rfl
theorem dX11_bounding_72 : decode cX11_bounding 72 = .ok (.lmul, 1) := dk_105 hN_cX11_bounding rfl rfl
theorem dX11_bounding_73 : decode cX11_bounding 73 = .ok (.lstore 8, 2) := dk_55 hN_cX11_bounding rfl rfl rfl
theorem dX11_bounding_75 : decode cX11_bounding 75 = .ok (.aload_n 0, 1) := dk_42 hN_cX11_bounding rfl rfl
theorem dX11_bounding_76 : decode cX11_bounding 76 = .ok (.getfield 47, 3) := dk_180 hN_cX11_bounding rfl rfl rfl
theorem dX11_bounding_79 : decode cX11_bounding 79 = .ok (.iload_n 2, 1) := dk_28 hN_cX11_bounding rfl rfl
theorem dX11_bounding_80 : decode cX11_bounding 80 = .ok (.aload_n 0, 1) := dk_42 hN_cX11_bounding rfl rfl
theorem dX11_bounding_81 : decode cX11_bounding 81 = .ok (.getfield 257, 3) := dk_180 hN_cX11_bounding rfl rfl rfl
theorem dX11_bounding_84 : decode cX11_bounding 84 = .ok (.iconst 1, 1) := dk_4 hN_cX11_bounding rfl rfl
theorem dX11_bounding_85 : decode cX11_bounding 85 = .ok (.isub, 1) := dk_100 hN_cX11_bounding rfl rfl
theorem dX11_bounding_86 : decode cX11_bounding 86 = .ok (.invokestatic 260, 3) := dk_184 hN_cX11_bounding rfl rfl rfl
theorem dX11_bounding_89 : decode cX11_bounding 89 = .ok (.laload, 1) := dk_47 hN_cX11_bounding rfl rfl
theorem dX11_bounding_90 : decode cX11_bounding 90 = .ok (.lload 4, 2) := dk_22 hN_cX11_bounding rfl rfl rfl
theorem dX11_bounding_92 : decode cX11_bounding 92 = .ok (.lmul, 1) := dk_105 hN_cX11_bounding rfl rfl
theorem dX11_bounding_93 : decode cX11_bounding 93 = .ok (.lstore 10, 2) := dk_55 hN_cX11_bounding rfl rfl rfl
theorem dX11_bounding_95 : decode cX11_bounding 95 = .ok (.lload 8, 2) := dk_22 hN_cX11_bounding rfl rfl rfl
theorem dX11_bounding_97 : decode cX11_bounding 97 = .ok (.lload 10, 2) := dk_22 hN_cX11_bounding rfl rfl rfl
theorem dX11_bounding_99 : decode cX11_bounding 99 = .ok (.lcmp, 1) := dk_148 hN_cX11_bounding rfl rfl
theorem dX11_bounding_100 : decode cX11_bounding 100 = .ok (.ifCond .lt 26, 3) := dk_155 hN_cX11_bounding rfl rfl rfl
theorem dX11_bounding_126 : decode cX11_bounding 126 = .ok (.iload_n 3, 1) := dk_29 hN_cX11_bounding rfl rfl
theorem dX11_bounding_127 : decode cX11_bounding 127 = .ok (.istore_n 2, 1) := dk_61 hN_cX11_bounding rfl rfl
theorem dX11_bounding_128 : decode cX11_bounding 128 = .ok (.iinc 3 1, 3) := dk_132 hN_cX11_bounding rfl rfl rfl rfl
theorem dX11_bounding_131 : decode cX11_bounding 131 = .ok (.goto (-127), 3) := dk_167 hN_cX11_bounding rfl rfl rfl
theorem dX11_bounding_103 : decode cX11_bounding 103 = .ok (.lload 8, 2) := dk_22 hN_cX11_bounding rfl rfl rfl
theorem dX11_bounding_105 : decode cX11_bounding 105 = .ok (.lload 10, 2) := dk_22 hN_cX11_bounding rfl rfl rfl
theorem dX11_bounding_107 : decode cX11_bounding 107 = .ok (.lcmp, 1) := dk_148 hN_cX11_bounding rfl rfl
theorem dX11_bounding_108 : decode cX11_bounding 108 = .ok (.ifCond .ne 20, 3) := dk_154 hN_cX11_bounding rfl rfl rfl
theorem dX11_bounding_111 : decode cX11_bounding 111 = .ok (.aload_n 0, 1) := dk_42 hN_cX11_bounding rfl rfl
theorem dX11_bounding_112 : decode cX11_bounding 112 = .ok (.getfield 51, 3) := dk_180 hN_cX11_bounding rfl rfl rfl
theorem dX11_bounding_115 : decode cX11_bounding 115 = .ok (.iload_n 3, 1) := dk_29 hN_cX11_bounding rfl rfl
theorem dX11_bounding_116 : decode cX11_bounding 116 = .ok (.iaload, 1) := dk_46 hN_cX11_bounding rfl rfl
theorem dX11_bounding_117 : decode cX11_bounding 117 = .ok (.aload_n 0, 1) := dk_42 hN_cX11_bounding rfl rfl
theorem dX11_bounding_118 : decode cX11_bounding 118 = .ok (.getfield 51, 3) := dk_180 hN_cX11_bounding rfl rfl rfl
theorem dX11_bounding_121 : decode cX11_bounding 121 = .ok (.iload_n 2, 1) := dk_28 hN_cX11_bounding rfl rfl
theorem dX11_bounding_122 : decode cX11_bounding 122 = .ok (.iaload, 1) := dk_46 hN_cX11_bounding rfl rfl
theorem dX11_bounding_123 : decode cX11_bounding 123 = .ok (.if_icmp .ge 5, 3) := dk_162 hN_cX11_bounding rfl rfl rfl
theorem dX11_bounding_38 : decode cX11_bounding 38 = .ok (.iload_n 3, 1) := dk_29 hN_cX11_bounding rfl rfl
theorem dX11_bounding_39 : decode cX11_bounding 39 = .ok (.istore_n 2, 1) := dk_61 hN_cX11_bounding rfl rfl
theorem dX11_bounding_40 : decode cX11_bounding 40 = .ok (.goto 88, 3) := dk_167 hN_cX11_bounding rfl rfl rfl
theorem dX11_bounding_31 : decode cX11_bounding 31 = .ok (.goto 97, 3) := dk_167 hN_cX11_bounding rfl rfl rfl
theorem dX11_goesUp_0 : decode cX11_goesUp 0 = .ok (.iconst 1, 1) := dk_4 hN_cX11_goesUp rfl rfl
theorem dX11_goesUp_1 : decode cX11_goesUp 1 = .ok (.istore_n 2, 1) := dk_61 hN_cX11_goesUp rfl rfl
theorem dX11_goesUp_2 : decode cX11_goesUp 2 = .ok (.iload_n 2, 1) := dk_28 hN_cX11_goesUp rfl rfl
theorem dX11_goesUp_3 : decode cX11_goesUp 3 = .ok (.ifCond .eq 115, 3) := dk_153 hN_cX11_goesUp rfl rfl rfl
theorem dX11_goesUp_118 : decode cX11_goesUp 118 = .ok (.return_, 1) := dk_177 hN_cX11_goesUp rfl rfl
theorem dX11_goesUp_6 : decode cX11_goesUp 6 = .ok (.iconst (-1), 1) := dk_2 hN_cX11_goesUp rfl rfl
theorem dX11_goesUp_7 : decode cX11_goesUp 7 = .ok (.istore_n 3, 1) := dk_62 hN_cX11_goesUp rfl rfl
theorem dX11_goesUp_8 : decode cX11_goesUp 8 = .ok (.iconst 0, 1) := dk_3 hN_cX11_goesUp rfl rfl
theorem dX11_goesUp_9 : decode cX11_goesUp 9 = .ok (.istore 4, 2) := dk_54 hN_cX11_goesUp rfl rfl rfl
theorem dX11_goesUp_11 : decode cX11_goesUp 11 = .ok (.iload 4, 2) := dk_21 hN_cX11_goesUp rfl rfl rfl
theorem dX11_goesUp_13 : decode cX11_goesUp 13 = .ok (.aload_n 0, 1) := dk_42 hN_cX11_goesUp rfl rfl
theorem dX11_goesUp_14 : decode cX11_goesUp 14 = .ok (.getfield 257, 3) := dk_180 hN_cX11_goesUp rfl rfl rfl
theorem dX11_goesUp_17 : decode cX11_goesUp 17 = .ok (.iconst 1, 1) := dk_4 hN_cX11_goesUp rfl rfl
theorem dX11_goesUp_18 : decode cX11_goesUp 18 = .ok (.isub, 1) := dk_100 hN_cX11_goesUp rfl rfl
theorem dX11_goesUp_19 : decode cX11_goesUp 19 = .ok (.if_icmp .ge 59, 3) := dk_162 hN_cX11_goesUp rfl rfl rfl
theorem dX11_goesUp_78 : decode cX11_goesUp 78 = .ok (.iload_n 3, 1) := dk_29 hN_cX11_goesUp rfl rfl
theorem dX11_goesUp_79 : decode cX11_goesUp 79 = .ok (.ifCond .ge 7, 3) := dk_156 hN_cX11_goesUp rfl rfl rfl
theorem dX11_goesUp_86 : decode cX11_goesUp 86 = .ok (.aload_n 0, 1) := dk_42 hN_cX11_goesUp rfl rfl
theorem dX11_goesUp_87 : decode cX11_goesUp 87 = .ok (.iload_n 3, 1) := dk_29 hN_cX11_goesUp rfl rfl
theorem dX11_goesUp_88 : decode cX11_goesUp 88 = .ok (.invokevirtual 272, 3) := dk_182 hN_cX11_goesUp rfl rfl rfl
theorem dX11_goesUp_91 : decode cX11_goesUp 91 = .ok (.istore 4, 2) := dk_54 hN_cX11_goesUp rfl rfl rfl
theorem dX11_goesUp_93 : decode cX11_goesUp 93 = .ok (.iload 4, 2) := dk_21 hN_cX11_goesUp rfl rfl rfl
theorem dX11_goesUp_95 : decode cX11_goesUp 95 = .ok (.ifCond .lt 7, 3) := dk_155 hN_cX11_goesUp rfl rfl rfl
theorem dX11_goesUp_102 : decode cX11_goesUp 102 = .ok (.iconst 0, 1) := dk_3 hN_cX11_goesUp rfl rfl
theorem dX11_goesUp_103 : decode cX11_goesUp 103 = .ok (.istore_n 2, 1) := dk_61 hN_cX11_goesUp rfl rfl
theorem dX11_goesUp_104 : decode cX11_goesUp 104 = .ok (.iload_n 2, 1) := dk_28 hN_cX11_goesUp rfl rfl
theorem dX11_goesUp_105 : decode cX11_goesUp 105 = .ok (.ifCond .eq 10, 3) := dk_153 hN_cX11_goesUp rfl rfl rfl
theorem dX11_goesUp_115 : decode cX11_goesUp 115 = .ok (.goto (-113), 3) := dk_167 hN_cX11_goesUp rfl rfl rfl
theorem dX11_goesUp_98 : decode cX11_goesUp 98 = .ok (.iconst 1, 1) := dk_4 hN_cX11_goesUp rfl rfl
theorem dX11_goesUp_99 : decode cX11_goesUp 99 = .ok (.goto 4, 3) := dk_167 hN_cX11_goesUp rfl rfl rfl
theorem dX11_goesUp_108 : decode cX11_goesUp 108 = .ok (.aload_n 0, 1) := dk_42 hN_cX11_goesUp rfl rfl
theorem dX11_goesUp_109 : decode cX11_goesUp 109 = .ok (.iload 4, 2) := dk_21 hN_cX11_goesUp rfl rfl rfl
theorem dX11_goesUp_111 : decode cX11_goesUp 111 = .ok (.iload_n 3, 1) := dk_29 hN_cX11_goesUp rfl rfl
theorem dX11_goesUp_112 : decode cX11_goesUp 112 = .ok (.invokevirtual 275, 3) := dk_182 hN_cX11_goesUp rfl rfl rfl
theorem dX11_goesUp_82 : decode cX11_goesUp 82 = .ok (.iconst (-1), 1) := dk_2 hN_cX11_goesUp rfl rfl
theorem dX11_goesUp_83 : decode cX11_goesUp 83 = .ok (.goto 8, 3) := dk_167 hN_cX11_goesUp rfl rfl rfl
theorem dX11_goesUp_22 : decode cX11_goesUp 22 = .ok (.iload_n 3, 1) := dk_29 hN_cX11_goesUp rfl rfl
theorem dX11_goesUp_23 : decode cX11_goesUp 23 = .ok (.ifCond .ge 55, 3) := dk_156 hN_cX11_goesUp rfl rfl rfl
theorem dX11_goesUp_26 : decode cX11_goesUp 26 = .ok (.aload_n 0, 1) := dk_42 hN_cX11_goesUp rfl rfl
theorem dX11_goesUp_27 : decode cX11_goesUp 27 = .ok (.getfield 47, 3) := dk_180 hN_cX11_goesUp rfl rfl rfl
theorem dX11_goesUp_30 : decode cX11_goesUp 30 = .ok (.iload_n 1, 1) := dk_27 hN_cX11_goesUp rfl rfl
theorem dX11_goesUp_31 : decode cX11_goesUp 31 = .ok (.iload 4, 2) := dk_21 hN_cX11_goesUp rfl rfl rfl
theorem dX11_goesUp_33 : decode cX11_goesUp 33 = .ok (.invokestatic 260, 3) := dk_184 hN_cX11_goesUp rfl rfl rfl
theorem dX11_goesUp_36 : decode cX11_goesUp 36 = .ok (.laload, 1) := dk_47 hN_cX11_goesUp rfl rfl
theorem dX11_goesUp_37 : decode cX11_goesUp 37 = .ok (.lconst 0, 1) := dk_9 hN_cX11_goesUp rfl rfl
theorem dX11_goesUp_38 : decode cX11_goesUp 38 = .ok (.lcmp, 1) := dk_148 hN_cX11_goesUp rfl rfl
theorem dX11_goesUp_39 : decode cX11_goesUp 39 = .ok (.ifCond .ge 33, 3) := dk_156 hN_cX11_goesUp rfl rfl rfl
theorem dX11_goesUp_72 : decode cX11_goesUp 72 = .ok (.iinc 4 1, 3) := dk_132 hN_cX11_goesUp rfl rfl rfl rfl
theorem dX11_goesUp_75 : decode cX11_goesUp 75 = .ok (.goto (-64), 3) := dk_167 hN_cX11_goesUp rfl rfl rfl
theorem dX11_goesUp_42 : decode cX11_goesUp 42 = .ok (.iload_n 1, 1) := dk_27 hN_cX11_goesUp rfl rfl
theorem dX11_goesUp_43 : decode cX11_goesUp 43 = .ok (.aload_n 0, 1) := dk_42 hN_cX11_goesUp rfl rfl
theorem dX11_goesUp_44 : decode cX11_goesUp 44 = .ok (.getfield 254, 3) := dk_180 hN_cX11_goesUp rfl rfl rfl
theorem dX11_goesUp_47 : decode cX11_goesUp 47 = .ok (.if_icmp .eq 22, 3) := dk_159 hN_cX11_goesUp rfl rfl rfl
theorem dX11_goesUp_69 : decode cX11_goesUp 69 = .ok (.iload 4, 2) := dk_21 hN_cX11_goesUp rfl rfl rfl
theorem dX11_goesUp_71 : decode cX11_goesUp 71 = .ok (.istore_n 3, 1) := dk_62 hN_cX11_goesUp rfl rfl
theorem dX11_goesUp_50 : decode cX11_goesUp 50 = .ok (.aload_n 0, 1) := dk_42 hN_cX11_goesUp rfl rfl
theorem dX11_goesUp_51 : decode cX11_goesUp 51 = .ok (.getfield 47, 3) := dk_180 hN_cX11_goesUp rfl rfl rfl
theorem dX11_goesUp_54 : decode cX11_goesUp 54 = .ok (.aload_n 0, 1) := dk_42 hN_cX11_goesUp rfl rfl
theorem dX11_goesUp_55 : decode cX11_goesUp 55 = .ok (.getfield 254, 3) := dk_180 hN_cX11_goesUp rfl rfl rfl
theorem dX11_goesUp_58 : decode cX11_goesUp 58 = .ok (.iload 4, 2) := dk_21 hN_cX11_goesUp rfl rfl rfl
theorem dX11_goesUp_60 : decode cX11_goesUp 60 = .ok (.invokestatic 260, 3) := dk_184 hN_cX11_goesUp rfl rfl rfl
theorem dX11_goesUp_63 : decode cX11_goesUp 63 = .ok (.laload, 1) := dk_47 hN_cX11_goesUp rfl rfl
theorem dX11_goesUp_64 : decode cX11_goesUp 64 = .ok (.lconst 0, 1) := dk_9 hN_cX11_goesUp rfl rfl
theorem dX11_goesUp_65 : decode cX11_goesUp 65 = .ok (.lcmp, 1) := dk_148 hN_cX11_goesUp rfl rfl
theorem dX11_goesUp_66 : decode cX11_goesUp 66 = .ok (.ifCond .ne 6, 3) := dk_154 hN_cX11_goesUp rfl rfl rfl
theorem dX11_common_0 : decode cX11_common 0 = .ok (.lload_n 0, 1) := dk_30 hN_cX11_common rfl rfl
theorem dX11_common_1 : decode cX11_common 1 = .ok (.lstore 4, 2) := dk_55 hN_cX11_common rfl rfl rfl
theorem dX11_common_3 : decode cX11_common 3 = .ok (.lload_n 2, 1) := dk_32 hN_cX11_common rfl rfl
theorem dX11_common_4 : decode cX11_common 4 = .ok (.lstore 6, 2) := dk_55 hN_cX11_common rfl rfl rfl
theorem dX11_common_6 : decode cX11_common 6 = .ok (.lload 6, 2) := dk_22 hN_cX11_common rfl rfl rfl
theorem dX11_common_8 : decode cX11_common 8 = .ok (.lconst 0, 1) := dk_9 hN_cX11_common rfl rfl
theorem dX11_common_9 : decode cX11_common 9 = .ok (.lcmp, 1) := dk_148 hN_cX11_common rfl rfl
theorem dX11_common_10 : decode cX11_common 10 = .ok (.ifCond .eq 21, 3) := dk_153 hN_cX11_common rfl rfl rfl
theorem dX11_common_31 : decode cX11_common 31 = .ok (.lload 4, 2) := dk_22 hN_cX11_common rfl rfl rfl
theorem dX11_common_33 : decode cX11_common 33 = .ok (.lreturn, 1) := dk_173 hN_cX11_common rfl rfl
theorem dX11_common_13 : decode cX11_common 13 = .ok (.lload 4, 2) := dk_22 hN_cX11_common rfl rfl rfl
theorem dX11_common_15 : decode cX11_common 15 = .ok (.lload 6, 2) := dk_22 hN_cX11_common rfl rfl rfl
theorem dX11_common_17 : decode cX11_common 17 = .ok (.lrem, 1) := dk_113 hN_cX11_common rfl rfl
theorem dX11_common_18 : decode cX11_common 18 = .ok (.lstore 8, 2) := dk_55 hN_cX11_common rfl rfl rfl
theorem dX11_common_20 : decode cX11_common 20 = .ok (.lload 6, 2) := dk_22 hN_cX11_common rfl rfl rfl
theorem dX11_common_22 : decode cX11_common 22 = .ok (.lstore 4, 2) := dk_55 hN_cX11_common rfl rfl rfl
theorem dX11_common_24 : decode cX11_common 24 = .ok (.lload 8, 2) := dk_22 hN_cX11_common rfl rfl rfl
theorem dX11_common_26 : decode cX11_common 26 = .ok (.lstore 6, 2) := dk_55 hN_cX11_common rfl rfl rfl
theorem dX11_common_28 : decode cX11_common 28 = .ok (.goto (-22), 3) := dk_167 hN_cX11_common rfl rfl rfl
theorem dX11_lowest_0 : decode cX11_lowest 0 = .ok (.lload_n 0, 1) := dk_30 hN_cX11_lowest rfl rfl
theorem dX11_lowest_1 : decode cX11_lowest 1 = .ok (.lload_n 2, 1) := dk_32 hN_cX11_lowest rfl rfl
theorem dX11_lowest_2 : decode cX11_lowest 2 = .ok (.invokestatic 278, 3) := dk_184 hN_cX11_lowest rfl rfl rfl
theorem dX11_lowest_5 : decode cX11_lowest 5 = .ok (.lstore 5, 2) := dk_55 hN_cX11_lowest rfl rfl rfl
theorem dX11_lowest_7 : decode cX11_lowest 7 = .ok (.iload 4, 2) := dk_21 hN_cX11_lowest rfl rfl rfl
theorem dX11_lowest_9 : decode cX11_lowest 9 = .ok (.ifCond .eq 7, 3) := dk_153 hN_cX11_lowest rfl rfl rfl
theorem dX11_lowest_16 : decode cX11_lowest 16 = .ok (.lload_n 0, 1) := dk_30 hN_cX11_lowest rfl rfl
theorem dX11_lowest_17 : decode cX11_lowest 17 = .ok (.lload 5, 2) := dk_22 hN_cX11_lowest rfl rfl rfl
theorem dX11_lowest_19 : decode cX11_lowest 19 = .ok (.ldiv, 1) := dk_109 hN_cX11_lowest rfl rfl
theorem dX11_lowest_20 : decode cX11_lowest 20 = .ok (.l2i, 1) := dk_136 hN_cX11_lowest rfl rfl
theorem dX11_lowest_21 : decode cX11_lowest 21 = .ok (.ireturn, 1) := dk_172 hN_cX11_lowest rfl rfl
theorem dX11_lowest_12 : decode cX11_lowest 12 = .ok (.lload_n 2, 1) := dk_32 hN_cX11_lowest rfl rfl
theorem dX11_lowest_13 : decode cX11_lowest 13 = .ok (.goto 4, 3) := dk_167 hN_cX11_lowest rfl rfl rfl
theorem dX11_isMixed_0 : decode cX11_isMixed 0 = .ok (.aload_n 0, 1) := dk_42 hN_cX11_isMixed rfl rfl
theorem dX11_isMixed_1 : decode cX11_isMixed 1 = .ok (.getfield 20, 3) := dk_180 hN_cX11_isMixed rfl rfl rfl
theorem dX11_isMixed_4 : decode cX11_isMixed 4 = .ok (.iconst 0, 1) := dk_3 hN_cX11_isMixed rfl rfl
theorem dX11_isMixed_5 : decode cX11_isMixed 5 = .ok (.iaload, 1) := dk_46 hN_cX11_isMixed rfl rfl
theorem dX11_isMixed_6 : decode cX11_isMixed 6 = .ok (.ifCond .ne 5, 3) := dk_154 hN_cX11_isMixed rfl rfl rfl
theorem dX11_isMixed_11 : decode cX11_isMixed 11 = .ok (.aload_n 0, 1) := dk_42 hN_cX11_isMixed rfl rfl
theorem dX11_isMixed_12 : decode cX11_isMixed 12 = .ok (.invokevirtual 282, 3) := dk_182 hN_cX11_isMixed rfl rfl rfl
theorem dX11_isMixed_15 : decode cX11_isMixed 15 = .ok (.aload_n 0, 1) := dk_42 hN_cX11_isMixed rfl rfl
theorem dX11_isMixed_16 : decode cX11_isMixed 16 = .ok (.aload_n 0, 1) := dk_42 hN_cX11_isMixed rfl rfl
theorem dX11_isMixed_17 : decode cX11_isMixed 17 = .ok (.getfield 254, 3) := dk_180 hN_cX11_isMixed rfl rfl rfl
theorem dX11_isMixed_20 : decode cX11_isMixed 20 = .ok (.invokevirtual 285, 3) := dk_182 hN_cX11_isMixed rfl rfl rfl
theorem dX11_isMixed_23 : decode cX11_isMixed 23 = .ok (.aload_n 0, 1) := dk_42 hN_cX11_isMixed rfl rfl
theorem dX11_isMixed_24 : decode cX11_isMixed 24 = .ok (.getfield 47, 3) := dk_180 hN_cX11_isMixed rfl rfl rfl
theorem dX11_isMixed_27 : decode cX11_isMixed 27 = .ok (.aload_n 0, 1) := dk_42 hN_cX11_isMixed rfl rfl
theorem dX11_isMixed_28 : decode cX11_isMixed 28 = .ok (.getfield 254, 3) := dk_180 hN_cX11_isMixed rfl rfl rfl
theorem dX11_isMixed_31 : decode cX11_isMixed 31 = .ok (.aload_n 0, 1) := dk_42 hN_cX11_isMixed rfl rfl
theorem dX11_isMixed_32 : decode cX11_isMixed 32 = .ok (.getfield 257, 3) := dk_180 hN_cX11_isMixed rfl rfl rfl
theorem dX11_isMixed_35 : decode cX11_isMixed 35 = .ok (.iconst 1, 1) := dk_4 hN_cX11_isMixed rfl rfl
theorem dX11_isMixed_36 : decode cX11_isMixed 36 = .ok (.isub, 1) := dk_100 hN_cX11_isMixed rfl rfl
theorem dX11_isMixed_37 : decode cX11_isMixed 37 = .ok (.invokestatic 260, 3) := dk_184 hN_cX11_isMixed rfl rfl rfl
theorem dX11_isMixed_40 : decode cX11_isMixed 40 = .ok (.laload, 1) := dk_47 hN_cX11_isMixed rfl rfl
theorem dX11_isMixed_41 : decode cX11_isMixed 41 = .ok (.aload_n 0, 1) := dk_42 hN_cX11_isMixed rfl rfl
theorem dX11_isMixed_42 : decode cX11_isMixed 42 = .ok (.getfield 268, 3) := dk_180 hN_cX11_isMixed rfl rfl rfl
theorem dX11_isMixed_45 : decode cX11_isMixed 45 = .ok (.aload_n 0, 1) := dk_42 hN_cX11_isMixed rfl rfl
theorem dX11_isMixed_46 : decode cX11_isMixed 46 = .ok (.getfield 20, 3) := dk_180 hN_cX11_isMixed rfl rfl rfl
theorem dX11_isMixed_49 : decode cX11_isMixed 49 = .ok (.bipush 49, 2) := dk_16 hN_cX11_isMixed rfl rfl rfl
theorem dX11_isMixed_51 : decode cX11_isMixed 51 = .ok (.iaload, 1) := dk_46 hN_cX11_isMixed rfl rfl
theorem dX11_isMixed_52 : decode cX11_isMixed 52 = .ok (.i2l, 1) := dk_133 hN_cX11_isMixed rfl rfl
theorem dX11_isMixed_53 : decode cX11_isMixed 53 = .ok (.lmul, 1) := dk_105 hN_cX11_isMixed rfl rfl
theorem dX11_isMixed_54 : decode cX11_isMixed 54 = .ok (.lcmp, 1) := dk_148 hN_cX11_isMixed rfl rfl
theorem dX11_isMixed_55 : decode cX11_isMixed 55 = .ok (.ifCond .ne 7, 3) := dk_154 hN_cX11_isMixed rfl rfl rfl
theorem dX11_isMixed_62 : decode cX11_isMixed 62 = .ok (.iconst 0, 1) := dk_3 hN_cX11_isMixed rfl rfl
theorem dX11_isMixed_63 : decode cX11_isMixed 63 = .ok (.ireturn, 1) := dk_172 hN_cX11_isMixed rfl rfl
theorem dX11_isMixed_58 : decode cX11_isMixed 58 = .ok (.iconst 1, 1) := dk_4 hN_cX11_isMixed rfl rfl
theorem dX11_isMixed_59 : decode cX11_isMixed 59 = .ok (.goto 4, 3) := dk_167 hN_cX11_isMixed rfl rfl rfl
theorem dX11_isMixed_9 : decode cX11_isMixed 9 = .ok (.iconst 1, 1) := dk_4 hN_cX11_isMixed rfl rfl
theorem dX11_isMixed_10 : decode cX11_isMixed 10 = .ok (.ireturn, 1) := dk_172 hN_cX11_isMixed rfl rfl
theorem dX11_share_0 : decode cX11_share 0 = .ok (.aload_n 0, 1) := dk_42 hN_cX11_share rfl rfl
theorem dX11_share_1 : decode cX11_share 1 = .ok (.invokevirtual 174, 3) := dk_182 hN_cX11_share rfl rfl rfl
theorem dX11_share_4 : decode cX11_share 4 = .ok (.aload_n 0, 1) := dk_42 hN_cX11_share rfl rfl
theorem dX11_share_5 : decode cX11_share 5 = .ok (.getfield 183, 3) := dk_180 hN_cX11_share rfl rfl rfl
theorem dX11_share_8 : decode cX11_share 8 = .ok (.ifCond .ne 9, 3) := dk_154 hN_cX11_share rfl rfl rfl
theorem dX11_share_17 : decode cX11_share 17 = .ok (.aload_n 0, 1) := dk_42 hN_cX11_share rfl rfl
theorem dX11_share_18 : decode cX11_share 18 = .ok (.invokevirtual 289, 3) := dk_182 hN_cX11_share rfl rfl rfl
theorem dX11_share_21 : decode cX11_share 21 = .ok (.ifCond .eq 5, 3) := dk_153 hN_cX11_share rfl rfl rfl
theorem dX11_share_26 : decode cX11_share 26 = .ok (.aload_n 0, 1) := dk_42 hN_cX11_share rfl rfl
theorem dX11_share_27 : decode cX11_share 27 = .ok (.getfield 47, 3) := dk_180 hN_cX11_share rfl rfl rfl
theorem dX11_share_30 : decode cX11_share 30 = .ok (.aload_n 0, 1) := dk_42 hN_cX11_share rfl rfl
theorem dX11_share_31 : decode cX11_share 31 = .ok (.getfield 254, 3) := dk_180 hN_cX11_share rfl rfl rfl
theorem dX11_share_34 : decode cX11_share 34 = .ok (.aload_n 0, 1) := dk_42 hN_cX11_share rfl rfl
theorem dX11_share_35 : decode cX11_share 35 = .ok (.getfield 257, 3) := dk_180 hN_cX11_share rfl rfl rfl
theorem dX11_share_38 : decode cX11_share 38 = .ok (.iconst 1, 1) := dk_4 hN_cX11_share rfl rfl
theorem dX11_share_39 : decode cX11_share 39 = .ok (.isub, 1) := dk_100 hN_cX11_share rfl rfl
theorem dX11_share_40 : decode cX11_share 40 = .ok (.invokestatic 260, 3) := dk_184 hN_cX11_share rfl rfl rfl
theorem dX11_share_43 : decode cX11_share 43 = .ok (.laload, 1) := dk_47 hN_cX11_share rfl rfl
theorem dX11_share_44 : decode cX11_share 44 = .ok (.aload_n 0, 1) := dk_42 hN_cX11_share rfl rfl
theorem dX11_share_45 : decode cX11_share 45 = .ok (.getfield 268, 3) := dk_180 hN_cX11_share rfl rfl rfl
theorem dX11_share_48 : decode cX11_share 48 = .ok (.aload_n 0, 1) := dk_42 hN_cX11_share rfl rfl
theorem dX11_share_49 : decode cX11_share 49 = .ok (.getfield 20, 3) := dk_180 hN_cX11_share rfl rfl rfl
theorem dX11_share_52 : decode cX11_share 52 = .ok (.bipush 49, 2) := dk_16 hN_cX11_share rfl rfl rfl
theorem dX11_share_54 : decode cX11_share 54 = .ok (.iaload, 1) := dk_46 hN_cX11_share rfl rfl
theorem dX11_share_55 : decode cX11_share 55 = .ok (.i2l, 1) := dk_133 hN_cX11_share rfl rfl
theorem dX11_share_56 : decode cX11_share 56 = .ok (.lmul, 1) := dk_105 hN_cX11_share rfl rfl
theorem dX11_share_57 : decode cX11_share 57 = .ok (.iload_n 1, 1) := dk_27 hN_cX11_share rfl rfl
theorem dX11_share_58 : decode cX11_share 58 = .ok (.invokestatic 292, 3) := dk_184 hN_cX11_share rfl rfl rfl
theorem dX11_share_61 : decode cX11_share 61 = .ok (.ireturn, 1) := dk_172 hN_cX11_share rfl rfl
theorem dX11_share_24 : decode cX11_share 24 = .ok (.iconst 1, 1) := dk_4 hN_cX11_share rfl rfl
theorem dX11_share_25 : decode cX11_share 25 = .ok (.ireturn, 1) := dk_172 hN_cX11_share rfl rfl
theorem dX11_share_11 : decode cX11_share 11 = .ok (.aload_n 0, 1) := dk_42 hN_cX11_share rfl rfl
theorem dX11_share_12 : decode cX11_share 12 = .ok (.iconst 1, 1) := dk_4 hN_cX11_share rfl rfl
theorem dX11_share_13 : decode cX11_share 13 = .ok (.invokevirtual 177, 3) := dk_182 hN_cX11_share rfl rfl rfl
theorem dX11_share_16 : decode cX11_share 16 = .ok (.ireturn, 1) := dk_172 hN_cX11_share rfl rfl
theorem dX11_isBit_0 : decode cX11_isBit 0 = .ok (.iload_n 0, 1) := dk_26 hN_cX11_isBit rfl rfl
theorem dX11_isBit_1 : decode cX11_isBit 1 = .ok (.ifCond .eq 8, 3) := dk_153 hN_cX11_isBit rfl rfl rfl
theorem dX11_isBit_9 : decode cX11_isBit 9 = .ok (.iconst 1, 1) := dk_4 hN_cX11_isBit rfl rfl
theorem dX11_isBit_10 : decode cX11_isBit 10 = .ok (.goto 4, 3) := dk_167 hN_cX11_isBit rfl rfl rfl
theorem dX11_isBit_14 : decode cX11_isBit 14 = .ok (.ireturn, 1) := dk_172 hN_cX11_isBit rfl rfl
theorem dX11_isBit_4 : decode cX11_isBit 4 = .ok (.iload_n 0, 1) := dk_26 hN_cX11_isBit rfl rfl
theorem dX11_isBit_5 : decode cX11_isBit 5 = .ok (.iconst 1, 1) := dk_4 hN_cX11_isBit rfl rfl
theorem dX11_isBit_6 : decode cX11_isBit 6 = .ok (.if_icmp .ne 7, 3) := dk_160 hN_cX11_isBit rfl rfl rfl
theorem dX11_isBit_13 : decode cX11_isBit 13 = .ok (.iconst 0, 1) := dk_3 hN_cX11_isBit rfl rfl
theorem dX11_together_0 : decode cX11_together 0 = .ok (.aload_n 0, 1) := dk_42 hN_cX11_together rfl rfl
theorem dX11_together_1 : decode cX11_together 1 = .ok (.invokevirtual 174, 3) := dk_182 hN_cX11_together rfl rfl rfl
theorem dX11_together_4 : decode cX11_together 4 = .ok (.aload_n 0, 1) := dk_42 hN_cX11_together rfl rfl
theorem dX11_together_5 : decode cX11_together 5 = .ok (.iload_n 1, 1) := dk_27 hN_cX11_together rfl rfl
theorem dX11_together_6 : decode cX11_together 6 = .ok (.invokevirtual 296, 3) := dk_182 hN_cX11_together rfl rfl rfl
theorem dX11_together_9 : decode cX11_together 9 = .ok (.ifCond .eq 31, 3) := dk_153 hN_cX11_together rfl rfl rfl
theorem dX11_together_40 : decode cX11_together 40 = .ok (.aload_n 0, 1) := dk_42 hN_cX11_together rfl rfl
theorem dX11_together_41 : decode cX11_together 41 = .ok (.iconst 1, 1) := dk_4 hN_cX11_together rfl rfl
theorem dX11_together_42 : decode cX11_together 42 = .ok (.invokevirtual 177, 3) := dk_182 hN_cX11_together rfl rfl rfl
theorem dX11_together_45 : decode cX11_together 45 = .ok (.ireturn, 1) := dk_172 hN_cX11_together rfl rfl
theorem dX11_together_12 : decode cX11_together 12 = .ok (.aload_n 0, 1) := dk_42 hN_cX11_together rfl rfl
theorem dX11_together_13 : decode cX11_together 13 = .ok (.iload_n 3, 1) := dk_29 hN_cX11_together rfl rfl
theorem dX11_together_14 : decode cX11_together 14 = .ok (.invokevirtual 296, 3) := dk_182 hN_cX11_together rfl rfl rfl
theorem dX11_together_17 : decode cX11_together 17 = .ok (.ifCond .eq 23, 3) := dk_153 hN_cX11_together rfl rfl rfl
theorem dX11_together_20 : decode cX11_together 20 = .ok (.iload_n 1, 1) := dk_27 hN_cX11_together rfl rfl
theorem dX11_together_21 : decode cX11_together 21 = .ok (.iload_n 3, 1) := dk_29 hN_cX11_together rfl rfl
theorem dX11_together_22 : decode cX11_together 22 = .ok (.if_icmp .eq 18, 3) := dk_159 hN_cX11_together rfl rfl rfl
theorem dX11_together_25 : decode cX11_together 25 = .ok (.iload_n 2, 1) := dk_28 hN_cX11_together rfl rfl
theorem dX11_together_26 : decode cX11_together 26 = .ok (.invokestatic 299, 3) := dk_184 hN_cX11_together rfl rfl rfl
theorem dX11_together_29 : decode cX11_together 29 = .ok (.ifCond .eq 11, 3) := dk_153 hN_cX11_together rfl rfl rfl
theorem dX11_together_32 : decode cX11_together 32 = .ok (.iload 4, 2) := dk_21 hN_cX11_together rfl rfl rfl
theorem dX11_together_34 : decode cX11_together 34 = .ok (.invokestatic 299, 3) := dk_184 hN_cX11_together rfl rfl rfl
theorem dX11_together_37 : decode cX11_together 37 = .ok (.ifCond .ne 9, 3) := dk_154 hN_cX11_together rfl rfl rfl
theorem dX11_together_46 : decode cX11_together 46 = .ok (.aload_n 0, 1) := dk_42 hN_cX11_together rfl rfl
theorem dX11_together_47 : decode cX11_together 47 = .ok (.invokevirtual 289, 3) := dk_182 hN_cX11_together rfl rfl rfl
theorem dX11_together_50 : decode cX11_together 50 = .ok (.ifCond .ne 10, 3) := dk_154 hN_cX11_together rfl rfl rfl
theorem dX11_together_60 : decode cX11_together 60 = .ok (.aload_n 0, 1) := dk_42 hN_cX11_together rfl rfl
theorem dX11_together_61 : decode cX11_together 61 = .ok (.getfield 20, 3) := dk_180 hN_cX11_together rfl rfl rfl
theorem dX11_together_64 : decode cX11_together 64 = .ok (.iconst 0, 1) := dk_3 hN_cX11_together rfl rfl
theorem dX11_together_65 : decode cX11_together 65 = .ok (.iaload, 1) := dk_46 hN_cX11_together rfl rfl
theorem dX11_together_66 : decode cX11_together 66 = .ok (.ifCond .ne 19, 3) := dk_154 hN_cX11_together rfl rfl rfl
theorem dX11_together_85 : decode cX11_together 85 = .ok (.iload 5, 2) := dk_21 hN_cX11_together rfl rfl rfl
theorem dX11_together_87 : decode cX11_together 87 = .ok (.ifCond .eq 9, 3) := dk_153 hN_cX11_together rfl rfl rfl
theorem dX11_together_96 : decode cX11_together 96 = .ok (.lconst 1, 1) := dk_10 hN_cX11_together rfl rfl
theorem dX11_together_97 : decode cX11_together 97 = .ok (.lstore 7, 2) := dk_55 hN_cX11_together rfl rfl rfl
theorem dX11_together_99 : decode cX11_together 99 = .ok (.iconst 0, 1) := dk_3 hN_cX11_together rfl rfl
theorem dX11_together_100 : decode cX11_together 100 = .ok (.istore 9, 2) := dk_54 hN_cX11_together rfl rfl rfl
theorem dX11_together_90 : decode cX11_together 90 = .ok (.ldc2_w 266, 3) := dk_20 hN_cX11_together rfl rfl rfl
theorem dX11_together_93 : decode cX11_together 93 = .ok (.goto 4, 3) := dk_167 hN_cX11_together rfl rfl rfl
theorem dX11_together_69 : decode cX11_together 69 = .ok (.iload 6, 2) := dk_21 hN_cX11_together rfl rfl rfl
theorem dX11_together_71 : decode cX11_together 71 = .ok (.ifCond .ne 8, 3) := dk_154 hN_cX11_together rfl rfl rfl
theorem dX11_together_79 : decode cX11_together 79 = .ok (.iconst 1, 1) := dk_4 hN_cX11_together rfl rfl
theorem dX11_together_80 : decode cX11_together 80 = .ok (.goto 4, 3) := dk_167 hN_cX11_together rfl rfl rfl
theorem dX11_together_84 : decode cX11_together 84 = .ok (.ireturn, 1) := dk_172 hN_cX11_together rfl rfl
theorem dX11_together_74 : decode cX11_together 74 = .ok (.iload 5, 2) := dk_21 hN_cX11_together rfl rfl rfl
theorem dX11_together_76 : decode cX11_together 76 = .ok (.ifCond .eq 7, 3) := dk_153 hN_cX11_together rfl rfl rfl
theorem dX11_together_83 : decode cX11_together 83 = .ok (.iconst 0, 1) := dk_3 hN_cX11_together rfl rfl
theorem dX11_together_53 : decode cX11_together 53 = .ok (.aload_n 0, 1) := dk_42 hN_cX11_together rfl rfl
theorem dX11_together_54 : decode cX11_together 54 = .ok (.bipush 6, 2) := dk_16 hN_cX11_together rfl rfl rfl
theorem dX11_together_56 : decode cX11_together 56 = .ok (.invokevirtual 177, 3) := dk_182 hN_cX11_together rfl rfl rfl
theorem dX11_together_59 : decode cX11_together 59 = .ok (.ireturn, 1) := dk_172 hN_cX11_together rfl rfl
theorem dX11_together_102 : decode cX11_together 102 = .ok (.iload 9, 2) := dk_21 hN_cX11_together rfl rfl rfl
theorem dX11_together_104 : decode cX11_together 104 = .ok (.aload_n 0, 1) := dk_42 hN_cX11_together rfl rfl
theorem dX11_together_105 : decode cX11_together 105 = .ok (.getfield 257, 3) := dk_180 hN_cX11_together rfl rfl rfl
theorem dX11_together_108 : decode cX11_together 108 = .ok (.if_icmp .ge 78, 3) := dk_162 hN_cX11_together rfl rfl rfl
theorem dX11_together_186 : decode cX11_together 186 = .ok (.iconst 0, 1) := dk_3 hN_cX11_together rfl rfl
theorem dX11_together_187 : decode cX11_together 187 = .ok (.istore 9, 2) := dk_54 hN_cX11_together rfl rfl rfl
theorem dX11_together_111 : decode cX11_together 111 = .ok (.iload 9, 2) := dk_21 hN_cX11_together rfl rfl rfl
theorem dX11_together_113 : decode cX11_together 113 = .ok (.aload_n 0, 1) := dk_42 hN_cX11_together rfl rfl
theorem dX11_together_114 : decode cX11_together 114 = .ok (.invokevirtual 251, 3) := dk_182 hN_cX11_together rfl rfl rfl
theorem dX11_together_117 : decode cX11_together 117 = .ok (.if_icmp .ge 28, 3) := dk_162 hN_cX11_together rfl rfl rfl
theorem dX11_together_145 : decode cX11_together 145 = .ok (.iconst 0, 1) := dk_3 hN_cX11_together rfl rfl
theorem dX11_together_146 : decode cX11_together 146 = .ok (.istore 10, 2) := dk_54 hN_cX11_together rfl rfl rfl
theorem dX11_together_148 : decode cX11_together 148 = .ok (.aload_n 0, 1) := dk_42 hN_cX11_together rfl rfl
theorem dX11_together_149 : decode cX11_together 149 = .ok (.getfield 47, 3) := dk_180 hN_cX11_together rfl rfl rfl
theorem dX11_together_152 : decode cX11_together 152 = .ok (.aload_n 0, 1) := dk_42 hN_cX11_together rfl rfl
theorem dX11_together_153 : decode cX11_together 153 = .ok (.getfield 254, 3) := dk_180 hN_cX11_together rfl rfl rfl
theorem dX11_together_156 : decode cX11_together 156 = .ok (.iconst 1, 1) := dk_4 hN_cX11_together rfl rfl
theorem dX11_together_157 : decode cX11_together 157 = .ok (.iadd, 1) := dk_96 hN_cX11_together rfl rfl
theorem dX11_together_158 : decode cX11_together 158 = .ok (.iload 9, 2) := dk_21 hN_cX11_together rfl rfl rfl
theorem dX11_together_160 : decode cX11_together 160 = .ok (.invokestatic 260, 3) := dk_184 hN_cX11_together rfl rfl rfl
theorem dX11_together_163 : decode cX11_together 163 = .ok (.iload 10, 2) := dk_21 hN_cX11_together rfl rfl rfl
theorem dX11_together_165 : decode cX11_together 165 = .ok (.ifCond .eq 13, 3) := dk_153 hN_cX11_together rfl rfl rfl
theorem dX11_together_178 : decode cX11_together 178 = .ok (.lconst 0, 1) := dk_9 hN_cX11_together rfl rfl
theorem dX11_together_179 : decode cX11_together 179 = .ok (.lastore, 1) := dk_80 hN_cX11_together rfl rfl
theorem dX11_together_180 : decode cX11_together 180 = .ok (.iinc 9 1, 3) := dk_132 hN_cX11_together rfl rfl rfl rfl
theorem dX11_together_183 : decode cX11_together 183 = .ok (.goto (-81), 3) := dk_167 hN_cX11_together rfl rfl rfl
theorem dX11_together_120 : decode cX11_together 120 = .ok (.iload 9, 2) := dk_21 hN_cX11_together rfl rfl rfl
theorem dX11_together_122 : decode cX11_together 122 = .ok (.iload_n 1, 1) := dk_27 hN_cX11_together rfl rfl
theorem dX11_together_123 : decode cX11_together 123 = .ok (.ishr, 1) := dk_122 hN_cX11_together rfl rfl
theorem dX11_together_124 : decode cX11_together 124 = .ok (.iconst 1, 1) := dk_4 hN_cX11_together rfl rfl
theorem dX11_together_125 : decode cX11_together 125 = .ok (.iand, 1) := dk_126 hN_cX11_together rfl rfl
theorem dX11_together_126 : decode cX11_together 126 = .ok (.iload_n 2, 1) := dk_28 hN_cX11_together rfl rfl
theorem dX11_together_127 : decode cX11_together 127 = .ok (.if_icmp .ne 18, 3) := dk_160 hN_cX11_together rfl rfl rfl
theorem dX11_together_130 : decode cX11_together 130 = .ok (.iload 9, 2) := dk_21 hN_cX11_together rfl rfl rfl
theorem dX11_together_132 : decode cX11_together 132 = .ok (.iload_n 3, 1) := dk_29 hN_cX11_together rfl rfl
theorem dX11_together_133 : decode cX11_together 133 = .ok (.ishr, 1) := dk_122 hN_cX11_together rfl rfl
theorem dX11_together_134 : decode cX11_together 134 = .ok (.iconst 1, 1) := dk_4 hN_cX11_together rfl rfl
theorem dX11_together_135 : decode cX11_together 135 = .ok (.iand, 1) := dk_126 hN_cX11_together rfl rfl
theorem dX11_together_136 : decode cX11_together 136 = .ok (.iload 4, 2) := dk_21 hN_cX11_together rfl rfl rfl
theorem dX11_together_138 : decode cX11_together 138 = .ok (.if_icmp .ne 7, 3) := dk_160 hN_cX11_together rfl rfl rfl
theorem dX11_together_141 : decode cX11_together 141 = .ok (.iconst 1, 1) := dk_4 hN_cX11_together rfl rfl
theorem dX11_together_142 : decode cX11_together 142 = .ok (.goto 4, 3) := dk_167 hN_cX11_together rfl rfl rfl
theorem dX11_together_168 : decode cX11_together 168 = .ok (.lload 7, 2) := dk_22 hN_cX11_together rfl rfl rfl
theorem dX11_together_170 : decode cX11_together 170 = .ok (.aload_n 0, 1) := dk_42 hN_cX11_together rfl rfl
theorem dX11_together_171 : decode cX11_together 171 = .ok (.getfield 268, 3) := dk_180 hN_cX11_together rfl rfl rfl
theorem dX11_together_174 : decode cX11_together 174 = .ok (.lmul, 1) := dk_105 hN_cX11_together rfl rfl
theorem dX11_together_175 : decode cX11_together 175 = .ok (.goto 4, 3) := dk_167 hN_cX11_together rfl rfl rfl
theorem dX11_together_189 : decode cX11_together 189 = .ok (.iload 9, 2) := dk_21 hN_cX11_together rfl rfl rfl
theorem dX11_together_191 : decode cX11_together 191 = .ok (.aload_n 0, 1) := dk_42 hN_cX11_together rfl rfl
theorem dX11_together_192 : decode cX11_together 192 = .ok (.getfield 254, 3) := dk_180 hN_cX11_together rfl rfl rfl
theorem dX11_together_195 : decode cX11_together 195 = .ok (.if_icmp .ge 112, 3) := dk_162 hN_cX11_together rfl rfl rfl
theorem dX11_together_307 : decode cX11_together 307 = .ok (.aload_n 0, 1) := dk_42 hN_cX11_together rfl rfl
theorem dX11_together_308 : decode cX11_together 308 = .ok (.aload_n 0, 1) := dk_42 hN_cX11_together rfl rfl
theorem dX11_together_309 : decode cX11_together 309 = .ok (.getfield 254, 3) := dk_180 hN_cX11_together rfl rfl rfl
theorem dX11_together_312 : decode cX11_together 312 = .ok (.iconst 1, 1) := dk_4 hN_cX11_together rfl rfl
theorem dX11_together_313 : decode cX11_together 313 = .ok (.iadd, 1) := dk_96 hN_cX11_together rfl rfl
theorem dX11_together_314 : decode cX11_together 314 = .ok (.invokevirtual 285, 3) := dk_182 hN_cX11_together rfl rfl rfl
theorem dX11_together_317 : decode cX11_together 317 = .ok (.lload 7, 2) := dk_22 hN_cX11_together rfl rfl rfl
theorem dX11_together_319 : decode cX11_together 319 = .ok (.lneg, 1) := dk_117 hN_cX11_together rfl rfl
theorem dX11_together_320 : decode cX11_together 320 = .ok (.aload_n 0, 1) := dk_42 hN_cX11_together rfl rfl
theorem dX11_together_321 : decode cX11_together 321 = .ok (.getfield 47, 3) := dk_180 hN_cX11_together rfl rfl rfl
theorem dX11_together_324 : decode cX11_together 324 = .ok (.aload_n 0, 1) := dk_42 hN_cX11_together rfl rfl
theorem dX11_together_325 : decode cX11_together 325 = .ok (.getfield 254, 3) := dk_180 hN_cX11_together rfl rfl rfl
theorem dX11_together_328 : decode cX11_together 328 = .ok (.iconst 1, 1) := dk_4 hN_cX11_together rfl rfl
theorem dX11_together_329 : decode cX11_together 329 = .ok (.iadd, 1) := dk_96 hN_cX11_together rfl rfl
theorem dX11_together_330 : decode cX11_together 330 = .ok (.aload_n 0, 1) := dk_42 hN_cX11_together rfl rfl
theorem dX11_together_331 : decode cX11_together 331 = .ok (.getfield 257, 3) := dk_180 hN_cX11_together rfl rfl rfl
theorem dX11_together_334 : decode cX11_together 334 = .ok (.iconst 1, 1) := dk_4 hN_cX11_together rfl rfl
theorem dX11_together_335 : decode cX11_together 335 = .ok (.isub, 1) := dk_100 hN_cX11_together rfl rfl
theorem dX11_together_336 : decode cX11_together 336 = .ok (.invokestatic 260, 3) := dk_184 hN_cX11_together rfl rfl rfl
theorem dX11_together_339 : decode cX11_together 339 = .ok (.laload, 1) := dk_47 hN_cX11_together rfl rfl
theorem dX11_together_340 : decode cX11_together 340 = .ok (.lmul, 1) := dk_105 hN_cX11_together rfl rfl
theorem dX11_together_341 : decode cX11_together 341 = .ok (.lstore 9, 2) := dk_55 hN_cX11_together rfl rfl rfl
theorem dX11_together_343 : decode cX11_together 343 = .ok (.lload 9, 2) := dk_22 hN_cX11_together rfl rfl rfl
theorem dX11_together_345 : decode cX11_together 345 = .ok (.aload_n 0, 1) := dk_42 hN_cX11_together rfl rfl
theorem dX11_together_346 : decode cX11_together 346 = .ok (.getfield 268, 3) := dk_180 hN_cX11_together rfl rfl rfl
theorem dX11_together_349 : decode cX11_together 349 = .ok (.aload_n 0, 1) := dk_42 hN_cX11_together rfl rfl
theorem dX11_together_350 : decode cX11_together 350 = .ok (.getfield 20, 3) := dk_180 hN_cX11_together rfl rfl rfl
theorem dX11_together_353 : decode cX11_together 353 = .ok (.bipush 49, 2) := dk_16 hN_cX11_together rfl rfl rfl
theorem dX11_together_355 : decode cX11_together 355 = .ok (.iaload, 1) := dk_46 hN_cX11_together rfl rfl
theorem dX11_together_356 : decode cX11_together 356 = .ok (.i2l, 1) := dk_133 hN_cX11_together rfl rfl
theorem dX11_together_357 : decode cX11_together 357 = .ok (.lmul, 1) := dk_105 hN_cX11_together rfl rfl
theorem dX11_together_358 : decode cX11_together 358 = .ok (.iload 6, 2) := dk_21 hN_cX11_together rfl rfl rfl
theorem dX11_together_360 : decode cX11_together 360 = .ok (.invokestatic 292, 3) := dk_184 hN_cX11_together rfl rfl rfl
theorem dX11_together_363 : decode cX11_together 363 = .ok (.ireturn, 1) := dk_172 hN_cX11_together rfl rfl
theorem dX11_together_198 : decode cX11_together 198 = .ok (.aload_n 0, 1) := dk_42 hN_cX11_together rfl rfl
theorem dX11_together_199 : decode cX11_together 199 = .ok (.getfield 51, 3) := dk_180 hN_cX11_together rfl rfl rfl
theorem dX11_together_202 : decode cX11_together 202 = .ok (.iload 9, 2) := dk_21 hN_cX11_together rfl rfl rfl
theorem dX11_together_204 : decode cX11_together 204 = .ok (.iaload, 1) := dk_46 hN_cX11_together rfl rfl
theorem dX11_together_205 : decode cX11_together 205 = .ok (.istore 10, 2) := dk_54 hN_cX11_together rfl rfl rfl
theorem dX11_together_207 : decode cX11_together 207 = .ok (.iload 10, 2) := dk_21 hN_cX11_together rfl rfl rfl
theorem dX11_together_209 : decode cX11_together 209 = .ok (.aload_n 0, 1) := dk_42 hN_cX11_together rfl rfl
theorem dX11_together_210 : decode cX11_together 210 = .ok (.invokevirtual 251, 3) := dk_182 hN_cX11_together rfl rfl rfl
theorem dX11_together_213 : decode cX11_together 213 = .ok (.if_icmp .ge 28, 3) := dk_162 hN_cX11_together rfl rfl rfl
theorem dX11_together_241 : decode cX11_together 241 = .ok (.iconst 0, 1) := dk_3 hN_cX11_together rfl rfl
theorem dX11_together_242 : decode cX11_together 242 = .ok (.istore 11, 2) := dk_54 hN_cX11_together rfl rfl rfl
theorem dX11_together_244 : decode cX11_together 244 = .ok (.iconst 0, 1) := dk_3 hN_cX11_together rfl rfl
theorem dX11_together_245 : decode cX11_together 245 = .ok (.istore 12, 2) := dk_54 hN_cX11_together rfl rfl rfl
theorem dX11_together_216 : decode cX11_together 216 = .ok (.iload 10, 2) := dk_21 hN_cX11_together rfl rfl rfl
theorem dX11_together_218 : decode cX11_together 218 = .ok (.iload_n 1, 1) := dk_27 hN_cX11_together rfl rfl
theorem dX11_together_219 : decode cX11_together 219 = .ok (.ishr, 1) := dk_122 hN_cX11_together rfl rfl
theorem dX11_together_220 : decode cX11_together 220 = .ok (.iconst 1, 1) := dk_4 hN_cX11_together rfl rfl
theorem dX11_together_221 : decode cX11_together 221 = .ok (.iand, 1) := dk_126 hN_cX11_together rfl rfl
theorem dX11_together_222 : decode cX11_together 222 = .ok (.iload_n 2, 1) := dk_28 hN_cX11_together rfl rfl
theorem dX11_together_223 : decode cX11_together 223 = .ok (.if_icmp .ne 18, 3) := dk_160 hN_cX11_together rfl rfl rfl
theorem dX11_together_226 : decode cX11_together 226 = .ok (.iload 10, 2) := dk_21 hN_cX11_together rfl rfl rfl
theorem dX11_together_228 : decode cX11_together 228 = .ok (.iload_n 3, 1) := dk_29 hN_cX11_together rfl rfl
theorem dX11_together_229 : decode cX11_together 229 = .ok (.ishr, 1) := dk_122 hN_cX11_together rfl rfl
theorem dX11_together_230 : decode cX11_together 230 = .ok (.iconst 1, 1) := dk_4 hN_cX11_together rfl rfl
theorem dX11_together_231 : decode cX11_together 231 = .ok (.iand, 1) := dk_126 hN_cX11_together rfl rfl
theorem dX11_together_232 : decode cX11_together 232 = .ok (.iload 4, 2) := dk_21 hN_cX11_together rfl rfl rfl
theorem dX11_together_234 : decode cX11_together 234 = .ok (.if_icmp .ne 7, 3) := dk_160 hN_cX11_together rfl rfl rfl
theorem dX11_together_237 : decode cX11_together 237 = .ok (.iconst 1, 1) := dk_4 hN_cX11_together rfl rfl
theorem dX11_together_238 : decode cX11_together 238 = .ok (.goto 4, 3) := dk_167 hN_cX11_together rfl rfl rfl
theorem dX11_together_247 : decode cX11_together 247 = .ok (.iload 12, 2) := dk_21 hN_cX11_together rfl rfl rfl
theorem dX11_together_249 : decode cX11_together 249 = .ok (.aload_n 0, 1) := dk_42 hN_cX11_together rfl rfl
theorem dX11_together_250 : decode cX11_together 250 = .ok (.getfield 257, 3) := dk_180 hN_cX11_together rfl rfl rfl
theorem dX11_together_253 : decode cX11_together 253 = .ok (.if_icmp .ge 48, 3) := dk_162 hN_cX11_together rfl rfl rfl
theorem dX11_together_301 : decode cX11_together 301 = .ok (.iinc 9 1, 3) := dk_132 hN_cX11_together rfl rfl rfl rfl
theorem dX11_together_304 : decode cX11_together 304 = .ok (.goto (-115), 3) := dk_167 hN_cX11_together rfl rfl rfl
theorem dX11_together_256 : decode cX11_together 256 = .ok (.iload 11, 2) := dk_21 hN_cX11_together rfl rfl rfl
theorem dX11_together_258 : decode cX11_together 258 = .ok (.ifCond .eq 43, 3) := dk_153 hN_cX11_together rfl rfl rfl
theorem dX11_together_261 : decode cX11_together 261 = .ok (.aload_n 0, 1) := dk_42 hN_cX11_together rfl rfl
theorem dX11_together_262 : decode cX11_together 262 = .ok (.getfield 47, 3) := dk_180 hN_cX11_together rfl rfl rfl
theorem dX11_together_265 : decode cX11_together 265 = .ok (.aload_n 0, 1) := dk_42 hN_cX11_together rfl rfl
theorem dX11_together_266 : decode cX11_together 266 = .ok (.getfield 254, 3) := dk_180 hN_cX11_together rfl rfl rfl
theorem dX11_together_269 : decode cX11_together 269 = .ok (.iconst 1, 1) := dk_4 hN_cX11_together rfl rfl
theorem dX11_together_270 : decode cX11_together 270 = .ok (.iadd, 1) := dk_96 hN_cX11_together rfl rfl
theorem dX11_together_271 : decode cX11_together 271 = .ok (.iload 12, 2) := dk_21 hN_cX11_together rfl rfl rfl
theorem dX11_together_273 : decode cX11_together 273 = .ok (.invokestatic 260, 3) := dk_184 hN_cX11_together rfl rfl rfl
theorem dX11_together_276 : decode cX11_together 276 = .ok (.dup2, 1) := dk_92 hN_cX11_together rfl rfl
theorem dX11_together_277 : decode cX11_together 277 = .ok (.laload, 1) := dk_47 hN_cX11_together rfl rfl
theorem dX11_together_278 : decode cX11_together 278 = .ok (.lload 7, 2) := dk_22 hN_cX11_together rfl rfl rfl
theorem dX11_together_280 : decode cX11_together 280 = .ok (.aload_n 0, 1) := dk_42 hN_cX11_together rfl rfl
theorem dX11_together_281 : decode cX11_together 281 = .ok (.getfield 47, 3) := dk_180 hN_cX11_together rfl rfl rfl
theorem dX11_together_284 : decode cX11_together 284 = .ok (.iload 9, 2) := dk_21 hN_cX11_together rfl rfl rfl
theorem dX11_together_286 : decode cX11_together 286 = .ok (.iload 12, 2) := dk_21 hN_cX11_together rfl rfl rfl
theorem dX11_together_288 : decode cX11_together 288 = .ok (.invokestatic 260, 3) := dk_184 hN_cX11_together rfl rfl rfl
theorem dX11_together_291 : decode cX11_together 291 = .ok (.laload, 1) := dk_47 hN_cX11_together rfl rfl
theorem dX11_together_292 : decode cX11_together 292 = .ok (.lmul, 1) := dk_105 hN_cX11_together rfl rfl
theorem dX11_together_293 : decode cX11_together 293 = .ok (.lsub, 1) := dk_101 hN_cX11_together rfl rfl
theorem dX11_together_294 : decode cX11_together 294 = .ok (.lastore, 1) := dk_80 hN_cX11_together rfl rfl
theorem dX11_together_295 : decode cX11_together 295 = .ok (.iinc 12 1, 3) := dk_132 hN_cX11_together rfl rfl rfl rfl
theorem dX11_together_298 : decode cX11_together 298 = .ok (.goto (-51), 3) := dk_167 hN_cX11_together rfl rfl rfl
theorem dX11_fitsAll_0 : decode cX11_fitsAll 0 = .ok (.iconst 1, 1) := dk_4 hN_cX11_fitsAll rfl rfl
theorem dX11_fitsAll_1 : decode cX11_fitsAll 1 = .ok (.istore_n 3, 1) := dk_62 hN_cX11_fitsAll rfl rfl
theorem dX11_fitsAll_2 : decode cX11_fitsAll 2 = .ok (.iconst 0, 1) := dk_3 hN_cX11_fitsAll rfl rfl
theorem dX11_fitsAll_3 : decode cX11_fitsAll 3 = .ok (.istore 4, 2) := dk_54 hN_cX11_fitsAll rfl rfl rfl
theorem dX11_fitsAll_5 : decode cX11_fitsAll 5 = .ok (.iload 4, 2) := dk_21 hN_cX11_fitsAll rfl rfl rfl
theorem dX11_fitsAll_7 : decode cX11_fitsAll 7 = .ok (.aload_n 0, 1) := dk_42 hN_cX11_fitsAll rfl rfl
theorem dX11_fitsAll_8 : decode cX11_fitsAll 8 = .ok (.getfield 20, 3) := dk_180 hN_cX11_fitsAll rfl rfl rfl
theorem dX11_fitsAll_11 : decode cX11_fitsAll 11 = .ok (.iconst 0, 1) := dk_3 hN_cX11_fitsAll rfl rfl
theorem dX11_fitsAll_12 : decode cX11_fitsAll 12 = .ok (.iaload, 1) := dk_46 hN_cX11_fitsAll rfl rfl
theorem dX11_fitsAll_13 : decode cX11_fitsAll 13 = .ok (.if_icmp .ge 48, 3) := dk_162 hN_cX11_fitsAll rfl rfl rfl
theorem dX11_fitsAll_61 : decode cX11_fitsAll 61 = .ok (.iload_n 3, 1) := dk_29 hN_cX11_fitsAll rfl rfl
theorem dX11_fitsAll_62 : decode cX11_fitsAll 62 = .ok (.ireturn, 1) := dk_172 hN_cX11_fitsAll rfl rfl
theorem dX11_fitsAll_16 : decode cX11_fitsAll 16 = .ok (.iload_n 3, 1) := dk_29 hN_cX11_fitsAll rfl rfl
theorem dX11_fitsAll_17 : decode cX11_fitsAll 17 = .ok (.ifCond .eq 36, 3) := dk_153 hN_cX11_fitsAll rfl rfl rfl
theorem dX11_fitsAll_53 : decode cX11_fitsAll 53 = .ok (.iconst 0, 1) := dk_3 hN_cX11_fitsAll rfl rfl
theorem dX11_fitsAll_54 : decode cX11_fitsAll 54 = .ok (.istore_n 3, 1) := dk_62 hN_cX11_fitsAll rfl rfl
theorem dX11_fitsAll_55 : decode cX11_fitsAll 55 = .ok (.iinc 4 1, 3) := dk_132 hN_cX11_fitsAll rfl rfl rfl rfl
theorem dX11_fitsAll_58 : decode cX11_fitsAll 58 = .ok (.goto (-53), 3) := dk_167 hN_cX11_fitsAll rfl rfl rfl
theorem dX11_fitsAll_20 : decode cX11_fitsAll 20 = .ok (.iload 4, 2) := dk_21 hN_cX11_fitsAll rfl rfl rfl
theorem dX11_fitsAll_22 : decode cX11_fitsAll 22 = .ok (.iload_n 2, 1) := dk_28 hN_cX11_fitsAll rfl rfl
theorem dX11_fitsAll_23 : decode cX11_fitsAll 23 = .ok (.if_icmp .eq 26, 3) := dk_159 hN_cX11_fitsAll rfl rfl rfl
theorem dX11_fitsAll_49 : decode cX11_fitsAll 49 = .ok (.iconst 1, 1) := dk_4 hN_cX11_fitsAll rfl rfl
theorem dX11_fitsAll_50 : decode cX11_fitsAll 50 = .ok (.goto 4, 3) := dk_167 hN_cX11_fitsAll rfl rfl rfl
theorem dX11_fitsAll_26 : decode cX11_fitsAll 26 = .ok (.aload_n 0, 1) := dk_42 hN_cX11_fitsAll rfl rfl
theorem dX11_fitsAll_27 : decode cX11_fitsAll 27 = .ok (.getfield 20, 3) := dk_180 hN_cX11_fitsAll rfl rfl rfl
theorem dX11_fitsAll_30 : decode cX11_fitsAll 30 = .ok (.bipush 17, 2) := dk_16 hN_cX11_fitsAll rfl rfl rfl
theorem dX11_fitsAll_32 : decode cX11_fitsAll 32 = .ok (.iconst 4, 1) := dk_7 hN_cX11_fitsAll rfl rfl
theorem dX11_fitsAll_33 : decode cX11_fitsAll 33 = .ok (.iload 4, 2) := dk_21 hN_cX11_fitsAll rfl rfl rfl
theorem dX11_fitsAll_35 : decode cX11_fitsAll 35 = .ok (.imul, 1) := dk_104 hN_cX11_fitsAll rfl rfl
theorem dX11_fitsAll_36 : decode cX11_fitsAll 36 = .ok (.iadd, 1) := dk_96 hN_cX11_fitsAll rfl rfl
theorem dX11_fitsAll_37 : decode cX11_fitsAll 37 = .ok (.aload_n 0, 1) := dk_42 hN_cX11_fitsAll rfl rfl
theorem dX11_fitsAll_38 : decode cX11_fitsAll 38 = .ok (.iload 4, 2) := dk_21 hN_cX11_fitsAll rfl rfl rfl
theorem dX11_fitsAll_40 : decode cX11_fitsAll 40 = .ok (.iload_n 1, 1) := dk_27 hN_cX11_fitsAll rfl rfl
theorem dX11_fitsAll_41 : decode cX11_fitsAll 41 = .ok (.invokevirtual 263, 3) := dk_182 hN_cX11_fitsAll rfl rfl rfl
theorem dX11_fitsAll_44 : decode cX11_fitsAll 44 = .ok (.iadd, 1) := dk_96 hN_cX11_fitsAll rfl rfl
theorem dX11_fitsAll_45 : decode cX11_fitsAll 45 = .ok (.iaload, 1) := dk_46 hN_cX11_fitsAll rfl rfl
theorem dX11_fitsAll_46 : decode cX11_fitsAll 46 = .ok (.ifCond .le 7, 3) := dk_158 hN_cX11_fitsAll rfl rfl rfl
theorem dX11_doesExtend_0 : decode cX11_doesExtend 0 = .ok (.iconst 0, 1) := dk_3 hN_cX11_doesExtend rfl rfl
theorem dX11_doesExtend_1 : decode cX11_doesExtend 1 = .ok (.istore_n 3, 1) := dk_62 hN_cX11_doesExtend rfl rfl
theorem dX11_doesExtend_2 : decode cX11_doesExtend 2 = .ok (.iconst 0, 1) := dk_3 hN_cX11_doesExtend rfl rfl
theorem dX11_doesExtend_3 : decode cX11_doesExtend 3 = .ok (.istore 4, 2) := dk_54 hN_cX11_doesExtend rfl rfl rfl
theorem dX11_doesExtend_5 : decode cX11_doesExtend 5 = .ok (.iload 4, 2) := dk_21 hN_cX11_doesExtend rfl rfl rfl
theorem dX11_doesExtend_7 : decode cX11_doesExtend 7 = .ok (.aload_n 0, 1) := dk_42 hN_cX11_doesExtend rfl rfl
theorem dX11_doesExtend_8 : decode cX11_doesExtend 8 = .ok (.invokevirtual 251, 3) := dk_182 hN_cX11_doesExtend rfl rfl rfl
theorem dX11_doesExtend_11 : decode cX11_doesExtend 11 = .ok (.if_icmp .ge 40, 3) := dk_162 hN_cX11_doesExtend rfl rfl rfl
theorem dX11_doesExtend_51 : decode cX11_doesExtend 51 = .ok (.iload_n 3, 1) := dk_29 hN_cX11_doesExtend rfl rfl
theorem dX11_doesExtend_52 : decode cX11_doesExtend 52 = .ok (.ireturn, 1) := dk_172 hN_cX11_doesExtend rfl rfl
theorem dX11_doesExtend_14 : decode cX11_doesExtend 14 = .ok (.iload_n 3, 1) := dk_29 hN_cX11_doesExtend rfl rfl
theorem dX11_doesExtend_15 : decode cX11_doesExtend 15 = .ok (.ifCond .ne 24, 3) := dk_154 hN_cX11_doesExtend rfl rfl rfl
theorem dX11_doesExtend_39 : decode cX11_doesExtend 39 = .ok (.iconst 1, 1) := dk_4 hN_cX11_doesExtend rfl rfl
theorem dX11_doesExtend_40 : decode cX11_doesExtend 40 = .ok (.goto 4, 3) := dk_167 hN_cX11_doesExtend rfl rfl rfl
theorem dX11_doesExtend_44 : decode cX11_doesExtend 44 = .ok (.istore_n 3, 1) := dk_62 hN_cX11_doesExtend rfl rfl
theorem dX11_doesExtend_45 : decode cX11_doesExtend 45 = .ok (.iinc 4 1, 3) := dk_132 hN_cX11_doesExtend rfl rfl rfl rfl
theorem dX11_doesExtend_48 : decode cX11_doesExtend 48 = .ok (.goto (-43), 3) := dk_167 hN_cX11_doesExtend rfl rfl rfl
theorem dX11_doesExtend_18 : decode cX11_doesExtend 18 = .ok (.aload_n 0, 1) := dk_42 hN_cX11_doesExtend rfl rfl
theorem dX11_doesExtend_19 : decode cX11_doesExtend 19 = .ok (.iload_n 1, 1) := dk_27 hN_cX11_doesExtend rfl rfl
theorem dX11_doesExtend_20 : decode cX11_doesExtend 20 = .ok (.iload 4, 2) := dk_21 hN_cX11_doesExtend rfl rfl rfl
theorem dX11_doesExtend_22 : decode cX11_doesExtend 22 = .ok (.invokevirtual 263, 3) := dk_182 hN_cX11_doesExtend rfl rfl rfl
theorem dX11_doesExtend_25 : decode cX11_doesExtend 25 = .ok (.iload_n 2, 1) := dk_28 hN_cX11_doesExtend rfl rfl
theorem dX11_doesExtend_26 : decode cX11_doesExtend 26 = .ok (.if_icmp .ne 17, 3) := dk_160 hN_cX11_doesExtend rfl rfl rfl
theorem dX11_doesExtend_43 : decode cX11_doesExtend 43 = .ok (.iconst 0, 1) := dk_3 hN_cX11_doesExtend rfl rfl
theorem dX11_doesExtend_29 : decode cX11_doesExtend 29 = .ok (.aload_n 0, 1) := dk_42 hN_cX11_doesExtend rfl rfl
theorem dX11_doesExtend_30 : decode cX11_doesExtend 30 = .ok (.iload 4, 2) := dk_21 hN_cX11_doesExtend rfl rfl rfl
theorem dX11_doesExtend_32 : decode cX11_doesExtend 32 = .ok (.iload_n 1, 1) := dk_27 hN_cX11_doesExtend rfl rfl
theorem dX11_doesExtend_33 : decode cX11_doesExtend 33 = .ok (.invokevirtual 302, 3) := dk_182 hN_cX11_doesExtend rfl rfl rfl
theorem dX11_doesExtend_36 : decode cX11_doesExtend 36 = .ok (.ifCond .eq 7, 3) := dk_153 hN_cX11_doesExtend rfl rfl rfl
theorem dX11_extend_0 : decode cX11_extend 0 = .ok (.aload_n 0, 1) := dk_42 hN_cX11_extend rfl rfl
theorem dX11_extend_1 : decode cX11_extend 1 = .ok (.invokevirtual 174, 3) := dk_182 hN_cX11_extend rfl rfl rfl
theorem dX11_extend_4 : decode cX11_extend 4 = .ok (.aload_n 0, 1) := dk_42 hN_cX11_extend rfl rfl
theorem dX11_extend_5 : decode cX11_extend 5 = .ok (.iload_n 1, 1) := dk_27 hN_cX11_extend rfl rfl
theorem dX11_extend_6 : decode cX11_extend 6 = .ok (.iload_n 2, 1) := dk_28 hN_cX11_extend rfl rfl
theorem dX11_extend_7 : decode cX11_extend 7 = .ok (.invokevirtual 305, 3) := dk_182 hN_cX11_extend rfl rfl rfl
theorem dX11_extend_10 : decode cX11_extend 10 = .ok (.ifCond .eq 20, 3) := dk_153 hN_cX11_extend rfl rfl rfl
theorem dX11_extend_30 : decode cX11_extend 30 = .ok (.aload_n 0, 1) := dk_42 hN_cX11_extend rfl rfl
theorem dX11_extend_31 : decode cX11_extend 31 = .ok (.iconst 1, 1) := dk_4 hN_cX11_extend rfl rfl
theorem dX11_extend_32 : decode cX11_extend 32 = .ok (.invokevirtual 177, 3) := dk_182 hN_cX11_extend rfl rfl rfl
theorem dX11_extend_35 : decode cX11_extend 35 = .ok (.ireturn, 1) := dk_172 hN_cX11_extend rfl rfl
theorem dX11_extend_13 : decode cX11_extend 13 = .ok (.aload_n 0, 1) := dk_42 hN_cX11_extend rfl rfl
theorem dX11_extend_14 : decode cX11_extend 14 = .ok (.iload_n 1, 1) := dk_27 hN_cX11_extend rfl rfl
theorem dX11_extend_15 : decode cX11_extend 15 = .ok (.iload_n 2, 1) := dk_28 hN_cX11_extend rfl rfl
theorem dX11_extend_16 : decode cX11_extend 16 = .ok (.invokevirtual 308, 3) := dk_182 hN_cX11_extend rfl rfl rfl
theorem dX11_extend_19 : decode cX11_extend 19 = .ok (.ifCond .eq 7, 3) := dk_153 hN_cX11_extend rfl rfl rfl
theorem dX11_extend_26 : decode cX11_extend 26 = .ok (.iconst 0, 1) := dk_3 hN_cX11_extend rfl rfl
theorem dX11_extend_27 : decode cX11_extend 27 = .ok (.goto 8, 3) := dk_167 hN_cX11_extend rfl rfl rfl
theorem dX11_extend_22 : decode cX11_extend 22 = .ok (.iconst 1, 1) := dk_4 hN_cX11_extend rfl rfl
theorem dX11_extend_23 : decode cX11_extend 23 = .ok (.goto 12, 3) := dk_167 hN_cX11_extend rfl rfl rfl
theorem dX11_level_0 : decode cX11_level 0 = .ok (.aload_n 0, 1) := dk_42 hN_cX11_level rfl rfl
theorem dX11_level_1 : decode cX11_level 1 = .ok (.invokevirtual 174, 3) := dk_182 hN_cX11_level rfl rfl rfl
theorem dX11_level_4 : decode cX11_level 4 = .ok (.aload_n 0, 1) := dk_42 hN_cX11_level rfl rfl
theorem dX11_level_5 : decode cX11_level 5 = .ok (.getfield 183, 3) := dk_180 hN_cX11_level rfl rfl rfl
theorem dX11_level_8 : decode cX11_level 8 = .ok (.ifCond .ne 9, 3) := dk_154 hN_cX11_level rfl rfl rfl
theorem dX11_level_17 : decode cX11_level 17 = .ok (.aload_n 0, 1) := dk_42 hN_cX11_level rfl rfl
theorem dX11_level_18 : decode cX11_level 18 = .ok (.invokevirtual 289, 3) := dk_182 hN_cX11_level rfl rfl rfl
theorem dX11_level_21 : decode cX11_level 21 = .ok (.ifCond .eq 5, 3) := dk_153 hN_cX11_level rfl rfl rfl
theorem dX11_level_26 : decode cX11_level 26 = .ok (.iconst 0, 1) := dk_3 hN_cX11_level rfl rfl
theorem dX11_level_27 : decode cX11_level 27 = .ok (.istore_n 1, 1) := dk_60 hN_cX11_level rfl rfl
theorem dX11_level_28 : decode cX11_level 28 = .ok (.iconst 0, 1) := dk_3 hN_cX11_level rfl rfl
theorem dX11_level_29 : decode cX11_level 29 = .ok (.istore_n 2, 1) := dk_61 hN_cX11_level rfl rfl
theorem dX11_level_30 : decode cX11_level 30 = .ok (.iconst 0, 1) := dk_3 hN_cX11_level rfl rfl
theorem dX11_level_31 : decode cX11_level 31 = .ok (.istore_n 3, 1) := dk_62 hN_cX11_level rfl rfl
theorem dX11_level_24 : decode cX11_level 24 = .ok (.iconst 0, 1) := dk_3 hN_cX11_level rfl rfl
theorem dX11_level_25 : decode cX11_level 25 = .ok (.ireturn, 1) := dk_172 hN_cX11_level rfl rfl
theorem dX11_level_11 : decode cX11_level 11 = .ok (.aload_n 0, 1) := dk_42 hN_cX11_level rfl rfl
theorem dX11_level_12 : decode cX11_level 12 = .ok (.iconst 1, 1) := dk_4 hN_cX11_level rfl rfl
theorem dX11_level_13 : decode cX11_level 13 = .ok (.invokevirtual 177, 3) := dk_182 hN_cX11_level rfl rfl rfl
theorem dX11_level_16 : decode cX11_level 16 = .ok (.ireturn, 1) := dk_172 hN_cX11_level rfl rfl
theorem dX11_level_32 : decode cX11_level 32 = .ok (.iload_n 3, 1) := dk_29 hN_cX11_level rfl rfl
theorem dX11_level_33 : decode cX11_level 33 = .ok (.aload_n 0, 1) := dk_42 hN_cX11_level rfl rfl
theorem dX11_level_34 : decode cX11_level 34 = .ok (.getfield 20, 3) := dk_180 hN_cX11_level rfl rfl rfl
theorem dX11_level_37 : decode cX11_level 37 = .ok (.iconst 0, 1) := dk_3 hN_cX11_level rfl rfl
theorem dX11_level_38 : decode cX11_level 38 = .ok (.iaload, 1) := dk_46 hN_cX11_level rfl rfl
theorem dX11_level_39 : decode cX11_level 39 = .ok (.if_icmp .ge 70, 3) := dk_162 hN_cX11_level rfl rfl rfl
theorem dX11_level_109 : decode cX11_level 109 = .ok (.iload_n 2, 1) := dk_28 hN_cX11_level rfl rfl
theorem dX11_level_110 : decode cX11_level 110 = .ok (.ifCond .ne 7, 3) := dk_154 hN_cX11_level rfl rfl rfl
theorem dX11_level_117 : decode cX11_level 117 = .ok (.iload_n 1, 1) := dk_27 hN_cX11_level rfl rfl
theorem dX11_level_118 : decode cX11_level 118 = .ok (.ifCond .le 7, 3) := dk_158 hN_cX11_level rfl rfl rfl
theorem dX11_level_125 : decode cX11_level 125 = .ok (.iconst 3, 1) := dk_6 hN_cX11_level rfl rfl
theorem dX11_level_126 : decode cX11_level 126 = .ok (.ireturn, 1) := dk_172 hN_cX11_level rfl rfl
theorem dX11_level_121 : decode cX11_level 121 = .ok (.iconst 2, 1) := dk_5 hN_cX11_level rfl rfl
theorem dX11_level_122 : decode cX11_level 122 = .ok (.goto 4, 3) := dk_167 hN_cX11_level rfl rfl rfl
theorem dX11_level_113 : decode cX11_level 113 = .ok (.iconst 1, 1) := dk_4 hN_cX11_level rfl rfl
theorem dX11_level_114 : decode cX11_level 114 = .ok (.goto 12, 3) := dk_167 hN_cX11_level rfl rfl rfl
theorem dX11_level_42 : decode cX11_level 42 = .ok (.iconst 0, 1) := dk_3 hN_cX11_level rfl rfl
theorem dX11_level_43 : decode cX11_level 43 = .ok (.istore 4, 2) := dk_54 hN_cX11_level rfl rfl rfl
theorem dX11_level_45 : decode cX11_level 45 = .ok (.iload 4, 2) := dk_21 hN_cX11_level rfl rfl rfl
theorem dX11_level_47 : decode cX11_level 47 = .ok (.aload_n 0, 1) := dk_42 hN_cX11_level rfl rfl
theorem dX11_level_48 : decode cX11_level 48 = .ok (.getfield 20, 3) := dk_180 hN_cX11_level rfl rfl rfl
theorem dX11_level_51 : decode cX11_level 51 = .ok (.iload_n 3, 1) := dk_29 hN_cX11_level rfl rfl
theorem dX11_level_52 : decode cX11_level 52 = .ok (.invokestatic 247, 3) := dk_184 hN_cX11_level rfl rfl rfl
theorem dX11_level_55 : decode cX11_level 55 = .ok (.if_icmp .ge 48, 3) := dk_162 hN_cX11_level rfl rfl rfl
theorem dX11_level_103 : decode cX11_level 103 = .ok (.iinc 3 1, 3) := dk_132 hN_cX11_level rfl rfl rfl rfl
theorem dX11_level_106 : decode cX11_level 106 = .ok (.goto (-74), 3) := dk_167 hN_cX11_level rfl rfl rfl
theorem dX11_level_58 : decode cX11_level 58 = .ok (.aload_n 0, 1) := dk_42 hN_cX11_level rfl rfl
theorem dX11_level_59 : decode cX11_level 59 = .ok (.getfield 20, 3) := dk_180 hN_cX11_level rfl rfl rfl
theorem dX11_level_62 : decode cX11_level 62 = .ok (.bipush 17, 2) := dk_16 hN_cX11_level rfl rfl rfl
theorem dX11_level_64 : decode cX11_level 64 = .ok (.iconst 4, 1) := dk_7 hN_cX11_level rfl rfl
theorem dX11_level_65 : decode cX11_level 65 = .ok (.iload_n 3, 1) := dk_29 hN_cX11_level rfl rfl
theorem dX11_level_66 : decode cX11_level 66 = .ok (.imul, 1) := dk_104 hN_cX11_level rfl rfl
theorem dX11_level_67 : decode cX11_level 67 = .ok (.iadd, 1) := dk_96 hN_cX11_level rfl rfl
theorem dX11_level_68 : decode cX11_level 68 = .ok (.iload 4, 2) := dk_21 hN_cX11_level rfl rfl rfl
theorem dX11_level_70 : decode cX11_level 70 = .ok (.iadd, 1) := dk_96 hN_cX11_level rfl rfl
theorem dX11_level_71 : decode cX11_level 71 = .ok (.iaload, 1) := dk_46 hN_cX11_level rfl rfl
theorem dX11_level_72 : decode cX11_level 72 = .ok (.ifCond .ne 6, 3) := dk_154 hN_cX11_level rfl rfl rfl
theorem dX11_level_78 : decode cX11_level 78 = .ok (.aload_n 0, 1) := dk_42 hN_cX11_level rfl rfl
theorem dX11_level_79 : decode cX11_level 79 = .ok (.iload_n 3, 1) := dk_29 hN_cX11_level rfl rfl
theorem dX11_level_80 : decode cX11_level 80 = .ok (.iload 4, 2) := dk_21 hN_cX11_level rfl rfl rfl
theorem dX11_level_82 : decode cX11_level 82 = .ok (.invokevirtual 308, 3) := dk_182 hN_cX11_level rfl rfl rfl
theorem dX11_level_85 : decode cX11_level 85 = .ok (.ifCond .eq 9, 3) := dk_153 hN_cX11_level rfl rfl rfl
theorem dX11_level_94 : decode cX11_level 94 = .ok (.iinc 2 1, 3) := dk_132 hN_cX11_level rfl rfl rfl rfl
theorem dX11_level_97 : decode cX11_level 97 = .ok (.iinc 4 1, 3) := dk_132 hN_cX11_level rfl rfl rfl rfl
theorem dX11_level_100 : decode cX11_level 100 = .ok (.goto (-55), 3) := dk_167 hN_cX11_level rfl rfl rfl
theorem dX11_level_88 : decode cX11_level 88 = .ok (.iinc 1 1, 3) := dk_132 hN_cX11_level rfl rfl rfl rfl
theorem dX11_level_91 : decode cX11_level 91 = .ok (.goto 6, 3) := dk_167 hN_cX11_level rfl rfl rfl
theorem dX11_level_75 : decode cX11_level 75 = .ok (.goto 22, 3) := dk_167 hN_cX11_level rfl rfl rfl
theorem dX11_fittingAnswer_0 : decode cX11_fittingAnswer 0 = .ok (.iconst 0, 1) := dk_3 hN_cX11_fittingAnswer rfl rfl
theorem dX11_fittingAnswer_1 : decode cX11_fittingAnswer 1 = .ok (.istore_n 2, 1) := dk_61 hN_cX11_fittingAnswer rfl rfl
theorem dX11_fittingAnswer_2 : decode cX11_fittingAnswer 2 = .ok (.iconst 0, 1) := dk_3 hN_cX11_fittingAnswer rfl rfl
theorem dX11_fittingAnswer_3 : decode cX11_fittingAnswer 3 = .ok (.istore_n 3, 1) := dk_62 hN_cX11_fittingAnswer rfl rfl
theorem dX11_fittingAnswer_4 : decode cX11_fittingAnswer 4 = .ok (.iload_n 3, 1) := dk_29 hN_cX11_fittingAnswer rfl rfl
theorem dX11_fittingAnswer_5 : decode cX11_fittingAnswer 5 = .ok (.aload_n 0, 1) := dk_42 hN_cX11_fittingAnswer rfl rfl
theorem dX11_fittingAnswer_6 : decode cX11_fittingAnswer 6 = .ok (.invokevirtual 251, 3) := dk_182 hN_cX11_fittingAnswer rfl rfl rfl
theorem dX11_fittingAnswer_9 : decode cX11_fittingAnswer 9 = .ok (.if_icmp .ge 31, 3) := dk_162 hN_cX11_fittingAnswer rfl rfl rfl
theorem dX11_fittingAnswer_40 : decode cX11_fittingAnswer 40 = .ok (.iload_n 2, 1) := dk_28 hN_cX11_fittingAnswer rfl rfl
theorem dX11_fittingAnswer_41 : decode cX11_fittingAnswer 41 = .ok (.sipush 1000, 3) := dk_17 hN_cX11_fittingAnswer rfl rfl rfl
theorem dX11_fittingAnswer_44 : decode cX11_fittingAnswer 44 = .ok (.isub, 1) := dk_100 hN_cX11_fittingAnswer rfl rfl
theorem dX11_fittingAnswer_45 : decode cX11_fittingAnswer 45 = .ok (.ireturn, 1) := dk_172 hN_cX11_fittingAnswer rfl rfl
theorem dX11_fittingAnswer_12 : decode cX11_fittingAnswer 12 = .ok (.aload_n 0, 1) := dk_42 hN_cX11_fittingAnswer rfl rfl
theorem dX11_fittingAnswer_13 : decode cX11_fittingAnswer 13 = .ok (.iload_n 3, 1) := dk_29 hN_cX11_fittingAnswer rfl rfl
theorem dX11_fittingAnswer_14 : decode cX11_fittingAnswer 14 = .ok (.iconst (-1), 1) := dk_2 hN_cX11_fittingAnswer rfl rfl
theorem dX11_fittingAnswer_15 : decode cX11_fittingAnswer 15 = .ok (.invokevirtual 302, 3) := dk_182 hN_cX11_fittingAnswer rfl rfl rfl
theorem dX11_fittingAnswer_18 : decode cX11_fittingAnswer 18 = .ok (.ifCond .ne 6, 3) := dk_154 hN_cX11_fittingAnswer rfl rfl rfl
theorem dX11_fittingAnswer_24 : decode cX11_fittingAnswer 24 = .ok (.iload_n 2, 1) := dk_28 hN_cX11_fittingAnswer rfl rfl
theorem dX11_fittingAnswer_25 : decode cX11_fittingAnswer 25 = .ok (.iload_n 1, 1) := dk_27 hN_cX11_fittingAnswer rfl rfl
theorem dX11_fittingAnswer_26 : decode cX11_fittingAnswer 26 = .ok (.if_icmp .ne 5, 3) := dk_160 hN_cX11_fittingAnswer rfl rfl rfl
theorem dX11_fittingAnswer_31 : decode cX11_fittingAnswer 31 = .ok (.iinc 2 1, 3) := dk_132 hN_cX11_fittingAnswer rfl rfl rfl rfl
theorem dX11_fittingAnswer_34 : decode cX11_fittingAnswer 34 = .ok (.iinc 3 1, 3) := dk_132 hN_cX11_fittingAnswer rfl rfl rfl rfl
theorem dX11_fittingAnswer_37 : decode cX11_fittingAnswer 37 = .ok (.goto (-33), 3) := dk_167 hN_cX11_fittingAnswer rfl rfl rfl
theorem dX11_fittingAnswer_29 : decode cX11_fittingAnswer 29 = .ok (.iload_n 3, 1) := dk_29 hN_cX11_fittingAnswer rfl rfl
theorem dX11_fittingAnswer_30 : decode cX11_fittingAnswer 30 = .ok (.ireturn, 1) := dk_172 hN_cX11_fittingAnswer rfl rfl
theorem dX11_fittingAnswer_21 : decode cX11_fittingAnswer 21 = .ok (.goto 13, 3) := dk_167 hN_cX11_fittingAnswer rfl rfl rfl
theorem dX11_hidden_0 : decode cX11_hidden 0 = .ok (.aload_n 0, 1) := dk_42 hN_cX11_hidden rfl rfl
theorem dX11_hidden_1 : decode cX11_hidden 1 = .ok (.invokevirtual 174, 3) := dk_182 hN_cX11_hidden rfl rfl rfl
theorem dX11_hidden_4 : decode cX11_hidden 4 = .ok (.aload_n 0, 1) := dk_42 hN_cX11_hidden rfl rfl
theorem dX11_hidden_5 : decode cX11_hidden 5 = .ok (.getfield 183, 3) := dk_180 hN_cX11_hidden rfl rfl rfl
theorem dX11_hidden_8 : decode cX11_hidden 8 = .ok (.ifCond .eq 15, 3) := dk_153 hN_cX11_hidden rfl rfl rfl
theorem dX11_hidden_23 : decode cX11_hidden 23 = .ok (.aload_n 0, 1) := dk_42 hN_cX11_hidden rfl rfl
theorem dX11_hidden_24 : decode cX11_hidden 24 = .ok (.iconst 1, 1) := dk_4 hN_cX11_hidden rfl rfl
theorem dX11_hidden_25 : decode cX11_hidden 25 = .ok (.invokevirtual 177, 3) := dk_182 hN_cX11_hidden rfl rfl rfl
theorem dX11_hidden_28 : decode cX11_hidden 28 = .ok (.ireturn, 1) := dk_172 hN_cX11_hidden rfl rfl
theorem dX11_hidden_11 : decode cX11_hidden 11 = .ok (.aload_n 0, 1) := dk_42 hN_cX11_hidden rfl rfl
theorem dX11_hidden_12 : decode cX11_hidden 12 = .ok (.iconst (-1), 1) := dk_2 hN_cX11_hidden rfl rfl
theorem dX11_hidden_13 : decode cX11_hidden 13 = .ok (.invokevirtual 311, 3) := dk_182 hN_cX11_hidden rfl rfl rfl
theorem dX11_hidden_16 : decode cX11_hidden 16 = .ok (.sipush 1000, 3) := dk_17 hN_cX11_hidden rfl rfl rfl
theorem dX11_hidden_19 : decode cX11_hidden 19 = .ok (.iadd, 1) := dk_96 hN_cX11_hidden rfl rfl
theorem dX11_hidden_20 : decode cX11_hidden 20 = .ok (.goto 8, 3) := dk_167 hN_cX11_hidden rfl rfl rfl
theorem dX11_answer_0 : decode cX11_answer 0 = .ok (.aload_n 0, 1) := dk_42 hN_cX11_answer rfl rfl
theorem dX11_answer_1 : decode cX11_answer 1 = .ok (.invokevirtual 174, 3) := dk_182 hN_cX11_answer rfl rfl rfl
theorem dX11_answer_4 : decode cX11_answer 4 = .ok (.aload_n 0, 1) := dk_42 hN_cX11_answer rfl rfl
theorem dX11_answer_5 : decode cX11_answer 5 = .ok (.getfield 183, 3) := dk_180 hN_cX11_answer rfl rfl rfl
theorem dX11_answer_8 : decode cX11_answer 8 = .ok (.ifCond .eq 7, 3) := dk_153 hN_cX11_answer rfl rfl rfl
theorem dX11_answer_15 : decode cX11_answer 15 = .ok (.aload_n 0, 1) := dk_42 hN_cX11_answer rfl rfl
theorem dX11_answer_16 : decode cX11_answer 16 = .ok (.iconst 1, 1) := dk_4 hN_cX11_answer rfl rfl
theorem dX11_answer_17 : decode cX11_answer 17 = .ok (.invokevirtual 177, 3) := dk_182 hN_cX11_answer rfl rfl rfl
theorem dX11_answer_20 : decode cX11_answer 20 = .ok (.ireturn, 1) := dk_172 hN_cX11_answer rfl rfl
theorem dX11_answer_11 : decode cX11_answer 11 = .ok (.iload_n 1, 1) := dk_27 hN_cX11_answer rfl rfl
theorem dX11_answer_12 : decode cX11_answer 12 = .ok (.ifCond .ge 9, 3) := dk_156 hN_cX11_answer rfl rfl rfl
theorem dX11_answer_21 : decode cX11_answer 21 = .ok (.aload_n 0, 1) := dk_42 hN_cX11_answer rfl rfl
theorem dX11_answer_22 : decode cX11_answer 22 = .ok (.iload_n 1, 1) := dk_27 hN_cX11_answer rfl rfl
theorem dX11_answer_23 : decode cX11_answer 23 = .ok (.invokevirtual 311, 3) := dk_182 hN_cX11_answer rfl rfl rfl
theorem dX11_answer_26 : decode cX11_answer 26 = .ok (.istore_n 2, 1) := dk_61 hN_cX11_answer rfl rfl
theorem dX11_answer_27 : decode cX11_answer 27 = .ok (.iload_n 2, 1) := dk_28 hN_cX11_answer rfl rfl
theorem dX11_answer_28 : decode cX11_answer 28 = .ok (.ifCond .ge 11, 3) := dk_156 hN_cX11_answer rfl rfl rfl
theorem dX11_answer_39 : decode cX11_answer 39 = .ok (.iload_n 2, 1) := dk_28 hN_cX11_answer rfl rfl
theorem dX11_answer_40 : decode cX11_answer 40 = .ok (.ireturn, 1) := dk_172 hN_cX11_answer rfl rfl
theorem dX11_answer_31 : decode cX11_answer 31 = .ok (.aload_n 0, 1) := dk_42 hN_cX11_answer rfl rfl
theorem dX11_answer_32 : decode cX11_answer 32 = .ok (.iconst 1, 1) := dk_4 hN_cX11_answer rfl rfl
theorem dX11_answer_33 : decode cX11_answer 33 = .ok (.invokevirtual 177, 3) := dk_182 hN_cX11_answer rfl rfl rfl
theorem dX11_answer_36 : decode cX11_answer 36 = .ok (.goto 4, 3) := dk_167 hN_cX11_answer rfl rfl rfl
theorem dX11_onesOf_0 : decode cX11_onesOf 0 = .ok (.bipush 17, 2) := dk_16 hN_cX11_onesOf rfl rfl rfl
theorem dX11_onesOf_2 : decode cX11_onesOf 2 = .ok (.iconst 4, 1) := dk_7 hN_cX11_onesOf rfl rfl
theorem dX11_onesOf_3 : decode cX11_onesOf 3 = .ok (.iload_n 1, 1) := dk_27 hN_cX11_onesOf rfl rfl
theorem dX11_onesOf_4 : decode cX11_onesOf 4 = .ok (.imul, 1) := dk_104 hN_cX11_onesOf rfl rfl
theorem dX11_onesOf_5 : decode cX11_onesOf 5 = .ok (.iadd, 1) := dk_96 hN_cX11_onesOf rfl rfl
theorem dX11_onesOf_6 : decode cX11_onesOf 6 = .ok (.istore_n 3, 1) := dk_62 hN_cX11_onesOf rfl rfl
theorem dX11_onesOf_7 : decode cX11_onesOf 7 = .ok (.aload_n 0, 1) := dk_42 hN_cX11_onesOf rfl rfl
theorem dX11_onesOf_8 : decode cX11_onesOf 8 = .ok (.getfield 20, 3) := dk_180 hN_cX11_onesOf rfl rfl rfl
theorem dX11_onesOf_11 : decode cX11_onesOf 11 = .ok (.bipush 9, 2) := dk_16 hN_cX11_onesOf rfl rfl rfl
theorem dX11_onesOf_13 : decode cX11_onesOf 13 = .ok (.iload_n 1, 1) := dk_27 hN_cX11_onesOf rfl rfl
theorem dX11_onesOf_14 : decode cX11_onesOf 14 = .ok (.iadd, 1) := dk_96 hN_cX11_onesOf rfl rfl
theorem dX11_onesOf_15 : decode cX11_onesOf 15 = .ok (.iaload, 1) := dk_46 hN_cX11_onesOf rfl rfl
theorem dX11_onesOf_16 : decode cX11_onesOf 16 = .ok (.bipush (-2), 2) := dk_16 hN_cX11_onesOf rfl rfl rfl
theorem dX11_onesOf_18 : decode cX11_onesOf 18 = .ok (.if_icmp .ne 28, 3) := dk_160 hN_cX11_onesOf rfl rfl rfl
theorem dX11_onesOf_46 : decode cX11_onesOf 46 = .ok (.aload_n 0, 1) := dk_42 hN_cX11_onesOf rfl rfl
theorem dX11_onesOf_47 : decode cX11_onesOf 47 = .ok (.getfield 20, 3) := dk_180 hN_cX11_onesOf rfl rfl rfl
theorem dX11_onesOf_50 : decode cX11_onesOf 50 = .ok (.iconst 1, 1) := dk_4 hN_cX11_onesOf rfl rfl
theorem dX11_onesOf_51 : decode cX11_onesOf 51 = .ok (.iload_n 1, 1) := dk_27 hN_cX11_onesOf rfl rfl
theorem dX11_onesOf_52 : decode cX11_onesOf 52 = .ok (.iadd, 1) := dk_96 hN_cX11_onesOf rfl rfl
theorem dX11_onesOf_53 : decode cX11_onesOf 53 = .ok (.iaload, 1) := dk_46 hN_cX11_onesOf rfl rfl
theorem dX11_onesOf_54 : decode cX11_onesOf 54 = .ok (.iload_n 2, 1) := dk_28 hN_cX11_onesOf rfl rfl
theorem dX11_onesOf_55 : decode cX11_onesOf 55 = .ok (.if_icmp .ne 23, 3) := dk_160 hN_cX11_onesOf rfl rfl rfl
theorem dX11_onesOf_78 : decode cX11_onesOf 78 = .ok (.aload_n 0, 1) := dk_42 hN_cX11_onesOf rfl rfl
theorem dX11_onesOf_79 : decode cX11_onesOf 79 = .ok (.getfield 20, 3) := dk_180 hN_cX11_onesOf rfl rfl rfl
theorem dX11_onesOf_82 : decode cX11_onesOf 82 = .ok (.bipush 9, 2) := dk_16 hN_cX11_onesOf rfl rfl rfl
theorem dX11_onesOf_84 : decode cX11_onesOf 84 = .ok (.iload_n 1, 1) := dk_27 hN_cX11_onesOf rfl rfl
theorem dX11_onesOf_85 : decode cX11_onesOf 85 = .ok (.iadd, 1) := dk_96 hN_cX11_onesOf rfl rfl
theorem dX11_onesOf_86 : decode cX11_onesOf 86 = .ok (.iaload, 1) := dk_46 hN_cX11_onesOf rfl rfl
theorem dX11_onesOf_87 : decode cX11_onesOf 87 = .ok (.iload_n 2, 1) := dk_28 hN_cX11_onesOf rfl rfl
theorem dX11_onesOf_88 : decode cX11_onesOf 88 = .ok (.if_icmp .ne 23, 3) := dk_160 hN_cX11_onesOf rfl rfl rfl
theorem dX11_onesOf_111 : decode cX11_onesOf 111 = .ok (.iconst (-1), 1) := dk_2 hN_cX11_onesOf rfl rfl
theorem dX11_onesOf_112 : decode cX11_onesOf 112 = .ok (.ireturn, 1) := dk_172 hN_cX11_onesOf rfl rfl
theorem dX11_onesOf_91 : decode cX11_onesOf 91 = .ok (.aload_n 0, 1) := dk_42 hN_cX11_onesOf rfl rfl
theorem dX11_onesOf_92 : decode cX11_onesOf 92 = .ok (.getfield 20, 3) := dk_180 hN_cX11_onesOf rfl rfl rfl
theorem dX11_onesOf_95 : decode cX11_onesOf 95 = .ok (.iload_n 3, 1) := dk_29 hN_cX11_onesOf rfl rfl
theorem dX11_onesOf_96 : decode cX11_onesOf 96 = .ok (.iconst 1, 1) := dk_4 hN_cX11_onesOf rfl rfl
theorem dX11_onesOf_97 : decode cX11_onesOf 97 = .ok (.iadd, 1) := dk_96 hN_cX11_onesOf rfl rfl
theorem dX11_onesOf_98 : decode cX11_onesOf 98 = .ok (.iaload, 1) := dk_46 hN_cX11_onesOf rfl rfl
theorem dX11_onesOf_99 : decode cX11_onesOf 99 = .ok (.aload_n 0, 1) := dk_42 hN_cX11_onesOf rfl rfl
theorem dX11_onesOf_100 : decode cX11_onesOf 100 = .ok (.getfield 20, 3) := dk_180 hN_cX11_onesOf rfl rfl rfl
theorem dX11_onesOf_103 : decode cX11_onesOf 103 = .ok (.iload_n 3, 1) := dk_29 hN_cX11_onesOf rfl rfl
theorem dX11_onesOf_104 : decode cX11_onesOf 104 = .ok (.iconst 3, 1) := dk_6 hN_cX11_onesOf rfl rfl
theorem dX11_onesOf_105 : decode cX11_onesOf 105 = .ok (.iadd, 1) := dk_96 hN_cX11_onesOf rfl rfl
theorem dX11_onesOf_106 : decode cX11_onesOf 106 = .ok (.iaload, 1) := dk_46 hN_cX11_onesOf rfl rfl
theorem dX11_onesOf_107 : decode cX11_onesOf 107 = .ok (.iadd, 1) := dk_96 hN_cX11_onesOf rfl rfl
theorem dX11_onesOf_108 : decode cX11_onesOf 108 = .ok (.goto 4, 3) := dk_167 hN_cX11_onesOf rfl rfl rfl
theorem dX11_onesOf_58 : decode cX11_onesOf 58 = .ok (.aload_n 0, 1) := dk_42 hN_cX11_onesOf rfl rfl
theorem dX11_onesOf_59 : decode cX11_onesOf 59 = .ok (.getfield 20, 3) := dk_180 hN_cX11_onesOf rfl rfl rfl
theorem dX11_onesOf_62 : decode cX11_onesOf 62 = .ok (.iload_n 3, 1) := dk_29 hN_cX11_onesOf rfl rfl
theorem dX11_onesOf_63 : decode cX11_onesOf 63 = .ok (.iconst 2, 1) := dk_5 hN_cX11_onesOf rfl rfl
theorem dX11_onesOf_64 : decode cX11_onesOf 64 = .ok (.iadd, 1) := dk_96 hN_cX11_onesOf rfl rfl
theorem dX11_onesOf_65 : decode cX11_onesOf 65 = .ok (.iaload, 1) := dk_46 hN_cX11_onesOf rfl rfl
theorem dX11_onesOf_66 : decode cX11_onesOf 66 = .ok (.aload_n 0, 1) := dk_42 hN_cX11_onesOf rfl rfl
theorem dX11_onesOf_67 : decode cX11_onesOf 67 = .ok (.getfield 20, 3) := dk_180 hN_cX11_onesOf rfl rfl rfl
theorem dX11_onesOf_70 : decode cX11_onesOf 70 = .ok (.iload_n 3, 1) := dk_29 hN_cX11_onesOf rfl rfl
theorem dX11_onesOf_71 : decode cX11_onesOf 71 = .ok (.iconst 3, 1) := dk_6 hN_cX11_onesOf rfl rfl
theorem dX11_onesOf_72 : decode cX11_onesOf 72 = .ok (.iadd, 1) := dk_96 hN_cX11_onesOf rfl rfl
theorem dX11_onesOf_73 : decode cX11_onesOf 73 = .ok (.iaload, 1) := dk_46 hN_cX11_onesOf rfl rfl
theorem dX11_onesOf_74 : decode cX11_onesOf 74 = .ok (.iadd, 1) := dk_96 hN_cX11_onesOf rfl rfl
theorem dX11_onesOf_75 : decode cX11_onesOf 75 = .ok (.goto 37, 3) := dk_167 hN_cX11_onesOf rfl rfl rfl
theorem dX11_onesOf_21 : decode cX11_onesOf 21 = .ok (.aload_n 0, 1) := dk_42 hN_cX11_onesOf rfl rfl
theorem dX11_onesOf_22 : decode cX11_onesOf 22 = .ok (.getfield 20, 3) := dk_180 hN_cX11_onesOf rfl rfl rfl
theorem dX11_onesOf_25 : decode cX11_onesOf 25 = .ok (.iconst 1, 1) := dk_4 hN_cX11_onesOf rfl rfl
theorem dX11_onesOf_26 : decode cX11_onesOf 26 = .ok (.iload_n 1, 1) := dk_27 hN_cX11_onesOf rfl rfl
theorem dX11_onesOf_27 : decode cX11_onesOf 27 = .ok (.iadd, 1) := dk_96 hN_cX11_onesOf rfl rfl
theorem dX11_onesOf_28 : decode cX11_onesOf 28 = .ok (.iaload, 1) := dk_46 hN_cX11_onesOf rfl rfl
theorem dX11_onesOf_29 : decode cX11_onesOf 29 = .ok (.iload_n 2, 1) := dk_28 hN_cX11_onesOf rfl rfl
theorem dX11_onesOf_30 : decode cX11_onesOf 30 = .ok (.if_icmp .ne 14, 3) := dk_160 hN_cX11_onesOf rfl rfl rfl
theorem dX11_onesOf_44 : decode cX11_onesOf 44 = .ok (.iconst (-1), 1) := dk_2 hN_cX11_onesOf rfl rfl
theorem dX11_onesOf_45 : decode cX11_onesOf 45 = .ok (.ireturn, 1) := dk_172 hN_cX11_onesOf rfl rfl
theorem dX11_onesOf_33 : decode cX11_onesOf 33 = .ok (.aload_n 0, 1) := dk_42 hN_cX11_onesOf rfl rfl
theorem dX11_onesOf_34 : decode cX11_onesOf 34 = .ok (.getfield 20, 3) := dk_180 hN_cX11_onesOf rfl rfl rfl
theorem dX11_onesOf_37 : decode cX11_onesOf 37 = .ok (.iload_n 3, 1) := dk_29 hN_cX11_onesOf rfl rfl
theorem dX11_onesOf_38 : decode cX11_onesOf 38 = .ok (.iconst 1, 1) := dk_4 hN_cX11_onesOf rfl rfl
theorem dX11_onesOf_39 : decode cX11_onesOf 39 = .ok (.iadd, 1) := dk_96 hN_cX11_onesOf rfl rfl
theorem dX11_onesOf_40 : decode cX11_onesOf 40 = .ok (.iaload, 1) := dk_46 hN_cX11_onesOf rfl rfl
theorem dX11_onesOf_41 : decode cX11_onesOf 41 = .ok (.goto 4, 3) := dk_167 hN_cX11_onesOf rfl rfl rfl
theorem dX11_disturbed_0 : decode cX11_disturbed 0 = .ok (.aload_n 0, 1) := dk_42 hN_cX11_disturbed rfl rfl
theorem dX11_disturbed_1 : decode cX11_disturbed 1 = .ok (.invokevirtual 174, 3) := dk_182 hN_cX11_disturbed rfl rfl rfl
theorem dX11_disturbed_4 : decode cX11_disturbed 4 = .ok (.aload_n 0, 1) := dk_42 hN_cX11_disturbed rfl rfl
theorem dX11_disturbed_5 : decode cX11_disturbed 5 = .ok (.getfield 183, 3) := dk_180 hN_cX11_disturbed rfl rfl rfl
theorem dX11_disturbed_8 : decode cX11_disturbed 8 = .ok (.ifCond .ne 9, 3) := dk_154 hN_cX11_disturbed rfl rfl rfl
theorem dX11_disturbed_17 : decode cX11_disturbed 17 = .ok (.iconst 0, 1) := dk_3 hN_cX11_disturbed rfl rfl
theorem dX11_disturbed_18 : decode cX11_disturbed 18 = .ok (.istore_n 1, 1) := dk_60 hN_cX11_disturbed rfl rfl
theorem dX11_disturbed_11 : decode cX11_disturbed 11 = .ok (.aload_n 0, 1) := dk_42 hN_cX11_disturbed rfl rfl
theorem dX11_disturbed_12 : decode cX11_disturbed 12 = .ok (.iconst 1, 1) := dk_4 hN_cX11_disturbed rfl rfl
theorem dX11_disturbed_13 : decode cX11_disturbed 13 = .ok (.invokevirtual 177, 3) := dk_182 hN_cX11_disturbed rfl rfl rfl
theorem dX11_disturbed_16 : decode cX11_disturbed 16 = .ok (.ireturn, 1) := dk_172 hN_cX11_disturbed rfl rfl
theorem dX11_disturbed_19 : decode cX11_disturbed 19 = .ok (.iload_n 1, 1) := dk_27 hN_cX11_disturbed rfl rfl
theorem dX11_disturbed_20 : decode cX11_disturbed 20 = .ok (.aload_n 0, 1) := dk_42 hN_cX11_disturbed rfl rfl
theorem dX11_disturbed_21 : decode cX11_disturbed 21 = .ok (.getfield 20, 3) := dk_180 hN_cX11_disturbed rfl rfl rfl
theorem dX11_disturbed_24 : decode cX11_disturbed 24 = .ok (.bipush 50, 2) := dk_16 hN_cX11_disturbed rfl rfl rfl
theorem dX11_disturbed_26 : decode cX11_disturbed 26 = .ok (.iaload, 1) := dk_46 hN_cX11_disturbed rfl rfl
theorem dX11_disturbed_27 : decode cX11_disturbed 27 = .ok (.if_icmp .ge 66, 3) := dk_162 hN_cX11_disturbed rfl rfl rfl
theorem dX11_disturbed_93 : decode cX11_disturbed 93 = .ok (.bipush (-2), 2) := dk_16 hN_cX11_disturbed rfl rfl rfl
theorem dX11_disturbed_95 : decode cX11_disturbed 95 = .ok (.ireturn, 1) := dk_172 hN_cX11_disturbed rfl rfl
theorem dX11_disturbed_30 : decode cX11_disturbed 30 = .ok (.iconst (-1), 1) := dk_2 hN_cX11_disturbed rfl rfl
theorem dX11_disturbed_31 : decode cX11_disturbed 31 = .ok (.istore_n 2, 1) := dk_61 hN_cX11_disturbed rfl rfl
theorem dX11_disturbed_32 : decode cX11_disturbed 32 = .ok (.iconst 0, 1) := dk_3 hN_cX11_disturbed rfl rfl
theorem dX11_disturbed_33 : decode cX11_disturbed 33 = .ok (.istore_n 3, 1) := dk_62 hN_cX11_disturbed rfl rfl
theorem dX11_disturbed_34 : decode cX11_disturbed 34 = .ok (.iload_n 3, 1) := dk_29 hN_cX11_disturbed rfl rfl
theorem dX11_disturbed_35 : decode cX11_disturbed 35 = .ok (.aload_n 0, 1) := dk_42 hN_cX11_disturbed rfl rfl
theorem dX11_disturbed_36 : decode cX11_disturbed 36 = .ok (.getfield 20, 3) := dk_180 hN_cX11_disturbed rfl rfl rfl
theorem dX11_disturbed_39 : decode cX11_disturbed 39 = .ok (.iconst 0, 1) := dk_3 hN_cX11_disturbed rfl rfl
theorem dX11_disturbed_40 : decode cX11_disturbed 40 = .ok (.iaload, 1) := dk_46 hN_cX11_disturbed rfl rfl
theorem dX11_disturbed_41 : decode cX11_disturbed 41 = .ok (.if_icmp .ge 46, 3) := dk_162 hN_cX11_disturbed rfl rfl rfl
theorem dX11_disturbed_87 : decode cX11_disturbed 87 = .ok (.iinc 1 1, 3) := dk_132 hN_cX11_disturbed rfl rfl rfl rfl
theorem dX11_disturbed_90 : decode cX11_disturbed 90 = .ok (.goto (-71), 3) := dk_167 hN_cX11_disturbed rfl rfl rfl
theorem dX11_disturbed_44 : decode cX11_disturbed 44 = .ok (.aload_n 0, 1) := dk_42 hN_cX11_disturbed rfl rfl
theorem dX11_disturbed_45 : decode cX11_disturbed 45 = .ok (.iload_n 3, 1) := dk_29 hN_cX11_disturbed rfl rfl
theorem dX11_disturbed_46 : decode cX11_disturbed 46 = .ok (.iload_n 1, 1) := dk_27 hN_cX11_disturbed rfl rfl
theorem dX11_disturbed_47 : decode cX11_disturbed 47 = .ok (.invokevirtual 314, 3) := dk_182 hN_cX11_disturbed rfl rfl rfl
theorem dX11_disturbed_50 : decode cX11_disturbed 50 = .ok (.istore 4, 2) := dk_54 hN_cX11_disturbed rfl rfl rfl
theorem dX11_disturbed_52 : decode cX11_disturbed 52 = .ok (.iload 4, 2) := dk_21 hN_cX11_disturbed rfl rfl rfl
theorem dX11_disturbed_54 : decode cX11_disturbed 54 = .ok (.ifCond .lt 15, 3) := dk_155 hN_cX11_disturbed rfl rfl rfl
theorem dX11_disturbed_69 : decode cX11_disturbed 69 = .ok (.iload 4, 2) := dk_21 hN_cX11_disturbed rfl rfl rfl
theorem dX11_disturbed_71 : decode cX11_disturbed 71 = .ok (.ifCond .lt 8, 3) := dk_155 hN_cX11_disturbed rfl rfl rfl
theorem dX11_disturbed_79 : decode cX11_disturbed 79 = .ok (.iload_n 2, 1) := dk_28 hN_cX11_disturbed rfl rfl
theorem dX11_disturbed_80 : decode cX11_disturbed 80 = .ok (.istore_n 2, 1) := dk_61 hN_cX11_disturbed rfl rfl
theorem dX11_disturbed_81 : decode cX11_disturbed 81 = .ok (.iinc 3 1, 3) := dk_132 hN_cX11_disturbed rfl rfl rfl rfl
theorem dX11_disturbed_84 : decode cX11_disturbed 84 = .ok (.goto (-50), 3) := dk_167 hN_cX11_disturbed rfl rfl rfl
theorem dX11_disturbed_74 : decode cX11_disturbed 74 = .ok (.iload 4, 2) := dk_21 hN_cX11_disturbed rfl rfl rfl
theorem dX11_disturbed_76 : decode cX11_disturbed 76 = .ok (.goto 4, 3) := dk_167 hN_cX11_disturbed rfl rfl rfl
theorem dX11_disturbed_57 : decode cX11_disturbed 57 = .ok (.iload_n 2, 1) := dk_28 hN_cX11_disturbed rfl rfl
theorem dX11_disturbed_58 : decode cX11_disturbed 58 = .ok (.ifCond .lt 11, 3) := dk_155 hN_cX11_disturbed rfl rfl rfl
theorem dX11_disturbed_61 : decode cX11_disturbed 61 = .ok (.iload 4, 2) := dk_21 hN_cX11_disturbed rfl rfl rfl
theorem dX11_disturbed_63 : decode cX11_disturbed 63 = .ok (.iload_n 2, 1) := dk_28 hN_cX11_disturbed rfl rfl
theorem dX11_disturbed_64 : decode cX11_disturbed 64 = .ok (.if_icmp .eq 5, 3) := dk_159 hN_cX11_disturbed rfl rfl rfl
theorem dX11_disturbed_67 : decode cX11_disturbed 67 = .ok (.iload_n 1, 1) := dk_27 hN_cX11_disturbed rfl rfl
theorem dX11_disturbed_68 : decode cX11_disturbed 68 = .ok (.ireturn, 1) := dk_172 hN_cX11_disturbed rfl rfl
theorem dX11_sameOf_0 : decode cX11_sameOf 0 = .ok (.bipush 17, 2) := dk_16 hN_cX11_sameOf rfl rfl rfl
theorem dX11_sameOf_2 : decode cX11_sameOf 2 = .ok (.iconst 4, 1) := dk_7 hN_cX11_sameOf rfl rfl
theorem dX11_sameOf_3 : decode cX11_sameOf 3 = .ok (.iload_n 1, 1) := dk_27 hN_cX11_sameOf rfl rfl
theorem dX11_sameOf_4 : decode cX11_sameOf 4 = .ok (.imul, 1) := dk_104 hN_cX11_sameOf rfl rfl
theorem dX11_sameOf_5 : decode cX11_sameOf 5 = .ok (.iadd, 1) := dk_96 hN_cX11_sameOf rfl rfl
theorem dX11_sameOf_6 : decode cX11_sameOf 6 = .ok (.istore_n 2, 1) := dk_61 hN_cX11_sameOf rfl rfl
theorem dX11_sameOf_7 : decode cX11_sameOf 7 = .ok (.aload_n 0, 1) := dk_42 hN_cX11_sameOf rfl rfl
theorem dX11_sameOf_8 : decode cX11_sameOf 8 = .ok (.getfield 20, 3) := dk_180 hN_cX11_sameOf rfl rfl rfl
theorem dX11_sameOf_11 : decode cX11_sameOf 11 = .ok (.iload_n 2, 1) := dk_28 hN_cX11_sameOf rfl rfl
theorem dX11_sameOf_12 : decode cX11_sameOf 12 = .ok (.iaload, 1) := dk_46 hN_cX11_sameOf rfl rfl
theorem dX11_sameOf_13 : decode cX11_sameOf 13 = .ok (.aload_n 0, 1) := dk_42 hN_cX11_sameOf rfl rfl
theorem dX11_sameOf_14 : decode cX11_sameOf 14 = .ok (.getfield 20, 3) := dk_180 hN_cX11_sameOf rfl rfl rfl
theorem dX11_sameOf_17 : decode cX11_sameOf 17 = .ok (.iload_n 2, 1) := dk_28 hN_cX11_sameOf rfl rfl
theorem dX11_sameOf_18 : decode cX11_sameOf 18 = .ok (.iconst 3, 1) := dk_6 hN_cX11_sameOf rfl rfl
theorem dX11_sameOf_19 : decode cX11_sameOf 19 = .ok (.iadd, 1) := dk_96 hN_cX11_sameOf rfl rfl
theorem dX11_sameOf_20 : decode cX11_sameOf 20 = .ok (.iaload, 1) := dk_46 hN_cX11_sameOf rfl rfl
theorem dX11_sameOf_21 : decode cX11_sameOf 21 = .ok (.iadd, 1) := dk_96 hN_cX11_sameOf rfl rfl
theorem dX11_sameOf_22 : decode cX11_sameOf 22 = .ok (.aload_n 0, 1) := dk_42 hN_cX11_sameOf rfl rfl
theorem dX11_sameOf_23 : decode cX11_sameOf 23 = .ok (.getfield 20, 3) := dk_180 hN_cX11_sameOf rfl rfl rfl
theorem dX11_sameOf_26 : decode cX11_sameOf 26 = .ok (.iload_n 2, 1) := dk_28 hN_cX11_sameOf rfl rfl
theorem dX11_sameOf_27 : decode cX11_sameOf 27 = .ok (.iconst 1, 1) := dk_4 hN_cX11_sameOf rfl rfl
theorem dX11_sameOf_28 : decode cX11_sameOf 28 = .ok (.iadd, 1) := dk_96 hN_cX11_sameOf rfl rfl
theorem dX11_sameOf_29 : decode cX11_sameOf 29 = .ok (.iaload, 1) := dk_46 hN_cX11_sameOf rfl rfl
theorem dX11_sameOf_30 : decode cX11_sameOf 30 = .ok (.isub, 1) := dk_100 hN_cX11_sameOf rfl rfl
theorem dX11_sameOf_31 : decode cX11_sameOf 31 = .ok (.aload_n 0, 1) := dk_42 hN_cX11_sameOf rfl rfl
theorem dX11_sameOf_32 : decode cX11_sameOf 32 = .ok (.getfield 20, 3) := dk_180 hN_cX11_sameOf rfl rfl rfl
theorem dX11_sameOf_35 : decode cX11_sameOf 35 = .ok (.iload_n 2, 1) := dk_28 hN_cX11_sameOf rfl rfl
theorem dX11_sameOf_36 : decode cX11_sameOf 36 = .ok (.iconst 2, 1) := dk_5 hN_cX11_sameOf rfl rfl
theorem dX11_sameOf_37 : decode cX11_sameOf 37 = .ok (.iadd, 1) := dk_96 hN_cX11_sameOf rfl rfl
theorem dX11_sameOf_38 : decode cX11_sameOf 38 = .ok (.iaload, 1) := dk_46 hN_cX11_sameOf rfl rfl
theorem dX11_sameOf_39 : decode cX11_sameOf 39 = .ok (.isub, 1) := dk_100 hN_cX11_sameOf rfl rfl
theorem dX11_sameOf_40 : decode cX11_sameOf 40 = .ok (.ireturn, 1) := dk_172 hN_cX11_sameOf rfl rfl
theorem dX11_same_0 : decode cX11_same 0 = .ok (.aload_n 0, 1) := dk_42 hN_cX11_same rfl rfl
theorem dX11_same_1 : decode cX11_same 1 = .ok (.invokevirtual 174, 3) := dk_182 hN_cX11_same rfl rfl rfl
theorem dX11_same_4 : decode cX11_same 4 = .ok (.aload_n 0, 1) := dk_42 hN_cX11_same rfl rfl
theorem dX11_same_5 : decode cX11_same 5 = .ok (.iload_n 1, 1) := dk_27 hN_cX11_same rfl rfl
theorem dX11_same_6 : decode cX11_same 6 = .ok (.invokevirtual 244, 3) := dk_182 hN_cX11_same rfl rfl rfl
theorem dX11_same_9 : decode cX11_same 9 = .ok (.ifCond .eq 25, 3) := dk_153 hN_cX11_same rfl rfl rfl
theorem dX11_same_34 : decode cX11_same 34 = .ok (.aload_n 0, 1) := dk_42 hN_cX11_same rfl rfl
theorem dX11_same_35 : decode cX11_same 35 = .ok (.iconst 1, 1) := dk_4 hN_cX11_same rfl rfl
theorem dX11_same_36 : decode cX11_same 36 = .ok (.sipush (-1000), 3) := dk_17 hN_cX11_same rfl rfl rfl
theorem dX11_same_39 : decode cX11_same 39 = .ok (.invokevirtual 320, 3) := dk_182 hN_cX11_same rfl rfl rfl
theorem dX11_same_42 : decode cX11_same 42 = .ok (.ireturn, 1) := dk_172 hN_cX11_same rfl rfl
theorem dX11_same_12 : decode cX11_same 12 = .ok (.aload_n 0, 1) := dk_42 hN_cX11_same rfl rfl
theorem dX11_same_13 : decode cX11_same 13 = .ok (.getfield 20, 3) := dk_180 hN_cX11_same rfl rfl rfl
theorem dX11_same_16 : decode cX11_same 16 = .ok (.bipush 9, 2) := dk_16 hN_cX11_same rfl rfl rfl
theorem dX11_same_18 : decode cX11_same 18 = .ok (.iload_n 1, 1) := dk_27 hN_cX11_same rfl rfl
theorem dX11_same_19 : decode cX11_same 19 = .ok (.iadd, 1) := dk_96 hN_cX11_same rfl rfl
theorem dX11_same_20 : decode cX11_same 20 = .ok (.iaload, 1) := dk_46 hN_cX11_same rfl rfl
theorem dX11_same_21 : decode cX11_same 21 = .ok (.bipush (-2), 2) := dk_16 hN_cX11_same rfl rfl rfl
theorem dX11_same_23 : decode cX11_same 23 = .ok (.if_icmp .eq 11, 3) := dk_159 hN_cX11_same rfl rfl rfl
theorem dX11_same_26 : decode cX11_same 26 = .ok (.aload_n 0, 1) := dk_42 hN_cX11_same rfl rfl
theorem dX11_same_27 : decode cX11_same 27 = .ok (.iload_n 1, 1) := dk_27 hN_cX11_same rfl rfl
theorem dX11_same_28 : decode cX11_same 28 = .ok (.invokevirtual 317, 3) := dk_182 hN_cX11_same rfl rfl rfl
theorem dX11_same_31 : decode cX11_same 31 = .ok (.goto 11, 3) := dk_167 hN_cX11_same rfl rfl rfl
theorem dX11_isCycle_0 : decode cX11_isCycle 0 = .ok (.iload_n 1, 1) := dk_27 hN_cX11_isCycle rfl rfl
theorem dX11_isCycle_1 : decode cX11_isCycle 1 = .ok (.iconst 0, 1) := dk_3 hN_cX11_isCycle rfl rfl
theorem dX11_isCycle_2 : decode cX11_isCycle 2 = .ok (.iconst 1, 1) := dk_4 hN_cX11_isCycle rfl rfl
theorem dX11_isCycle_3 : decode cX11_isCycle 3 = .ok (.aload_n 0, 1) := dk_42 hN_cX11_isCycle rfl rfl
theorem dX11_isCycle_4 : decode cX11_isCycle 4 = .ok (.getfield 20, 3) := dk_180 hN_cX11_isCycle rfl rfl rfl
theorem dX11_isCycle_7 : decode cX11_isCycle 7 = .ok (.iconst 0, 1) := dk_3 hN_cX11_isCycle rfl rfl
theorem dX11_isCycle_8 : decode cX11_isCycle 8 = .ok (.iaload, 1) := dk_46 hN_cX11_isCycle rfl rfl
theorem dX11_isCycle_9 : decode cX11_isCycle 9 = .ok (.ishl, 1) := dk_120 hN_cX11_isCycle rfl rfl
theorem dX11_isCycle_10 : decode cX11_isCycle 10 = .ok (.iconst 1, 1) := dk_4 hN_cX11_isCycle rfl rfl
theorem dX11_isCycle_11 : decode cX11_isCycle 11 = .ok (.isub, 1) := dk_100 hN_cX11_isCycle rfl rfl
theorem dX11_isCycle_12 : decode cX11_isCycle 12 = .ok (.invokestatic 170, 3) := dk_184 hN_cX11_isCycle rfl rfl rfl
theorem dX11_isCycle_15 : decode cX11_isCycle 15 = .ok (.ifCond .eq 11, 3) := dk_153 hN_cX11_isCycle rfl rfl rfl
theorem dX11_isCycle_26 : decode cX11_isCycle 26 = .ok (.iconst 0, 1) := dk_3 hN_cX11_isCycle rfl rfl
theorem dX11_isCycle_27 : decode cX11_isCycle 27 = .ok (.ireturn, 1) := dk_172 hN_cX11_isCycle rfl rfl
theorem dX11_isCycle_18 : decode cX11_isCycle 18 = .ok (.iload_n 1, 1) := dk_27 hN_cX11_isCycle rfl rfl
theorem dX11_isCycle_19 : decode cX11_isCycle 19 = .ok (.invokestatic 323, 3) := dk_184 hN_cX11_isCycle rfl rfl rfl
theorem dX11_isCycle_22 : decode cX11_isCycle 22 = .ok (.iconst 3, 1) := dk_6 hN_cX11_isCycle rfl rfl
theorem dX11_isCycle_23 : decode cX11_isCycle 23 = .ok (.if_icmp .ge 5, 3) := dk_162 hN_cX11_isCycle rfl rfl rfl
theorem dX11_isCycle_28 : decode cX11_isCycle 28 = .ok (.iconst 0, 1) := dk_3 hN_cX11_isCycle rfl rfl
theorem dX11_isCycle_29 : decode cX11_isCycle 29 = .ok (.istore_n 2, 1) := dk_61 hN_cX11_isCycle rfl rfl
theorem dX11_isCycle_30 : decode cX11_isCycle 30 = .ok (.iconst 0, 1) := dk_3 hN_cX11_isCycle rfl rfl
theorem dX11_isCycle_31 : decode cX11_isCycle 31 = .ok (.istore_n 3, 1) := dk_62 hN_cX11_isCycle rfl rfl
theorem dX11_isCycle_32 : decode cX11_isCycle 32 = .ok (.iconst 0, 1) := dk_3 hN_cX11_isCycle rfl rfl
theorem dX11_isCycle_33 : decode cX11_isCycle 33 = .ok (.istore 4, 2) := dk_54 hN_cX11_isCycle rfl rfl rfl
theorem dX11_isCycle_35 : decode cX11_isCycle 35 = .ok (.iconst 0, 1) := dk_3 hN_cX11_isCycle rfl rfl
theorem dX11_isCycle_36 : decode cX11_isCycle 36 = .ok (.istore 5, 2) := dk_54 hN_cX11_isCycle rfl rfl rfl
theorem dX11_isCycle_38 : decode cX11_isCycle 38 = .ok (.iload 5, 2) := dk_21 hN_cX11_isCycle rfl rfl rfl
theorem dX11_isCycle_40 : decode cX11_isCycle 40 = .ok (.aload_n 0, 1) := dk_42 hN_cX11_isCycle rfl rfl
theorem dX11_isCycle_41 : decode cX11_isCycle 41 = .ok (.getfield 20, 3) := dk_180 hN_cX11_isCycle rfl rfl rfl
theorem dX11_isCycle_44 : decode cX11_isCycle 44 = .ok (.iconst 0, 1) := dk_3 hN_cX11_isCycle rfl rfl
theorem dX11_isCycle_45 : decode cX11_isCycle 45 = .ok (.iaload, 1) := dk_46 hN_cX11_isCycle rfl rfl
theorem dX11_isCycle_46 : decode cX11_isCycle 46 = .ok (.if_icmp .ge 89, 3) := dk_162 hN_cX11_isCycle rfl rfl rfl
theorem dX11_isCycle_135 : decode cX11_isCycle 135 = .ok (.iload_n 2, 1) := dk_28 hN_cX11_isCycle rfl rfl
theorem dX11_isCycle_136 : decode cX11_isCycle 136 = .ok (.iload_n 3, 1) := dk_29 hN_cX11_isCycle rfl rfl
theorem dX11_isCycle_137 : decode cX11_isCycle 137 = .ok (.if_icmp .eq 5, 3) := dk_159 hN_cX11_isCycle rfl rfl rfl
theorem dX11_isCycle_142 : decode cX11_isCycle 142 = .ok (.iconst 0, 1) := dk_3 hN_cX11_isCycle rfl rfl
theorem dX11_isCycle_143 : decode cX11_isCycle 143 = .ok (.istore 5, 2) := dk_54 hN_cX11_isCycle rfl rfl rfl
theorem dX11_isCycle_140 : decode cX11_isCycle 140 = .ok (.iconst 0, 1) := dk_3 hN_cX11_isCycle rfl rfl
theorem dX11_isCycle_141 : decode cX11_isCycle 141 = .ok (.ireturn, 1) := dk_172 hN_cX11_isCycle rfl rfl
theorem dX11_isCycle_49 : decode cX11_isCycle 49 = .ok (.iload_n 1, 1) := dk_27 hN_cX11_isCycle rfl rfl
theorem dX11_isCycle_50 : decode cX11_isCycle 50 = .ok (.iload 5, 2) := dk_21 hN_cX11_isCycle rfl rfl rfl
theorem dX11_isCycle_52 : decode cX11_isCycle 52 = .ok (.invokestatic 162, 3) := dk_184 hN_cX11_isCycle rfl rfl rfl
theorem dX11_isCycle_55 : decode cX11_isCycle 55 = .ok (.ifCond .ne 6, 3) := dk_154 hN_cX11_isCycle rfl rfl rfl
theorem dX11_isCycle_61 : decode cX11_isCycle 61 = .ok (.aload_n 0, 1) := dk_42 hN_cX11_isCycle rfl rfl
theorem dX11_isCycle_62 : decode cX11_isCycle 62 = .ok (.getfield 20, 3) := dk_180 hN_cX11_isCycle rfl rfl rfl
theorem dX11_isCycle_65 : decode cX11_isCycle 65 = .ok (.bipush 9, 2) := dk_16 hN_cX11_isCycle rfl rfl rfl
theorem dX11_isCycle_67 : decode cX11_isCycle 67 = .ok (.iload 5, 2) := dk_21 hN_cX11_isCycle rfl rfl rfl
theorem dX11_isCycle_69 : decode cX11_isCycle 69 = .ok (.iadd, 1) := dk_96 hN_cX11_isCycle rfl rfl
theorem dX11_isCycle_70 : decode cX11_isCycle 70 = .ok (.iaload, 1) := dk_46 hN_cX11_isCycle rfl rfl
theorem dX11_isCycle_71 : decode cX11_isCycle 71 = .ok (.bipush (-2), 2) := dk_16 hN_cX11_isCycle rfl rfl rfl
theorem dX11_isCycle_73 : decode cX11_isCycle 73 = .ok (.if_icmp .ne 5, 3) := dk_160 hN_cX11_isCycle rfl rfl rfl
theorem dX11_isCycle_78 : decode cX11_isCycle 78 = .ok (.iconst 1, 1) := dk_4 hN_cX11_isCycle rfl rfl
theorem dX11_isCycle_79 : decode cX11_isCycle 79 = .ok (.aload_n 0, 1) := dk_42 hN_cX11_isCycle rfl rfl
theorem dX11_isCycle_80 : decode cX11_isCycle 80 = .ok (.getfield 20, 3) := dk_180 hN_cX11_isCycle rfl rfl rfl
theorem dX11_isCycle_83 : decode cX11_isCycle 83 = .ok (.iconst 1, 1) := dk_4 hN_cX11_isCycle rfl rfl
theorem dX11_isCycle_84 : decode cX11_isCycle 84 = .ok (.iload 5, 2) := dk_21 hN_cX11_isCycle rfl rfl rfl
theorem dX11_isCycle_86 : decode cX11_isCycle 86 = .ok (.iadd, 1) := dk_96 hN_cX11_isCycle rfl rfl
theorem dX11_isCycle_87 : decode cX11_isCycle 87 = .ok (.iaload, 1) := dk_46 hN_cX11_isCycle rfl rfl
theorem dX11_isCycle_88 : decode cX11_isCycle 88 = .ok (.ishl, 1) := dk_120 hN_cX11_isCycle rfl rfl
theorem dX11_isCycle_89 : decode cX11_isCycle 89 = .ok (.iconst 1, 1) := dk_4 hN_cX11_isCycle rfl rfl
theorem dX11_isCycle_90 : decode cX11_isCycle 90 = .ok (.aload_n 0, 1) := dk_42 hN_cX11_isCycle rfl rfl
theorem dX11_isCycle_91 : decode cX11_isCycle 91 = .ok (.getfield 20, 3) := dk_180 hN_cX11_isCycle rfl rfl rfl
theorem dX11_isCycle_94 : decode cX11_isCycle 94 = .ok (.bipush 9, 2) := dk_16 hN_cX11_isCycle rfl rfl rfl
theorem dX11_isCycle_96 : decode cX11_isCycle 96 = .ok (.iload 5, 2) := dk_21 hN_cX11_isCycle rfl rfl rfl
theorem dX11_isCycle_98 : decode cX11_isCycle 98 = .ok (.iadd, 1) := dk_96 hN_cX11_isCycle rfl rfl
theorem dX11_isCycle_99 : decode cX11_isCycle 99 = .ok (.iaload, 1) := dk_46 hN_cX11_isCycle rfl rfl
theorem dX11_isCycle_100 : decode cX11_isCycle 100 = .ok (.ishl, 1) := dk_120 hN_cX11_isCycle rfl rfl
theorem dX11_isCycle_101 : decode cX11_isCycle 101 = .ok (.ior, 1) := dk_128 hN_cX11_isCycle rfl rfl
theorem dX11_isCycle_102 : decode cX11_isCycle 102 = .ok (.istore 6, 2) := dk_54 hN_cX11_isCycle rfl rfl rfl
theorem dX11_isCycle_104 : decode cX11_isCycle 104 = .ok (.iload_n 3, 1) := dk_29 hN_cX11_isCycle rfl rfl
theorem dX11_isCycle_105 : decode cX11_isCycle 105 = .ok (.iload 6, 2) := dk_21 hN_cX11_isCycle rfl rfl rfl
theorem dX11_isCycle_107 : decode cX11_isCycle 107 = .ok (.iand, 1) := dk_126 hN_cX11_isCycle rfl rfl
theorem dX11_isCycle_108 : decode cX11_isCycle 108 = .ok (.ifCond .eq 5, 3) := dk_153 hN_cX11_isCycle rfl rfl rfl
theorem dX11_isCycle_113 : decode cX11_isCycle 113 = .ok (.iload_n 3, 1) := dk_29 hN_cX11_isCycle rfl rfl
theorem dX11_isCycle_114 : decode cX11_isCycle 114 = .ok (.iload_n 2, 1) := dk_28 hN_cX11_isCycle rfl rfl
theorem dX11_isCycle_115 : decode cX11_isCycle 115 = .ok (.iload 6, 2) := dk_21 hN_cX11_isCycle rfl rfl rfl
theorem dX11_isCycle_117 : decode cX11_isCycle 117 = .ok (.iand, 1) := dk_126 hN_cX11_isCycle rfl rfl
theorem dX11_isCycle_118 : decode cX11_isCycle 118 = .ok (.ior, 1) := dk_128 hN_cX11_isCycle rfl rfl
theorem dX11_isCycle_119 : decode cX11_isCycle 119 = .ok (.istore_n 3, 1) := dk_62 hN_cX11_isCycle rfl rfl
theorem dX11_isCycle_120 : decode cX11_isCycle 120 = .ok (.iload_n 2, 1) := dk_28 hN_cX11_isCycle rfl rfl
theorem dX11_isCycle_121 : decode cX11_isCycle 121 = .ok (.iload 6, 2) := dk_21 hN_cX11_isCycle rfl rfl rfl
theorem dX11_isCycle_123 : decode cX11_isCycle 123 = .ok (.ior, 1) := dk_128 hN_cX11_isCycle rfl rfl
theorem dX11_isCycle_124 : decode cX11_isCycle 124 = .ok (.istore_n 2, 1) := dk_61 hN_cX11_isCycle rfl rfl
theorem dX11_isCycle_125 : decode cX11_isCycle 125 = .ok (.iload 6, 2) := dk_21 hN_cX11_isCycle rfl rfl rfl
theorem dX11_isCycle_127 : decode cX11_isCycle 127 = .ok (.istore 4, 2) := dk_54 hN_cX11_isCycle rfl rfl rfl
theorem dX11_isCycle_129 : decode cX11_isCycle 129 = .ok (.iinc 5 1, 3) := dk_132 hN_cX11_isCycle rfl rfl rfl rfl
theorem dX11_isCycle_132 : decode cX11_isCycle 132 = .ok (.goto (-94), 3) := dk_167 hN_cX11_isCycle rfl rfl rfl
theorem dX11_isCycle_111 : decode cX11_isCycle 111 = .ok (.iconst 0, 1) := dk_3 hN_cX11_isCycle rfl rfl
theorem dX11_isCycle_112 : decode cX11_isCycle 112 = .ok (.ireturn, 1) := dk_172 hN_cX11_isCycle rfl rfl
theorem dX11_isCycle_76 : decode cX11_isCycle 76 = .ok (.iconst 0, 1) := dk_3 hN_cX11_isCycle rfl rfl
theorem dX11_isCycle_77 : decode cX11_isCycle 77 = .ok (.ireturn, 1) := dk_172 hN_cX11_isCycle rfl rfl
theorem dX11_isCycle_58 : decode cX11_isCycle 58 = .ok (.goto 71, 3) := dk_167 hN_cX11_isCycle rfl rfl rfl
theorem dX11_isCycle_145 : decode cX11_isCycle 145 = .ok (.iload 4, 2) := dk_21 hN_cX11_isCycle rfl rfl rfl
theorem dX11_isCycle_147 : decode cX11_isCycle 147 = .ok (.iload 5, 2) := dk_21 hN_cX11_isCycle rfl rfl rfl
theorem dX11_isCycle_149 : decode cX11_isCycle 149 = .ok (.if_icmp .eq 88, 3) := dk_159 hN_cX11_isCycle rfl rfl rfl
theorem dX11_isCycle_237 : decode cX11_isCycle 237 = .ok (.iload 4, 2) := dk_21 hN_cX11_isCycle rfl rfl rfl
theorem dX11_isCycle_239 : decode cX11_isCycle 239 = .ok (.iload_n 2, 1) := dk_28 hN_cX11_isCycle rfl rfl
theorem dX11_isCycle_240 : decode cX11_isCycle 240 = .ok (.if_icmp .ne 7, 3) := dk_160 hN_cX11_isCycle rfl rfl rfl
theorem dX11_isCycle_247 : decode cX11_isCycle 247 = .ok (.iconst 0, 1) := dk_3 hN_cX11_isCycle rfl rfl
theorem dX11_isCycle_248 : decode cX11_isCycle 248 = .ok (.ireturn, 1) := dk_172 hN_cX11_isCycle rfl rfl
theorem dX11_isCycle_243 : decode cX11_isCycle 243 = .ok (.iconst 1, 1) := dk_4 hN_cX11_isCycle rfl rfl
theorem dX11_isCycle_244 : decode cX11_isCycle 244 = .ok (.goto 4, 3) := dk_167 hN_cX11_isCycle rfl rfl rfl
theorem dX11_isCycle_152 : decode cX11_isCycle 152 = .ok (.iload 4, 2) := dk_21 hN_cX11_isCycle rfl rfl rfl
theorem dX11_isCycle_154 : decode cX11_isCycle 154 = .ok (.istore 5, 2) := dk_54 hN_cX11_isCycle rfl rfl rfl
theorem dX11_isCycle_156 : decode cX11_isCycle 156 = .ok (.iconst 0, 1) := dk_3 hN_cX11_isCycle rfl rfl
theorem dX11_isCycle_157 : decode cX11_isCycle 157 = .ok (.istore 6, 2) := dk_54 hN_cX11_isCycle rfl rfl rfl
theorem dX11_isCycle_159 : decode cX11_isCycle 159 = .ok (.iload 6, 2) := dk_21 hN_cX11_isCycle rfl rfl rfl
theorem dX11_isCycle_161 : decode cX11_isCycle 161 = .ok (.aload_n 0, 1) := dk_42 hN_cX11_isCycle rfl rfl
theorem dX11_isCycle_162 : decode cX11_isCycle 162 = .ok (.getfield 20, 3) := dk_180 hN_cX11_isCycle rfl rfl rfl
theorem dX11_isCycle_165 : decode cX11_isCycle 165 = .ok (.iconst 0, 1) := dk_3 hN_cX11_isCycle rfl rfl
theorem dX11_isCycle_166 : decode cX11_isCycle 166 = .ok (.iaload, 1) := dk_46 hN_cX11_isCycle rfl rfl
theorem dX11_isCycle_167 : decode cX11_isCycle 167 = .ok (.if_icmp .ge 67, 3) := dk_162 hN_cX11_isCycle rfl rfl rfl
theorem dX11_isCycle_234 : decode cX11_isCycle 234 = .ok (.goto (-89), 3) := dk_167 hN_cX11_isCycle rfl rfl rfl
theorem dX11_isCycle_170 : decode cX11_isCycle 170 = .ok (.iload_n 1, 1) := dk_27 hN_cX11_isCycle rfl rfl
theorem dX11_isCycle_171 : decode cX11_isCycle 171 = .ok (.iload 6, 2) := dk_21 hN_cX11_isCycle rfl rfl rfl
theorem dX11_isCycle_173 : decode cX11_isCycle 173 = .ok (.invokestatic 162, 3) := dk_184 hN_cX11_isCycle rfl rfl rfl
theorem dX11_isCycle_176 : decode cX11_isCycle 176 = .ok (.ifCond .eq 30, 3) := dk_153 hN_cX11_isCycle rfl rfl rfl
theorem dX11_isCycle_206 : decode cX11_isCycle 206 = .ok (.iconst 0, 1) := dk_3 hN_cX11_isCycle rfl rfl
theorem dX11_isCycle_207 : decode cX11_isCycle 207 = .ok (.istore 7, 2) := dk_54 hN_cX11_isCycle rfl rfl rfl
theorem dX11_isCycle_209 : decode cX11_isCycle 209 = .ok (.iload 4, 2) := dk_21 hN_cX11_isCycle rfl rfl rfl
theorem dX11_isCycle_211 : decode cX11_isCycle 211 = .ok (.iload 7, 2) := dk_21 hN_cX11_isCycle rfl rfl rfl
theorem dX11_isCycle_213 : decode cX11_isCycle 213 = .ok (.iload 4, 2) := dk_21 hN_cX11_isCycle rfl rfl rfl
theorem dX11_isCycle_215 : decode cX11_isCycle 215 = .ok (.iand, 1) := dk_126 hN_cX11_isCycle rfl rfl
theorem dX11_isCycle_216 : decode cX11_isCycle 216 = .ok (.ifCond .eq 8, 3) := dk_153 hN_cX11_isCycle rfl rfl rfl
theorem dX11_isCycle_224 : decode cX11_isCycle 224 = .ok (.iconst 0, 1) := dk_3 hN_cX11_isCycle rfl rfl
theorem dX11_isCycle_225 : decode cX11_isCycle 225 = .ok (.ior, 1) := dk_128 hN_cX11_isCycle rfl rfl
theorem dX11_isCycle_226 : decode cX11_isCycle 226 = .ok (.istore 4, 2) := dk_54 hN_cX11_isCycle rfl rfl rfl
theorem dX11_isCycle_228 : decode cX11_isCycle 228 = .ok (.iinc 6 1, 3) := dk_132 hN_cX11_isCycle rfl rfl rfl rfl
theorem dX11_isCycle_231 : decode cX11_isCycle 231 = .ok (.goto (-72), 3) := dk_167 hN_cX11_isCycle rfl rfl rfl
theorem dX11_isCycle_219 : decode cX11_isCycle 219 = .ok (.iload 7, 2) := dk_21 hN_cX11_isCycle rfl rfl rfl
theorem dX11_isCycle_221 : decode cX11_isCycle 221 = .ok (.goto 4, 3) := dk_167 hN_cX11_isCycle rfl rfl rfl
theorem dX11_isCycle_179 : decode cX11_isCycle 179 = .ok (.iconst 1, 1) := dk_4 hN_cX11_isCycle rfl rfl
theorem dX11_isCycle_180 : decode cX11_isCycle 180 = .ok (.aload_n 0, 1) := dk_42 hN_cX11_isCycle rfl rfl
theorem dX11_isCycle_181 : decode cX11_isCycle 181 = .ok (.getfield 20, 3) := dk_180 hN_cX11_isCycle rfl rfl rfl
theorem dX11_isCycle_184 : decode cX11_isCycle 184 = .ok (.iconst 1, 1) := dk_4 hN_cX11_isCycle rfl rfl
theorem dX11_isCycle_185 : decode cX11_isCycle 185 = .ok (.iload 6, 2) := dk_21 hN_cX11_isCycle rfl rfl rfl
theorem dX11_isCycle_187 : decode cX11_isCycle 187 = .ok (.iadd, 1) := dk_96 hN_cX11_isCycle rfl rfl
theorem dX11_isCycle_188 : decode cX11_isCycle 188 = .ok (.iaload, 1) := dk_46 hN_cX11_isCycle rfl rfl
theorem dX11_isCycle_189 : decode cX11_isCycle 189 = .ok (.ishl, 1) := dk_120 hN_cX11_isCycle rfl rfl
theorem dX11_isCycle_190 : decode cX11_isCycle 190 = .ok (.iconst 1, 1) := dk_4 hN_cX11_isCycle rfl rfl
theorem dX11_isCycle_191 : decode cX11_isCycle 191 = .ok (.aload_n 0, 1) := dk_42 hN_cX11_isCycle rfl rfl
theorem dX11_isCycle_192 : decode cX11_isCycle 192 = .ok (.getfield 20, 3) := dk_180 hN_cX11_isCycle rfl rfl rfl
theorem dX11_isCycle_195 : decode cX11_isCycle 195 = .ok (.bipush 9, 2) := dk_16 hN_cX11_isCycle rfl rfl rfl
theorem dX11_isCycle_197 : decode cX11_isCycle 197 = .ok (.iload 6, 2) := dk_21 hN_cX11_isCycle rfl rfl rfl
theorem dX11_isCycle_199 : decode cX11_isCycle 199 = .ok (.iadd, 1) := dk_96 hN_cX11_isCycle rfl rfl
theorem dX11_isCycle_200 : decode cX11_isCycle 200 = .ok (.iaload, 1) := dk_46 hN_cX11_isCycle rfl rfl
theorem dX11_isCycle_201 : decode cX11_isCycle 201 = .ok (.ishl, 1) := dk_120 hN_cX11_isCycle rfl rfl
theorem dX11_isCycle_202 : decode cX11_isCycle 202 = .ok (.ior, 1) := dk_128 hN_cX11_isCycle rfl rfl
theorem dX11_isCycle_203 : decode cX11_isCycle 203 = .ok (.goto 4, 3) := dk_167 hN_cX11_isCycle rfl rfl rfl
theorem dX11_cycleOf_0 : decode cX11_cycleOf 0 = .ok (.iconst 0, 1) := dk_3 hN_cX11_cycleOf rfl rfl
theorem dX11_cycleOf_1 : decode cX11_cycleOf 1 = .ok (.istore_n 2, 1) := dk_61 hN_cX11_cycleOf rfl rfl
theorem dX11_cycleOf_2 : decode cX11_cycleOf 2 = .ok (.iconst 0, 1) := dk_3 hN_cX11_cycleOf rfl rfl
theorem dX11_cycleOf_3 : decode cX11_cycleOf 3 = .ok (.istore_n 3, 1) := dk_62 hN_cX11_cycleOf rfl rfl
theorem dX11_cycleOf_4 : decode cX11_cycleOf 4 = .ok (.iload_n 3, 1) := dk_29 hN_cX11_cycleOf rfl rfl
theorem dX11_cycleOf_5 : decode cX11_cycleOf 5 = .ok (.iconst 1, 1) := dk_4 hN_cX11_cycleOf rfl rfl
theorem dX11_cycleOf_6 : decode cX11_cycleOf 6 = .ok (.aload_n 0, 1) := dk_42 hN_cX11_cycleOf rfl rfl
theorem dX11_cycleOf_7 : decode cX11_cycleOf 7 = .ok (.getfield 20, 3) := dk_180 hN_cX11_cycleOf rfl rfl rfl
theorem dX11_cycleOf_10 : decode cX11_cycleOf 10 = .ok (.iconst 0, 1) := dk_3 hN_cX11_cycleOf rfl rfl
theorem dX11_cycleOf_11 : decode cX11_cycleOf 11 = .ok (.iaload, 1) := dk_46 hN_cX11_cycleOf rfl rfl
theorem dX11_cycleOf_12 : decode cX11_cycleOf 12 = .ok (.ishl, 1) := dk_120 hN_cX11_cycleOf rfl rfl
theorem dX11_cycleOf_13 : decode cX11_cycleOf 13 = .ok (.if_icmp .ge 30, 3) := dk_162 hN_cX11_cycleOf rfl rfl rfl
theorem dX11_cycleOf_43 : decode cX11_cycleOf 43 = .ok (.iload_n 2, 1) := dk_28 hN_cX11_cycleOf rfl rfl
theorem dX11_cycleOf_44 : decode cX11_cycleOf 44 = .ok (.sipush 1000, 3) := dk_17 hN_cX11_cycleOf rfl rfl rfl
theorem dX11_cycleOf_47 : decode cX11_cycleOf 47 = .ok (.isub, 1) := dk_100 hN_cX11_cycleOf rfl rfl
theorem dX11_cycleOf_48 : decode cX11_cycleOf 48 = .ok (.ireturn, 1) := dk_172 hN_cX11_cycleOf rfl rfl
theorem dX11_cycleOf_16 : decode cX11_cycleOf 16 = .ok (.aload_n 0, 1) := dk_42 hN_cX11_cycleOf rfl rfl
theorem dX11_cycleOf_17 : decode cX11_cycleOf 17 = .ok (.iload_n 3, 1) := dk_29 hN_cX11_cycleOf rfl rfl
theorem dX11_cycleOf_18 : decode cX11_cycleOf 18 = .ok (.invokevirtual 326, 3) := dk_182 hN_cX11_cycleOf rfl rfl rfl
theorem dX11_cycleOf_21 : decode cX11_cycleOf 21 = .ok (.ifCond .ne 6, 3) := dk_154 hN_cX11_cycleOf rfl rfl rfl
theorem dX11_cycleOf_27 : decode cX11_cycleOf 27 = .ok (.iload_n 2, 1) := dk_28 hN_cX11_cycleOf rfl rfl
theorem dX11_cycleOf_28 : decode cX11_cycleOf 28 = .ok (.iload_n 1, 1) := dk_27 hN_cX11_cycleOf rfl rfl
theorem dX11_cycleOf_29 : decode cX11_cycleOf 29 = .ok (.if_icmp .ne 5, 3) := dk_160 hN_cX11_cycleOf rfl rfl rfl
theorem dX11_cycleOf_34 : decode cX11_cycleOf 34 = .ok (.iinc 2 1, 3) := dk_132 hN_cX11_cycleOf rfl rfl rfl rfl
theorem dX11_cycleOf_37 : decode cX11_cycleOf 37 = .ok (.iinc 3 1, 3) := dk_132 hN_cX11_cycleOf rfl rfl rfl rfl
theorem dX11_cycleOf_40 : decode cX11_cycleOf 40 = .ok (.goto (-36), 3) := dk_167 hN_cX11_cycleOf rfl rfl rfl
theorem dX11_cycleOf_32 : decode cX11_cycleOf 32 = .ok (.iload_n 3, 1) := dk_29 hN_cX11_cycleOf rfl rfl
theorem dX11_cycleOf_33 : decode cX11_cycleOf 33 = .ok (.ireturn, 1) := dk_172 hN_cX11_cycleOf rfl rfl
theorem dX11_cycleOf_24 : decode cX11_cycleOf 24 = .ok (.goto 13, 3) := dk_167 hN_cX11_cycleOf rfl rfl rfl
theorem dX11_cycles_0 : decode cX11_cycles 0 = .ok (.aload_n 0, 1) := dk_42 hN_cX11_cycles rfl rfl
theorem dX11_cycles_1 : decode cX11_cycles 1 = .ok (.invokevirtual 174, 3) := dk_182 hN_cX11_cycles rfl rfl rfl
theorem dX11_cycles_4 : decode cX11_cycles 4 = .ok (.aload_n 0, 1) := dk_42 hN_cX11_cycles rfl rfl
theorem dX11_cycles_5 : decode cX11_cycles 5 = .ok (.getfield 183, 3) := dk_180 hN_cX11_cycles rfl rfl rfl
theorem dX11_cycles_8 : decode cX11_cycles 8 = .ok (.ifCond .eq 15, 3) := dk_153 hN_cX11_cycles rfl rfl rfl
theorem dX11_cycles_23 : decode cX11_cycles 23 = .ok (.aload_n 0, 1) := dk_42 hN_cX11_cycles rfl rfl
theorem dX11_cycles_24 : decode cX11_cycles 24 = .ok (.iconst 1, 1) := dk_4 hN_cX11_cycles rfl rfl
theorem dX11_cycles_25 : decode cX11_cycles 25 = .ok (.invokevirtual 177, 3) := dk_182 hN_cX11_cycles rfl rfl rfl
theorem dX11_cycles_28 : decode cX11_cycles 28 = .ok (.ireturn, 1) := dk_172 hN_cX11_cycles rfl rfl
theorem dX11_cycles_11 : decode cX11_cycles 11 = .ok (.aload_n 0, 1) := dk_42 hN_cX11_cycles rfl rfl
theorem dX11_cycles_12 : decode cX11_cycles 12 = .ok (.iconst (-1), 1) := dk_2 hN_cX11_cycles rfl rfl
theorem dX11_cycles_13 : decode cX11_cycles 13 = .ok (.invokevirtual 329, 3) := dk_182 hN_cX11_cycles rfl rfl rfl
theorem dX11_cycles_16 : decode cX11_cycles 16 = .ok (.sipush 1000, 3) := dk_17 hN_cX11_cycles rfl rfl rfl
theorem dX11_cycles_19 : decode cX11_cycles 19 = .ok (.iadd, 1) := dk_96 hN_cX11_cycles rfl rfl
theorem dX11_cycles_20 : decode cX11_cycles 20 = .ok (.goto 8, 3) := dk_167 hN_cX11_cycles rfl rfl rfl
theorem dX11_cycle_0 : decode cX11_cycle 0 = .ok (.aload_n 0, 1) := dk_42 hN_cX11_cycle rfl rfl
theorem dX11_cycle_1 : decode cX11_cycle 1 = .ok (.invokevirtual 174, 3) := dk_182 hN_cX11_cycle rfl rfl rfl
theorem dX11_cycle_4 : decode cX11_cycle 4 = .ok (.aload_n 0, 1) := dk_42 hN_cX11_cycle rfl rfl
theorem dX11_cycle_5 : decode cX11_cycle 5 = .ok (.getfield 183, 3) := dk_180 hN_cX11_cycle rfl rfl rfl
theorem dX11_cycle_8 : decode cX11_cycle 8 = .ok (.ifCond .eq 7, 3) := dk_153 hN_cX11_cycle rfl rfl rfl
theorem dX11_cycle_15 : decode cX11_cycle 15 = .ok (.aload_n 0, 1) := dk_42 hN_cX11_cycle rfl rfl
theorem dX11_cycle_16 : decode cX11_cycle 16 = .ok (.iconst 1, 1) := dk_4 hN_cX11_cycle rfl rfl
theorem dX11_cycle_17 : decode cX11_cycle 17 = .ok (.invokevirtual 177, 3) := dk_182 hN_cX11_cycle rfl rfl rfl
theorem dX11_cycle_20 : decode cX11_cycle 20 = .ok (.ireturn, 1) := dk_172 hN_cX11_cycle rfl rfl
theorem dX11_cycle_11 : decode cX11_cycle 11 = .ok (.iload_n 1, 1) := dk_27 hN_cX11_cycle rfl rfl
theorem dX11_cycle_12 : decode cX11_cycle 12 = .ok (.ifCond .ge 9, 3) := dk_156 hN_cX11_cycle rfl rfl rfl
theorem dX11_cycle_21 : decode cX11_cycle 21 = .ok (.aload_n 0, 1) := dk_42 hN_cX11_cycle rfl rfl
theorem dX11_cycle_22 : decode cX11_cycle 22 = .ok (.iload_n 1, 1) := dk_27 hN_cX11_cycle rfl rfl
theorem dX11_cycle_23 : decode cX11_cycle 23 = .ok (.invokevirtual 329, 3) := dk_182 hN_cX11_cycle rfl rfl rfl
theorem dX11_cycle_26 : decode cX11_cycle 26 = .ok (.istore_n 2, 1) := dk_61 hN_cX11_cycle rfl rfl
theorem dX11_cycle_27 : decode cX11_cycle 27 = .ok (.iload_n 2, 1) := dk_28 hN_cX11_cycle rfl rfl
theorem dX11_cycle_28 : decode cX11_cycle 28 = .ok (.ifCond .ge 11, 3) := dk_156 hN_cX11_cycle rfl rfl rfl
theorem dX11_cycle_39 : decode cX11_cycle 39 = .ok (.iload_n 2, 1) := dk_28 hN_cX11_cycle rfl rfl
theorem dX11_cycle_40 : decode cX11_cycle 40 = .ok (.ireturn, 1) := dk_172 hN_cX11_cycle rfl rfl
theorem dX11_cycle_31 : decode cX11_cycle 31 = .ok (.aload_n 0, 1) := dk_42 hN_cX11_cycle rfl rfl
theorem dX11_cycle_32 : decode cX11_cycle 32 = .ok (.iconst 1, 1) := dk_4 hN_cX11_cycle rfl rfl
theorem dX11_cycle_33 : decode cX11_cycle 33 = .ok (.invokevirtual 177, 3) := dk_182 hN_cX11_cycle rfl rfl rfl
theorem dX11_cycle_36 : decode cX11_cycle 36 = .ok (.goto 4, 3) := dk_167 hN_cX11_cycle rfl rfl rfl
theorem dX11_excessOf_0 : decode cX11_excessOf 0 = .ok (.ldc_w 332, 3) := dk_19 hN_cX11_excessOf rfl rfl rfl
theorem dX11_excessOf_3 : decode cX11_excessOf 3 = .ok (.istore_n 2, 1) := dk_61 hN_cX11_excessOf rfl rfl
theorem dX11_excessOf_4 : decode cX11_excessOf 4 = .ok (.iconst 0, 1) := dk_3 hN_cX11_excessOf rfl rfl
theorem dX11_excessOf_5 : decode cX11_excessOf 5 = .ok (.istore_n 3, 1) := dk_62 hN_cX11_excessOf rfl rfl
theorem dX11_excessOf_6 : decode cX11_excessOf 6 = .ok (.iload_n 3, 1) := dk_29 hN_cX11_excessOf rfl rfl
theorem dX11_excessOf_7 : decode cX11_excessOf 7 = .ok (.iconst 1, 1) := dk_4 hN_cX11_excessOf rfl rfl
theorem dX11_excessOf_8 : decode cX11_excessOf 8 = .ok (.aload_n 0, 1) := dk_42 hN_cX11_excessOf rfl rfl
theorem dX11_excessOf_9 : decode cX11_excessOf 9 = .ok (.getfield 20, 3) := dk_180 hN_cX11_excessOf rfl rfl rfl
theorem dX11_excessOf_12 : decode cX11_excessOf 12 = .ok (.iconst 0, 1) := dk_3 hN_cX11_excessOf rfl rfl
theorem dX11_excessOf_13 : decode cX11_excessOf 13 = .ok (.iaload, 1) := dk_46 hN_cX11_excessOf rfl rfl
theorem dX11_excessOf_14 : decode cX11_excessOf 14 = .ok (.ishl, 1) := dk_120 hN_cX11_excessOf rfl rfl
theorem dX11_excessOf_15 : decode cX11_excessOf 15 = .ok (.if_icmp .ge 108, 3) := dk_162 hN_cX11_excessOf rfl rfl rfl
theorem dX11_excessOf_123 : decode cX11_excessOf 123 = .ok (.iload_n 2, 1) := dk_28 hN_cX11_excessOf rfl rfl
theorem dX11_excessOf_124 : decode cX11_excessOf 124 = .ok (.aload_n 0, 1) := dk_42 hN_cX11_excessOf rfl rfl
theorem dX11_excessOf_125 : decode cX11_excessOf 125 = .ok (.getfield 20, 3) := dk_180 hN_cX11_excessOf rfl rfl rfl
theorem dX11_excessOf_128 : decode cX11_excessOf 128 = .ok (.bipush 49, 2) := dk_16 hN_cX11_excessOf rfl rfl rfl
theorem dX11_excessOf_130 : decode cX11_excessOf 130 = .ok (.iaload, 1) := dk_46 hN_cX11_excessOf rfl rfl
theorem dX11_excessOf_131 : decode cX11_excessOf 131 = .ok (.iload_n 1, 1) := dk_27 hN_cX11_excessOf rfl rfl
theorem dX11_excessOf_132 : decode cX11_excessOf 132 = .ok (.invokestatic 323, 3) := dk_184 hN_cX11_excessOf rfl rfl rfl
theorem dX11_excessOf_135 : decode cX11_excessOf 135 = .ok (.iconst 2, 1) := dk_5 hN_cX11_excessOf rfl rfl
theorem dX11_excessOf_136 : decode cX11_excessOf 136 = .ok (.isub, 1) := dk_100 hN_cX11_excessOf rfl rfl
theorem dX11_excessOf_137 : decode cX11_excessOf 137 = .ok (.imul, 1) := dk_104 hN_cX11_excessOf rfl rfl
theorem dX11_excessOf_138 : decode cX11_excessOf 138 = .ok (.isub, 1) := dk_100 hN_cX11_excessOf rfl rfl
theorem dX11_excessOf_139 : decode cX11_excessOf 139 = .ok (.ireturn, 1) := dk_172 hN_cX11_excessOf rfl rfl
theorem dX11_excessOf_18 : decode cX11_excessOf 18 = .ok (.iload_n 3, 1) := dk_29 hN_cX11_excessOf rfl rfl
theorem dX11_excessOf_19 : decode cX11_excessOf 19 = .ok (.iload_n 1, 1) := dk_27 hN_cX11_excessOf rfl rfl
theorem dX11_excessOf_20 : decode cX11_excessOf 20 = .ok (.iconst (-1), 1) := dk_2 hN_cX11_excessOf rfl rfl
theorem dX11_excessOf_21 : decode cX11_excessOf 21 = .ok (.ixor, 1) := dk_130 hN_cX11_excessOf rfl rfl
theorem dX11_excessOf_22 : decode cX11_excessOf 22 = .ok (.iand, 1) := dk_126 hN_cX11_excessOf rfl rfl
theorem dX11_excessOf_23 : decode cX11_excessOf 23 = .ok (.ifCond .ne 94, 3) := dk_154 hN_cX11_excessOf rfl rfl rfl
theorem dX11_excessOf_117 : decode cX11_excessOf 117 = .ok (.iinc 3 1, 3) := dk_132 hN_cX11_excessOf rfl rfl rfl rfl
theorem dX11_excessOf_120 : decode cX11_excessOf 120 = .ok (.goto (-114), 3) := dk_167 hN_cX11_excessOf rfl rfl rfl
theorem dX11_excessOf_26 : decode cX11_excessOf 26 = .ok (.iload_n 3, 1) := dk_29 hN_cX11_excessOf rfl rfl
theorem dX11_excessOf_27 : decode cX11_excessOf 27 = .ok (.invokestatic 323, 3) := dk_184 hN_cX11_excessOf rfl rfl rfl
theorem dX11_excessOf_30 : decode cX11_excessOf 30 = .ok (.iconst 2, 1) := dk_5 hN_cX11_excessOf rfl rfl
theorem dX11_excessOf_31 : decode cX11_excessOf 31 = .ok (.irem, 1) := dk_112 hN_cX11_excessOf rfl rfl
theorem dX11_excessOf_32 : decode cX11_excessOf 32 = .ok (.ifCond .ne 6, 3) := dk_154 hN_cX11_excessOf rfl rfl rfl
theorem dX11_excessOf_38 : decode cX11_excessOf 38 = .ok (.iconst 0, 1) := dk_3 hN_cX11_excessOf rfl rfl
theorem dX11_excessOf_39 : decode cX11_excessOf 39 = .ok (.istore 4, 2) := dk_54 hN_cX11_excessOf rfl rfl rfl
theorem dX11_excessOf_41 : decode cX11_excessOf 41 = .ok (.iconst 0, 1) := dk_3 hN_cX11_excessOf rfl rfl
theorem dX11_excessOf_42 : decode cX11_excessOf 42 = .ok (.istore 5, 2) := dk_54 hN_cX11_excessOf rfl rfl rfl
theorem dX11_excessOf_35 : decode cX11_excessOf 35 = .ok (.goto 82, 3) := dk_167 hN_cX11_excessOf rfl rfl rfl
theorem dX11_excessOf_44 : decode cX11_excessOf 44 = .ok (.iload 5, 2) := dk_21 hN_cX11_excessOf rfl rfl rfl
theorem dX11_excessOf_46 : decode cX11_excessOf 46 = .ok (.aload_n 0, 1) := dk_42 hN_cX11_excessOf rfl rfl
theorem dX11_excessOf_47 : decode cX11_excessOf 47 = .ok (.getfield 20, 3) := dk_180 hN_cX11_excessOf rfl rfl rfl
theorem dX11_excessOf_50 : decode cX11_excessOf 50 = .ok (.iconst 0, 1) := dk_3 hN_cX11_excessOf rfl rfl
theorem dX11_excessOf_51 : decode cX11_excessOf 51 = .ok (.iaload, 1) := dk_46 hN_cX11_excessOf rfl rfl
theorem dX11_excessOf_52 : decode cX11_excessOf 52 = .ok (.if_icmp .ge 52, 3) := dk_162 hN_cX11_excessOf rfl rfl rfl
theorem dX11_excessOf_104 : decode cX11_excessOf 104 = .ok (.iload 4, 2) := dk_21 hN_cX11_excessOf rfl rfl rfl
theorem dX11_excessOf_106 : decode cX11_excessOf 106 = .ok (.iload_n 2, 1) := dk_28 hN_cX11_excessOf rfl rfl
theorem dX11_excessOf_107 : decode cX11_excessOf 107 = .ok (.if_icmp .le 8, 3) := dk_164 hN_cX11_excessOf rfl rfl rfl
theorem dX11_excessOf_115 : decode cX11_excessOf 115 = .ok (.iload_n 2, 1) := dk_28 hN_cX11_excessOf rfl rfl
theorem dX11_excessOf_116 : decode cX11_excessOf 116 = .ok (.istore_n 2, 1) := dk_61 hN_cX11_excessOf rfl rfl
theorem dX11_excessOf_110 : decode cX11_excessOf 110 = .ok (.iload 4, 2) := dk_21 hN_cX11_excessOf rfl rfl rfl
theorem dX11_excessOf_112 : decode cX11_excessOf 112 = .ok (.goto 4, 3) := dk_167 hN_cX11_excessOf rfl rfl rfl
theorem dX11_excessOf_55 : decode cX11_excessOf 55 = .ok (.iload 4, 2) := dk_21 hN_cX11_excessOf rfl rfl rfl
theorem dX11_excessOf_57 : decode cX11_excessOf 57 = .ok (.iload_n 1, 1) := dk_27 hN_cX11_excessOf rfl rfl
theorem dX11_excessOf_58 : decode cX11_excessOf 58 = .ok (.iload 5, 2) := dk_21 hN_cX11_excessOf rfl rfl rfl
theorem dX11_excessOf_60 : decode cX11_excessOf 60 = .ok (.invokestatic 162, 3) := dk_184 hN_cX11_excessOf rfl rfl rfl
theorem dX11_excessOf_63 : decode cX11_excessOf 63 = .ok (.ifCond .eq 31, 3) := dk_153 hN_cX11_excessOf rfl rfl rfl
theorem dX11_excessOf_94 : decode cX11_excessOf 94 = .ok (.iconst 0, 1) := dk_3 hN_cX11_excessOf rfl rfl
theorem dX11_excessOf_95 : decode cX11_excessOf 95 = .ok (.iadd, 1) := dk_96 hN_cX11_excessOf rfl rfl
theorem dX11_excessOf_96 : decode cX11_excessOf 96 = .ok (.istore 4, 2) := dk_54 hN_cX11_excessOf rfl rfl rfl
theorem dX11_excessOf_98 : decode cX11_excessOf 98 = .ok (.iinc 5 1, 3) := dk_132 hN_cX11_excessOf rfl rfl rfl rfl
theorem dX11_excessOf_101 : decode cX11_excessOf 101 = .ok (.goto (-57), 3) := dk_167 hN_cX11_excessOf rfl rfl rfl
theorem dX11_excessOf_66 : decode cX11_excessOf 66 = .ok (.iload_n 3, 1) := dk_29 hN_cX11_excessOf rfl rfl
theorem dX11_excessOf_67 : decode cX11_excessOf 67 = .ok (.iload 5, 2) := dk_21 hN_cX11_excessOf rfl rfl rfl
theorem dX11_excessOf_69 : decode cX11_excessOf 69 = .ok (.invokestatic 162, 3) := dk_184 hN_cX11_excessOf rfl rfl rfl
theorem dX11_excessOf_72 : decode cX11_excessOf 72 = .ok (.ifCond .eq 13, 3) := dk_153 hN_cX11_excessOf rfl rfl rfl
theorem dX11_excessOf_85 : decode cX11_excessOf 85 = .ok (.aload_n 0, 1) := dk_42 hN_cX11_excessOf rfl rfl
theorem dX11_excessOf_86 : decode cX11_excessOf 86 = .ok (.iload 5, 2) := dk_21 hN_cX11_excessOf rfl rfl rfl
theorem dX11_excessOf_88 : decode cX11_excessOf 88 = .ok (.invokevirtual 317, 3) := dk_182 hN_cX11_excessOf rfl rfl rfl
theorem dX11_excessOf_91 : decode cX11_excessOf 91 = .ok (.goto 4, 3) := dk_167 hN_cX11_excessOf rfl rfl rfl
theorem dX11_excessOf_75 : decode cX11_excessOf 75 = .ok (.aload_n 0, 1) := dk_42 hN_cX11_excessOf rfl rfl
theorem dX11_excessOf_76 : decode cX11_excessOf 76 = .ok (.iload 5, 2) := dk_21 hN_cX11_excessOf rfl rfl rfl
theorem dX11_excessOf_78 : decode cX11_excessOf 78 = .ok (.invokevirtual 317, 3) := dk_182 hN_cX11_excessOf rfl rfl rfl
theorem dX11_excessOf_81 : decode cX11_excessOf 81 = .ok (.ineg, 1) := dk_116 hN_cX11_excessOf rfl rfl
theorem dX11_excessOf_82 : decode cX11_excessOf 82 = .ok (.goto 13, 3) := dk_167 hN_cX11_excessOf rfl rfl rfl
theorem dX11_excess_0 : decode cX11_excess 0 = .ok (.aload_n 0, 1) := dk_42 hN_cX11_excess rfl rfl
theorem dX11_excess_1 : decode cX11_excess 1 = .ok (.invokevirtual 174, 3) := dk_182 hN_cX11_excess rfl rfl rfl
theorem dX11_excess_4 : decode cX11_excess 4 = .ok (.aload_n 0, 1) := dk_42 hN_cX11_excess rfl rfl
theorem dX11_excess_5 : decode cX11_excess 5 = .ok (.getfield 183, 3) := dk_180 hN_cX11_excess rfl rfl rfl
theorem dX11_excess_8 : decode cX11_excess 8 = .ok (.ifCond .ne 12, 3) := dk_154 hN_cX11_excess rfl rfl rfl
theorem dX11_excess_20 : decode cX11_excess 20 = .ok (.aload_n 0, 1) := dk_42 hN_cX11_excess rfl rfl
theorem dX11_excess_21 : decode cX11_excess 21 = .ok (.iload_n 1, 1) := dk_27 hN_cX11_excess rfl rfl
theorem dX11_excess_22 : decode cX11_excess 22 = .ok (.invokevirtual 326, 3) := dk_182 hN_cX11_excess rfl rfl rfl
theorem dX11_excess_25 : decode cX11_excess 25 = .ok (.ifCond .eq 11, 3) := dk_153 hN_cX11_excess rfl rfl rfl
theorem dX11_excess_36 : decode cX11_excess 36 = .ok (.aload_n 0, 1) := dk_42 hN_cX11_excess rfl rfl
theorem dX11_excess_37 : decode cX11_excess 37 = .ok (.iconst 5, 1) := dk_8 hN_cX11_excess rfl rfl
theorem dX11_excess_38 : decode cX11_excess 38 = .ok (.sipush (-1000), 3) := dk_17 hN_cX11_excess rfl rfl rfl
theorem dX11_excess_41 : decode cX11_excess 41 = .ok (.invokevirtual 320, 3) := dk_182 hN_cX11_excess rfl rfl rfl
theorem dX11_excess_44 : decode cX11_excess 44 = .ok (.ireturn, 1) := dk_172 hN_cX11_excess rfl rfl
theorem dX11_excess_28 : decode cX11_excess 28 = .ok (.aload_n 0, 1) := dk_42 hN_cX11_excess rfl rfl
theorem dX11_excess_29 : decode cX11_excess 29 = .ok (.iload_n 1, 1) := dk_27 hN_cX11_excess rfl rfl
theorem dX11_excess_30 : decode cX11_excess 30 = .ok (.invokevirtual 333, 3) := dk_182 hN_cX11_excess rfl rfl rfl
theorem dX11_excess_33 : decode cX11_excess 33 = .ok (.goto 11, 3) := dk_167 hN_cX11_excess rfl rfl rfl
theorem dX11_excess_11 : decode cX11_excess 11 = .ok (.aload_n 0, 1) := dk_42 hN_cX11_excess rfl rfl
theorem dX11_excess_12 : decode cX11_excess 12 = .ok (.iconst 1, 1) := dk_4 hN_cX11_excess rfl rfl
theorem dX11_excess_13 : decode cX11_excess 13 = .ok (.sipush (-1000), 3) := dk_17 hN_cX11_excess rfl rfl rfl
theorem dX11_excess_16 : decode cX11_excess 16 = .ok (.invokevirtual 320, 3) := dk_182 hN_cX11_excess rfl rfl rfl
theorem dX11_excess_19 : decode cX11_excess 19 = .ok (.ireturn, 1) := dk_172 hN_cX11_excess rfl rfl
theorem dX11_widest_0 : decode cX11_widest 0 = .ok (.aload_n 0, 1) := dk_42 hN_cX11_widest rfl rfl
theorem dX11_widest_1 : decode cX11_widest 1 = .ok (.invokevirtual 174, 3) := dk_182 hN_cX11_widest rfl rfl rfl
theorem dX11_widest_4 : decode cX11_widest 4 = .ok (.aload_n 0, 1) := dk_42 hN_cX11_widest rfl rfl
theorem dX11_widest_5 : decode cX11_widest 5 = .ok (.getfield 183, 3) := dk_180 hN_cX11_widest rfl rfl rfl
theorem dX11_widest_8 : decode cX11_widest 8 = .ok (.ifCond .ne 9, 3) := dk_154 hN_cX11_widest rfl rfl rfl
theorem dX11_widest_17 : decode cX11_widest 17 = .ok (.bipush (-2), 2) := dk_16 hN_cX11_widest rfl rfl rfl
theorem dX11_widest_19 : decode cX11_widest 19 = .ok (.istore_n 1, 1) := dk_60 hN_cX11_widest rfl rfl
theorem dX11_widest_20 : decode cX11_widest 20 = .ok (.iconst 0, 1) := dk_3 hN_cX11_widest rfl rfl
theorem dX11_widest_21 : decode cX11_widest 21 = .ok (.istore_n 2, 1) := dk_61 hN_cX11_widest rfl rfl
theorem dX11_widest_22 : decode cX11_widest 22 = .ok (.iconst 0, 1) := dk_3 hN_cX11_widest rfl rfl
theorem dX11_widest_23 : decode cX11_widest 23 = .ok (.istore_n 3, 1) := dk_62 hN_cX11_widest rfl rfl
theorem dX11_widest_11 : decode cX11_widest 11 = .ok (.aload_n 0, 1) := dk_42 hN_cX11_widest rfl rfl
theorem dX11_widest_12 : decode cX11_widest 12 = .ok (.iconst 1, 1) := dk_4 hN_cX11_widest rfl rfl
theorem dX11_widest_13 : decode cX11_widest 13 = .ok (.invokevirtual 177, 3) := dk_182 hN_cX11_widest rfl rfl rfl
theorem dX11_widest_16 : decode cX11_widest 16 = .ok (.ireturn, 1) := dk_172 hN_cX11_widest rfl rfl
theorem dX11_widest_24 : decode cX11_widest 24 = .ok (.iload_n 3, 1) := dk_29 hN_cX11_widest rfl rfl
theorem dX11_widest_25 : decode cX11_widest 25 = .ok (.iconst 1, 1) := dk_4 hN_cX11_widest rfl rfl
theorem dX11_widest_26 : decode cX11_widest 26 = .ok (.aload_n 0, 1) := dk_42 hN_cX11_widest rfl rfl
theorem dX11_widest_27 : decode cX11_widest 27 = .ok (.getfield 20, 3) := dk_180 hN_cX11_widest rfl rfl rfl
theorem dX11_widest_30 : decode cX11_widest 30 = .ok (.iconst 0, 1) := dk_3 hN_cX11_widest rfl rfl
theorem dX11_widest_31 : decode cX11_widest 31 = .ok (.iaload, 1) := dk_46 hN_cX11_widest rfl rfl
theorem dX11_widest_32 : decode cX11_widest 32 = .ok (.ishl, 1) := dk_120 hN_cX11_widest rfl rfl
theorem dX11_widest_33 : decode cX11_widest 33 = .ok (.if_icmp .ge 47, 3) := dk_162 hN_cX11_widest rfl rfl rfl
theorem dX11_widest_80 : decode cX11_widest 80 = .ok (.iload_n 1, 1) := dk_27 hN_cX11_widest rfl rfl
theorem dX11_widest_81 : decode cX11_widest 81 = .ok (.ireturn, 1) := dk_172 hN_cX11_widest rfl rfl
theorem dX11_widest_36 : decode cX11_widest 36 = .ok (.aload_n 0, 1) := dk_42 hN_cX11_widest rfl rfl
theorem dX11_widest_37 : decode cX11_widest 37 = .ok (.iload_n 3, 1) := dk_29 hN_cX11_widest rfl rfl
theorem dX11_widest_38 : decode cX11_widest 38 = .ok (.invokevirtual 326, 3) := dk_182 hN_cX11_widest rfl rfl rfl
theorem dX11_widest_41 : decode cX11_widest 41 = .ok (.ifCond .ne 6, 3) := dk_154 hN_cX11_widest rfl rfl rfl
theorem dX11_widest_47 : decode cX11_widest 47 = .ok (.aload_n 0, 1) := dk_42 hN_cX11_widest rfl rfl
theorem dX11_widest_48 : decode cX11_widest 48 = .ok (.iload_n 3, 1) := dk_29 hN_cX11_widest rfl rfl
theorem dX11_widest_49 : decode cX11_widest 49 = .ok (.invokevirtual 333, 3) := dk_182 hN_cX11_widest rfl rfl rfl
theorem dX11_widest_52 : decode cX11_widest 52 = .ok (.istore 4, 2) := dk_54 hN_cX11_widest rfl rfl rfl
theorem dX11_widest_54 : decode cX11_widest 54 = .ok (.iload_n 1, 1) := dk_27 hN_cX11_widest rfl rfl
theorem dX11_widest_55 : decode cX11_widest 55 = .ok (.bipush (-2), 2) := dk_16 hN_cX11_widest rfl rfl rfl
theorem dX11_widest_57 : decode cX11_widest 57 = .ok (.if_icmp .eq 12, 3) := dk_159 hN_cX11_widest rfl rfl rfl
theorem dX11_widest_69 : decode cX11_widest 69 = .ok (.iload_n 3, 1) := dk_29 hN_cX11_widest rfl rfl
theorem dX11_widest_70 : decode cX11_widest 70 = .ok (.istore_n 1, 1) := dk_60 hN_cX11_widest rfl rfl
theorem dX11_widest_71 : decode cX11_widest 71 = .ok (.iload 4, 2) := dk_21 hN_cX11_widest rfl rfl rfl
theorem dX11_widest_73 : decode cX11_widest 73 = .ok (.istore_n 2, 1) := dk_61 hN_cX11_widest rfl rfl
theorem dX11_widest_74 : decode cX11_widest 74 = .ok (.iinc 3 1, 3) := dk_132 hN_cX11_widest rfl rfl rfl rfl
theorem dX11_widest_77 : decode cX11_widest 77 = .ok (.goto (-53), 3) := dk_167 hN_cX11_widest rfl rfl rfl
theorem dX11_widest_60 : decode cX11_widest 60 = .ok (.iload 4, 2) := dk_21 hN_cX11_widest rfl rfl rfl
theorem dX11_widest_62 : decode cX11_widest 62 = .ok (.iload_n 2, 1) := dk_28 hN_cX11_widest rfl rfl
theorem dX11_widest_63 : decode cX11_widest 63 = .ok (.if_icmp .gt 6, 3) := dk_163 hN_cX11_widest rfl rfl rfl
theorem dX11_widest_66 : decode cX11_widest 66 = .ok (.goto 8, 3) := dk_167 hN_cX11_widest rfl rfl rfl
theorem dX11_widest_44 : decode cX11_widest 44 = .ok (.goto 30, 3) := dk_167 hN_cX11_widest rfl rfl rfl
theorem dX11_stake_0 : decode cX11_stake 0 = .ok (.aload_n 0, 1) := dk_42 hN_cX11_stake rfl rfl
theorem dX11_stake_1 : decode cX11_stake 1 = .ok (.invokevirtual 174, 3) := dk_182 hN_cX11_stake rfl rfl rfl
theorem dX11_stake_4 : decode cX11_stake 4 = .ok (.aload_n 0, 1) := dk_42 hN_cX11_stake rfl rfl
theorem dX11_stake_5 : decode cX11_stake 5 = .ok (.iload_n 1, 1) := dk_27 hN_cX11_stake rfl rfl
theorem dX11_stake_6 : decode cX11_stake 6 = .ok (.iload_n 2, 1) := dk_28 hN_cX11_stake rfl rfl
theorem dX11_stake_7 : decode cX11_stake 7 = .ok (.invokevirtual 305, 3) := dk_182 hN_cX11_stake rfl rfl rfl
theorem dX11_stake_10 : decode cX11_stake 10 = .ok (.ifCond .ne 9, 3) := dk_154 hN_cX11_stake rfl rfl rfl
theorem dX11_stake_19 : decode cX11_stake 19 = .ok (.iload_n 3, 1) := dk_29 hN_cX11_stake rfl rfl
theorem dX11_stake_20 : decode cX11_stake 20 = .ok (.iconst 0, 1) := dk_3 hN_cX11_stake rfl rfl
theorem dX11_stake_21 : decode cX11_stake 21 = .ok (.bipush 99, 2) := dk_16 hN_cX11_stake rfl rfl rfl
theorem dX11_stake_23 : decode cX11_stake 23 = .ok (.invokestatic 170, 3) := dk_184 hN_cX11_stake rfl rfl rfl
theorem dX11_stake_26 : decode cX11_stake 26 = .ok (.ifCond .ne 9, 3) := dk_154 hN_cX11_stake rfl rfl rfl
theorem dX11_stake_35 : decode cX11_stake 35 = .ok (.aload_n 0, 1) := dk_42 hN_cX11_stake rfl rfl
theorem dX11_stake_36 : decode cX11_stake 36 = .ok (.getfield 26, 3) := dk_180 hN_cX11_stake rfl rfl rfl
theorem dX11_stake_39 : decode cX11_stake 39 = .ok (.iconst 4, 1) := dk_7 hN_cX11_stake rfl rfl
theorem dX11_stake_40 : decode cX11_stake 40 = .ok (.iload_n 1, 1) := dk_27 hN_cX11_stake rfl rfl
theorem dX11_stake_41 : decode cX11_stake 41 = .ok (.imul, 1) := dk_104 hN_cX11_stake rfl rfl
theorem dX11_stake_42 : decode cX11_stake 42 = .ok (.iload_n 2, 1) := dk_28 hN_cX11_stake rfl rfl
theorem dX11_stake_43 : decode cX11_stake 43 = .ok (.iadd, 1) := dk_96 hN_cX11_stake rfl rfl
theorem dX11_stake_44 : decode cX11_stake 44 = .ok (.iload_n 3, 1) := dk_29 hN_cX11_stake rfl rfl
theorem dX11_stake_45 : decode cX11_stake 45 = .ok (.iastore, 1) := dk_79 hN_cX11_stake rfl rfl
theorem dX11_stake_46 : decode cX11_stake 46 = .ok (.iconst 1, 1) := dk_4 hN_cX11_stake rfl rfl
theorem dX11_stake_47 : decode cX11_stake 47 = .ok (.ireturn, 1) := dk_172 hN_cX11_stake rfl rfl
theorem dX11_stake_29 : decode cX11_stake 29 = .ok (.aload_n 0, 1) := dk_42 hN_cX11_stake rfl rfl
theorem dX11_stake_30 : decode cX11_stake 30 = .ok (.iconst 2, 1) := dk_5 hN_cX11_stake rfl rfl
theorem dX11_stake_31 : decode cX11_stake 31 = .ok (.invokevirtual 336, 3) := dk_182 hN_cX11_stake rfl rfl rfl
theorem dX11_stake_34 : decode cX11_stake 34 = .ok (.ireturn, 1) := dk_172 hN_cX11_stake rfl rfl
theorem dX11_stake_13 : decode cX11_stake 13 = .ok (.aload_n 0, 1) := dk_42 hN_cX11_stake rfl rfl
theorem dX11_stake_14 : decode cX11_stake 14 = .ok (.iconst 1, 1) := dk_4 hN_cX11_stake rfl rfl
theorem dX11_stake_15 : decode cX11_stake 15 = .ok (.invokevirtual 336, 3) := dk_182 hN_cX11_stake rfl rfl rfl
theorem dX11_stake_18 : decode cX11_stake 18 = .ok (.ireturn, 1) := dk_172 hN_cX11_stake rfl rfl
theorem dX11_winsOf_0 : decode cX11_winsOf 0 = .ok (.iconst 0, 1) := dk_3 hN_cX11_winsOf rfl rfl
theorem dX11_winsOf_1 : decode cX11_winsOf 1 = .ok (.istore_n 1, 1) := dk_60 hN_cX11_winsOf rfl rfl
theorem dX11_winsOf_2 : decode cX11_winsOf 2 = .ok (.iconst 0, 1) := dk_3 hN_cX11_winsOf rfl rfl
theorem dX11_winsOf_3 : decode cX11_winsOf 3 = .ok (.istore_n 2, 1) := dk_61 hN_cX11_winsOf rfl rfl
theorem dX11_winsOf_4 : decode cX11_winsOf 4 = .ok (.iload_n 2, 1) := dk_28 hN_cX11_winsOf rfl rfl
theorem dX11_winsOf_5 : decode cX11_winsOf 5 = .ok (.aload_n 0, 1) := dk_42 hN_cX11_winsOf rfl rfl
theorem dX11_winsOf_6 : decode cX11_winsOf 6 = .ok (.getfield 20, 3) := dk_180 hN_cX11_winsOf rfl rfl rfl
theorem dX11_winsOf_9 : decode cX11_winsOf 9 = .ok (.iconst 0, 1) := dk_3 hN_cX11_winsOf rfl rfl
theorem dX11_winsOf_10 : decode cX11_winsOf 10 = .ok (.iaload, 1) := dk_46 hN_cX11_winsOf rfl rfl
theorem dX11_winsOf_11 : decode cX11_winsOf 11 = .ok (.if_icmp .ge 56, 3) := dk_162 hN_cX11_winsOf rfl rfl rfl
theorem dX11_winsOf_67 : decode cX11_winsOf 67 = .ok (.iload_n 1, 1) := dk_27 hN_cX11_winsOf rfl rfl
theorem dX11_winsOf_68 : decode cX11_winsOf 68 = .ok (.ireturn, 1) := dk_172 hN_cX11_winsOf rfl rfl
theorem dX11_winsOf_14 : decode cX11_winsOf 14 = .ok (.iconst 0, 1) := dk_3 hN_cX11_winsOf rfl rfl
theorem dX11_winsOf_15 : decode cX11_winsOf 15 = .ok (.istore_n 3, 1) := dk_62 hN_cX11_winsOf rfl rfl
theorem dX11_winsOf_16 : decode cX11_winsOf 16 = .ok (.iload_n 3, 1) := dk_29 hN_cX11_winsOf rfl rfl
theorem dX11_winsOf_17 : decode cX11_winsOf 17 = .ok (.aload_n 0, 1) := dk_42 hN_cX11_winsOf rfl rfl
theorem dX11_winsOf_18 : decode cX11_winsOf 18 = .ok (.getfield 20, 3) := dk_180 hN_cX11_winsOf rfl rfl rfl
theorem dX11_winsOf_21 : decode cX11_winsOf 21 = .ok (.iload_n 2, 1) := dk_28 hN_cX11_winsOf rfl rfl
theorem dX11_winsOf_22 : decode cX11_winsOf 22 = .ok (.invokestatic 247, 3) := dk_184 hN_cX11_winsOf rfl rfl rfl
theorem dX11_winsOf_25 : decode cX11_winsOf 25 = .ok (.if_icmp .ge 36, 3) := dk_162 hN_cX11_winsOf rfl rfl rfl
theorem dX11_winsOf_61 : decode cX11_winsOf 61 = .ok (.iinc 2 1, 3) := dk_132 hN_cX11_winsOf rfl rfl rfl rfl
theorem dX11_winsOf_64 : decode cX11_winsOf 64 = .ok (.goto (-60), 3) := dk_167 hN_cX11_winsOf rfl rfl rfl
theorem dX11_winsOf_28 : decode cX11_winsOf 28 = .ok (.iload_n 1, 1) := dk_27 hN_cX11_winsOf rfl rfl
theorem dX11_winsOf_29 : decode cX11_winsOf 29 = .ok (.aload_n 0, 1) := dk_42 hN_cX11_winsOf rfl rfl
theorem dX11_winsOf_30 : decode cX11_winsOf 30 = .ok (.getfield 26, 3) := dk_180 hN_cX11_winsOf rfl rfl rfl
theorem dX11_winsOf_33 : decode cX11_winsOf 33 = .ok (.iconst 4, 1) := dk_7 hN_cX11_winsOf rfl rfl
theorem dX11_winsOf_34 : decode cX11_winsOf 34 = .ok (.iload_n 2, 1) := dk_28 hN_cX11_winsOf rfl rfl
theorem dX11_winsOf_35 : decode cX11_winsOf 35 = .ok (.imul, 1) := dk_104 hN_cX11_winsOf rfl rfl
theorem dX11_winsOf_36 : decode cX11_winsOf 36 = .ok (.iload_n 3, 1) := dk_29 hN_cX11_winsOf rfl rfl
theorem dX11_winsOf_37 : decode cX11_winsOf 37 = .ok (.iadd, 1) := dk_96 hN_cX11_winsOf rfl rfl
theorem dX11_winsOf_38 : decode cX11_winsOf 38 = .ok (.iaload, 1) := dk_46 hN_cX11_winsOf rfl rfl
theorem dX11_winsOf_39 : decode cX11_winsOf 39 = .ok (.aload_n 0, 1) := dk_42 hN_cX11_winsOf rfl rfl
theorem dX11_winsOf_40 : decode cX11_winsOf 40 = .ok (.getfield 20, 3) := dk_180 hN_cX11_winsOf rfl rfl rfl
theorem dX11_winsOf_43 : decode cX11_winsOf 43 = .ok (.bipush 17, 2) := dk_16 hN_cX11_winsOf rfl rfl rfl
theorem dX11_winsOf_45 : decode cX11_winsOf 45 = .ok (.iconst 4, 1) := dk_7 hN_cX11_winsOf rfl rfl
theorem dX11_winsOf_46 : decode cX11_winsOf 46 = .ok (.iload_n 2, 1) := dk_28 hN_cX11_winsOf rfl rfl
theorem dX11_winsOf_47 : decode cX11_winsOf 47 = .ok (.imul, 1) := dk_104 hN_cX11_winsOf rfl rfl
theorem dX11_winsOf_48 : decode cX11_winsOf 48 = .ok (.iadd, 1) := dk_96 hN_cX11_winsOf rfl rfl
theorem dX11_winsOf_49 : decode cX11_winsOf 49 = .ok (.iload_n 3, 1) := dk_29 hN_cX11_winsOf rfl rfl
theorem dX11_winsOf_50 : decode cX11_winsOf 50 = .ok (.iadd, 1) := dk_96 hN_cX11_winsOf rfl rfl
theorem dX11_winsOf_51 : decode cX11_winsOf 51 = .ok (.iaload, 1) := dk_46 hN_cX11_winsOf rfl rfl
theorem dX11_winsOf_52 : decode cX11_winsOf 52 = .ok (.imul, 1) := dk_104 hN_cX11_winsOf rfl rfl
theorem dX11_winsOf_53 : decode cX11_winsOf 53 = .ok (.iadd, 1) := dk_96 hN_cX11_winsOf rfl rfl
theorem dX11_winsOf_54 : decode cX11_winsOf 54 = .ok (.istore_n 1, 1) := dk_60 hN_cX11_winsOf rfl rfl
theorem dX11_winsOf_55 : decode cX11_winsOf 55 = .ok (.iinc 3 1, 3) := dk_132 hN_cX11_winsOf rfl rfl rfl rfl
theorem dX11_winsOf_58 : decode cX11_winsOf 58 = .ok (.goto (-42), 3) := dk_167 hN_cX11_winsOf rfl rfl rfl
theorem dX11_paid_0 : decode cX11_paid 0 = .ok (.iconst 0, 1) := dk_3 hN_cX11_paid rfl rfl
theorem dX11_paid_1 : decode cX11_paid 1 = .ok (.istore_n 2, 1) := dk_61 hN_cX11_paid rfl rfl
theorem dX11_paid_2 : decode cX11_paid 2 = .ok (.iconst 0, 1) := dk_3 hN_cX11_paid rfl rfl
theorem dX11_paid_3 : decode cX11_paid 3 = .ok (.istore_n 3, 1) := dk_62 hN_cX11_paid rfl rfl
theorem dX11_paid_4 : decode cX11_paid 4 = .ok (.iload_n 3, 1) := dk_29 hN_cX11_paid rfl rfl
theorem dX11_paid_5 : decode cX11_paid 5 = .ok (.aload_n 0, 1) := dk_42 hN_cX11_paid rfl rfl
theorem dX11_paid_6 : decode cX11_paid 6 = .ok (.getfield 20, 3) := dk_180 hN_cX11_paid rfl rfl rfl
theorem dX11_paid_9 : decode cX11_paid 9 = .ok (.iconst 0, 1) := dk_3 hN_cX11_paid rfl rfl
theorem dX11_paid_10 : decode cX11_paid 10 = .ok (.iaload, 1) := dk_46 hN_cX11_paid rfl rfl
theorem dX11_paid_11 : decode cX11_paid 11 = .ok (.if_icmp .ge 27, 3) := dk_162 hN_cX11_paid rfl rfl rfl
theorem dX11_paid_38 : decode cX11_paid 38 = .ok (.iload_n 2, 1) := dk_28 hN_cX11_paid rfl rfl
theorem dX11_paid_39 : decode cX11_paid 39 = .ok (.ireturn, 1) := dk_172 hN_cX11_paid rfl rfl
theorem dX11_paid_14 : decode cX11_paid 14 = .ok (.iload_n 2, 1) := dk_28 hN_cX11_paid rfl rfl
theorem dX11_paid_15 : decode cX11_paid 15 = .ok (.aload_n 0, 1) := dk_42 hN_cX11_paid rfl rfl
theorem dX11_paid_16 : decode cX11_paid 16 = .ok (.getfield 26, 3) := dk_180 hN_cX11_paid rfl rfl rfl
theorem dX11_paid_19 : decode cX11_paid 19 = .ok (.iconst 4, 1) := dk_7 hN_cX11_paid rfl rfl
theorem dX11_paid_20 : decode cX11_paid 20 = .ok (.iload_n 3, 1) := dk_29 hN_cX11_paid rfl rfl
theorem dX11_paid_21 : decode cX11_paid 21 = .ok (.imul, 1) := dk_104 hN_cX11_paid rfl rfl
theorem dX11_paid_22 : decode cX11_paid 22 = .ok (.aload_n 0, 1) := dk_42 hN_cX11_paid rfl rfl
theorem dX11_paid_23 : decode cX11_paid 23 = .ok (.iload_n 3, 1) := dk_29 hN_cX11_paid rfl rfl
theorem dX11_paid_24 : decode cX11_paid 24 = .ok (.iload_n 1, 1) := dk_27 hN_cX11_paid rfl rfl
theorem dX11_paid_25 : decode cX11_paid 25 = .ok (.invokevirtual 263, 3) := dk_182 hN_cX11_paid rfl rfl rfl
theorem dX11_paid_28 : decode cX11_paid 28 = .ok (.iadd, 1) := dk_96 hN_cX11_paid rfl rfl
theorem dX11_paid_29 : decode cX11_paid 29 = .ok (.iaload, 1) := dk_46 hN_cX11_paid rfl rfl
theorem dX11_paid_30 : decode cX11_paid 30 = .ok (.iadd, 1) := dk_96 hN_cX11_paid rfl rfl
theorem dX11_paid_31 : decode cX11_paid 31 = .ok (.istore_n 2, 1) := dk_61 hN_cX11_paid rfl rfl
theorem dX11_paid_32 : decode cX11_paid 32 = .ok (.iinc 3 1, 3) := dk_132 hN_cX11_paid rfl rfl rfl rfl
theorem dX11_paid_35 : decode cX11_paid 35 = .ok (.goto (-31), 3) := dk_167 hN_cX11_paid rfl rfl rfl
theorem dX11_worstHidden_0 : decode cX11_worstHidden 0 = .ok (.iconst 0, 1) := dk_3 hN_cX11_worstHidden rfl rfl
theorem dX11_worstHidden_1 : decode cX11_worstHidden 1 = .ok (.istore_n 1, 1) := dk_60 hN_cX11_worstHidden rfl rfl
theorem dX11_worstHidden_2 : decode cX11_worstHidden 2 = .ok (.iconst 1, 1) := dk_4 hN_cX11_worstHidden rfl rfl
theorem dX11_worstHidden_3 : decode cX11_worstHidden 3 = .ok (.istore_n 2, 1) := dk_61 hN_cX11_worstHidden rfl rfl
theorem dX11_worstHidden_4 : decode cX11_worstHidden 4 = .ok (.iload_n 2, 1) := dk_28 hN_cX11_worstHidden rfl rfl
theorem dX11_worstHidden_5 : decode cX11_worstHidden 5 = .ok (.aload_n 0, 1) := dk_42 hN_cX11_worstHidden rfl rfl
theorem dX11_worstHidden_6 : decode cX11_worstHidden 6 = .ok (.invokevirtual 251, 3) := dk_182 hN_cX11_worstHidden rfl rfl rfl
theorem dX11_worstHidden_9 : decode cX11_worstHidden 9 = .ok (.if_icmp .ge 28, 3) := dk_162 hN_cX11_worstHidden rfl rfl rfl
theorem dX11_worstHidden_37 : decode cX11_worstHidden 37 = .ok (.iload_n 1, 1) := dk_27 hN_cX11_worstHidden rfl rfl
theorem dX11_worstHidden_38 : decode cX11_worstHidden 38 = .ok (.ireturn, 1) := dk_172 hN_cX11_worstHidden rfl rfl
theorem dX11_worstHidden_12 : decode cX11_worstHidden 12 = .ok (.aload_n 0, 1) := dk_42 hN_cX11_worstHidden rfl rfl
theorem dX11_worstHidden_13 : decode cX11_worstHidden 13 = .ok (.iload_n 2, 1) := dk_28 hN_cX11_worstHidden rfl rfl
theorem dX11_worstHidden_14 : decode cX11_worstHidden 14 = .ok (.invokevirtual 339, 3) := dk_182 hN_cX11_worstHidden rfl rfl rfl
theorem dX11_worstHidden_17 : decode cX11_worstHidden 17 = .ok (.aload_n 0, 1) := dk_42 hN_cX11_worstHidden rfl rfl
theorem dX11_worstHidden_18 : decode cX11_worstHidden 18 = .ok (.iload_n 1, 1) := dk_27 hN_cX11_worstHidden rfl rfl
theorem dX11_worstHidden_19 : decode cX11_worstHidden 19 = .ok (.invokevirtual 339, 3) := dk_182 hN_cX11_worstHidden rfl rfl rfl
theorem dX11_worstHidden_22 : decode cX11_worstHidden 22 = .ok (.if_icmp .ge 7, 3) := dk_162 hN_cX11_worstHidden rfl rfl rfl
theorem dX11_worstHidden_29 : decode cX11_worstHidden 29 = .ok (.iload_n 1, 1) := dk_27 hN_cX11_worstHidden rfl rfl
theorem dX11_worstHidden_30 : decode cX11_worstHidden 30 = .ok (.istore_n 1, 1) := dk_60 hN_cX11_worstHidden rfl rfl
theorem dX11_worstHidden_31 : decode cX11_worstHidden 31 = .ok (.iinc 2 1, 3) := dk_132 hN_cX11_worstHidden rfl rfl rfl rfl
theorem dX11_worstHidden_34 : decode cX11_worstHidden 34 = .ok (.goto (-30), 3) := dk_167 hN_cX11_worstHidden rfl rfl rfl
theorem dX11_worstHidden_25 : decode cX11_worstHidden 25 = .ok (.iload_n 2, 1) := dk_28 hN_cX11_worstHidden rfl rfl
theorem dX11_worstHidden_26 : decode cX11_worstHidden 26 = .ok (.goto 4, 3) := dk_167 hN_cX11_worstHidden rfl rfl rfl
theorem dX11_wins_0 : decode cX11_wins 0 = .ok (.aload_n 0, 1) := dk_42 hN_cX11_wins rfl rfl
theorem dX11_wins_1 : decode cX11_wins 1 = .ok (.invokevirtual 174, 3) := dk_182 hN_cX11_wins rfl rfl rfl
theorem dX11_wins_4 : decode cX11_wins 4 = .ok (.aload_n 0, 1) := dk_42 hN_cX11_wins rfl rfl
theorem dX11_wins_5 : decode cX11_wins 5 = .ok (.getfield 183, 3) := dk_180 hN_cX11_wins rfl rfl rfl
theorem dX11_wins_8 : decode cX11_wins 8 = .ok (.ifCond .eq 10, 3) := dk_153 hN_cX11_wins rfl rfl rfl
theorem dX11_wins_18 : decode cX11_wins 18 = .ok (.aload_n 0, 1) := dk_42 hN_cX11_wins rfl rfl
theorem dX11_wins_19 : decode cX11_wins 19 = .ok (.iconst 1, 1) := dk_4 hN_cX11_wins rfl rfl
theorem dX11_wins_20 : decode cX11_wins 20 = .ok (.invokevirtual 177, 3) := dk_182 hN_cX11_wins rfl rfl rfl
theorem dX11_wins_23 : decode cX11_wins 23 = .ok (.ireturn, 1) := dk_172 hN_cX11_wins rfl rfl
theorem dX11_wins_11 : decode cX11_wins 11 = .ok (.aload_n 0, 1) := dk_42 hN_cX11_wins rfl rfl
theorem dX11_wins_12 : decode cX11_wins 12 = .ok (.invokevirtual 342, 3) := dk_182 hN_cX11_wins rfl rfl rfl
theorem dX11_wins_15 : decode cX11_wins 15 = .ok (.goto 8, 3) := dk_167 hN_cX11_wins rfl rfl rfl
theorem dX11_worst_0 : decode cX11_worst 0 = .ok (.aload_n 0, 1) := dk_42 hN_cX11_worst rfl rfl
theorem dX11_worst_1 : decode cX11_worst 1 = .ok (.invokevirtual 174, 3) := dk_182 hN_cX11_worst rfl rfl rfl
theorem dX11_worst_4 : decode cX11_worst 4 = .ok (.aload_n 0, 1) := dk_42 hN_cX11_worst rfl rfl
theorem dX11_worst_5 : decode cX11_worst 5 = .ok (.getfield 183, 3) := dk_180 hN_cX11_worst rfl rfl rfl
theorem dX11_worst_8 : decode cX11_worst 8 = .ok (.ifCond .eq 14, 3) := dk_153 hN_cX11_worst rfl rfl rfl
theorem dX11_worst_22 : decode cX11_worst 22 = .ok (.aload_n 0, 1) := dk_42 hN_cX11_worst rfl rfl
theorem dX11_worst_23 : decode cX11_worst 23 = .ok (.iconst 1, 1) := dk_4 hN_cX11_worst rfl rfl
theorem dX11_worst_24 : decode cX11_worst 24 = .ok (.invokevirtual 177, 3) := dk_182 hN_cX11_worst rfl rfl rfl
theorem dX11_worst_27 : decode cX11_worst 27 = .ok (.ireturn, 1) := dk_172 hN_cX11_worst rfl rfl
theorem dX11_worst_11 : decode cX11_worst 11 = .ok (.aload_n 0, 1) := dk_42 hN_cX11_worst rfl rfl
theorem dX11_worst_12 : decode cX11_worst 12 = .ok (.aload_n 0, 1) := dk_42 hN_cX11_worst rfl rfl
theorem dX11_worst_13 : decode cX11_worst 13 = .ok (.invokevirtual 345, 3) := dk_182 hN_cX11_worst rfl rfl rfl
theorem dX11_worst_16 : decode cX11_worst 16 = .ok (.invokevirtual 339, 3) := dk_182 hN_cX11_worst rfl rfl rfl
theorem dX11_worst_19 : decode cX11_worst 19 = .ok (.goto 8, 3) := dk_167 hN_cX11_worst rfl rfl rfl
theorem dX11_worstAt_0 : decode cX11_worstAt 0 = .ok (.aload_n 0, 1) := dk_42 hN_cX11_worstAt rfl rfl
theorem dX11_worstAt_1 : decode cX11_worstAt 1 = .ok (.invokevirtual 174, 3) := dk_182 hN_cX11_worstAt rfl rfl rfl
theorem dX11_worstAt_4 : decode cX11_worstAt 4 = .ok (.aload_n 0, 1) := dk_42 hN_cX11_worstAt rfl rfl
theorem dX11_worstAt_5 : decode cX11_worstAt 5 = .ok (.getfield 183, 3) := dk_180 hN_cX11_worstAt rfl rfl rfl
theorem dX11_worstAt_8 : decode cX11_worstAt 8 = .ok (.ifCond .eq 10, 3) := dk_153 hN_cX11_worstAt rfl rfl rfl
theorem dX11_worstAt_18 : decode cX11_worstAt 18 = .ok (.aload_n 0, 1) := dk_42 hN_cX11_worstAt rfl rfl
theorem dX11_worstAt_19 : decode cX11_worstAt 19 = .ok (.iconst 1, 1) := dk_4 hN_cX11_worstAt rfl rfl
theorem dX11_worstAt_20 : decode cX11_worstAt 20 = .ok (.invokevirtual 177, 3) := dk_182 hN_cX11_worstAt rfl rfl rfl
theorem dX11_worstAt_23 : decode cX11_worstAt 23 = .ok (.ireturn, 1) := dk_172 hN_cX11_worstAt rfl rfl
theorem dX11_worstAt_11 : decode cX11_worstAt 11 = .ok (.aload_n 0, 1) := dk_42 hN_cX11_worstAt rfl rfl
theorem dX11_worstAt_12 : decode cX11_worstAt 12 = .ok (.invokevirtual 345, 3) := dk_182 hN_cX11_worstAt rfl rfl rfl
theorem dX11_worstAt_15 : decode cX11_worstAt 15 = .ok (.goto 8, 3) := dk_167 hN_cX11_worstAt rfl rfl rfl
theorem dX11_bars_0 : decode cX11_bars 0 = .ok (.aload_n 0, 1) := dk_42 hN_cX11_bars rfl rfl
theorem dX11_bars_1 : decode cX11_bars 1 = .ok (.invokevirtual 174, 3) := dk_182 hN_cX11_bars rfl rfl rfl
theorem dX11_bars_4 : decode cX11_bars 4 = .ok (.aload_n 0, 1) := dk_42 hN_cX11_bars rfl rfl
theorem dX11_bars_5 : decode cX11_bars 5 = .ok (.getfield 183, 3) := dk_180 hN_cX11_bars rfl rfl rfl
theorem dX11_bars_8 : decode cX11_bars 8 = .ok (.ifCond .eq 34, 3) := dk_153 hN_cX11_bars rfl rfl rfl
theorem dX11_bars_42 : decode cX11_bars 42 = .ok (.aload_n 0, 1) := dk_42 hN_cX11_bars rfl rfl
theorem dX11_bars_43 : decode cX11_bars 43 = .ok (.iconst 1, 1) := dk_4 hN_cX11_bars rfl rfl
theorem dX11_bars_44 : decode cX11_bars 44 = .ok (.invokevirtual 177, 3) := dk_182 hN_cX11_bars rfl rfl rfl
theorem dX11_bars_47 : decode cX11_bars 47 = .ok (.ireturn, 1) := dk_172 hN_cX11_bars rfl rfl
theorem dX11_bars_11 : decode cX11_bars 11 = .ok (.aload_n 0, 1) := dk_42 hN_cX11_bars rfl rfl
theorem dX11_bars_12 : decode cX11_bars 12 = .ok (.invokevirtual 342, 3) := dk_182 hN_cX11_bars rfl rfl rfl
theorem dX11_bars_15 : decode cX11_bars 15 = .ok (.aload_n 0, 1) := dk_42 hN_cX11_bars rfl rfl
theorem dX11_bars_16 : decode cX11_bars 16 = .ok (.aload_n 0, 1) := dk_42 hN_cX11_bars rfl rfl
theorem dX11_bars_17 : decode cX11_bars 17 = .ok (.invokevirtual 345, 3) := dk_182 hN_cX11_bars rfl rfl rfl
theorem dX11_bars_20 : decode cX11_bars 20 = .ok (.invokevirtual 339, 3) := dk_182 hN_cX11_bars rfl rfl rfl
theorem dX11_bars_23 : decode cX11_bars 23 = .ok (.aload_n 0, 1) := dk_42 hN_cX11_bars rfl rfl
theorem dX11_bars_24 : decode cX11_bars 24 = .ok (.getfield 20, 3) := dk_180 hN_cX11_bars rfl rfl rfl
theorem dX11_bars_27 : decode cX11_bars 27 = .ok (.bipush 49, 2) := dk_16 hN_cX11_bars rfl rfl rfl
theorem dX11_bars_29 : decode cX11_bars 29 = .ok (.iaload, 1) := dk_46 hN_cX11_bars rfl rfl
theorem dX11_bars_30 : decode cX11_bars 30 = .ok (.imul, 1) := dk_104 hN_cX11_bars rfl rfl
theorem dX11_bars_31 : decode cX11_bars 31 = .ok (.if_icmp .ge 7, 3) := dk_162 hN_cX11_bars rfl rfl rfl
theorem dX11_bars_38 : decode cX11_bars 38 = .ok (.iconst 0, 1) := dk_3 hN_cX11_bars rfl rfl
theorem dX11_bars_39 : decode cX11_bars 39 = .ok (.goto 8, 3) := dk_167 hN_cX11_bars rfl rfl rfl
theorem dX11_bars_34 : decode cX11_bars 34 = .ok (.iconst 1, 1) := dk_4 hN_cX11_bars rfl rfl
theorem dX11_bars_35 : decode cX11_bars 35 = .ok (.goto 12, 3) := dk_167 hN_cX11_bars rfl rfl rfl
theorem dX11_fair_0 : decode cX11_fair 0 = .ok (.aload_n 0, 1) := dk_42 hN_cX11_fair rfl rfl
theorem dX11_fair_1 : decode cX11_fair 1 = .ok (.invokevirtual 174, 3) := dk_182 hN_cX11_fair rfl rfl rfl
theorem dX11_fair_4 : decode cX11_fair 4 = .ok (.aload_n 0, 1) := dk_42 hN_cX11_fair rfl rfl
theorem dX11_fair_5 : decode cX11_fair 5 = .ok (.getfield 183, 3) := dk_180 hN_cX11_fair rfl rfl rfl
theorem dX11_fair_8 : decode cX11_fair 8 = .ok (.ifCond .ne 9, 3) := dk_154 hN_cX11_fair rfl rfl rfl
theorem dX11_fair_17 : decode cX11_fair 17 = .ok (.aload_n 0, 1) := dk_42 hN_cX11_fair rfl rfl
theorem dX11_fair_18 : decode cX11_fair 18 = .ok (.aload_n 0, 1) := dk_42 hN_cX11_fair rfl rfl
theorem dX11_fair_19 : decode cX11_fair 19 = .ok (.invokevirtual 345, 3) := dk_182 hN_cX11_fair rfl rfl rfl
theorem dX11_fair_22 : decode cX11_fair 22 = .ok (.invokevirtual 339, 3) := dk_182 hN_cX11_fair rfl rfl rfl
theorem dX11_fair_25 : decode cX11_fair 25 = .ok (.aload_n 0, 1) := dk_42 hN_cX11_fair rfl rfl
theorem dX11_fair_26 : decode cX11_fair 26 = .ok (.getfield 20, 3) := dk_180 hN_cX11_fair rfl rfl rfl
theorem dX11_fair_29 : decode cX11_fair 29 = .ok (.bipush 49, 2) := dk_16 hN_cX11_fair rfl rfl rfl
theorem dX11_fair_31 : decode cX11_fair 31 = .ok (.iaload, 1) := dk_46 hN_cX11_fair rfl rfl
theorem dX11_fair_32 : decode cX11_fair 32 = .ok (.imul, 1) := dk_104 hN_cX11_fair rfl rfl
theorem dX11_fair_33 : decode cX11_fair 33 = .ok (.istore_n 2, 1) := dk_61 hN_cX11_fair rfl rfl
theorem dX11_fair_34 : decode cX11_fair 34 = .ok (.iload_n 2, 1) := dk_28 hN_cX11_fair rfl rfl
theorem dX11_fair_35 : decode cX11_fair 35 = .ok (.ifCond .eq 11, 3) := dk_153 hN_cX11_fair rfl rfl rfl
theorem dX11_fair_46 : decode cX11_fair 46 = .ok (.iconst 1, 1) := dk_4 hN_cX11_fair rfl rfl
theorem dX11_fair_47 : decode cX11_fair 47 = .ok (.goto 14, 3) := dk_167 hN_cX11_fair rfl rfl rfl
theorem dX11_fair_61 : decode cX11_fair 61 = .ok (.ireturn, 1) := dk_172 hN_cX11_fair rfl rfl
theorem dX11_fair_38 : decode cX11_fair 38 = .ok (.aload_n 0, 1) := dk_42 hN_cX11_fair rfl rfl
theorem dX11_fair_39 : decode cX11_fair 39 = .ok (.invokevirtual 342, 3) := dk_182 hN_cX11_fair rfl rfl rfl
theorem dX11_fair_42 : decode cX11_fair 42 = .ok (.iload_n 2, 1) := dk_28 hN_cX11_fair rfl rfl
theorem dX11_fair_43 : decode cX11_fair 43 = .ok (.if_icmp .lt 7, 3) := dk_161 hN_cX11_fair rfl rfl rfl
theorem dX11_fair_50 : decode cX11_fair 50 = .ok (.aload_n 0, 1) := dk_42 hN_cX11_fair rfl rfl
theorem dX11_fair_51 : decode cX11_fair 51 = .ok (.invokevirtual 342, 3) := dk_182 hN_cX11_fair rfl rfl rfl
theorem dX11_fair_54 : decode cX11_fair 54 = .ok (.i2l, 1) := dk_133 hN_cX11_fair rfl rfl
theorem dX11_fair_55 : decode cX11_fair 55 = .ok (.iload_n 2, 1) := dk_28 hN_cX11_fair rfl rfl
theorem dX11_fair_56 : decode cX11_fair 56 = .ok (.i2l, 1) := dk_133 hN_cX11_fair rfl rfl
theorem dX11_fair_57 : decode cX11_fair 57 = .ok (.iload_n 1, 1) := dk_27 hN_cX11_fair rfl rfl
theorem dX11_fair_58 : decode cX11_fair 58 = .ok (.invokestatic 292, 3) := dk_184 hN_cX11_fair rfl rfl rfl
theorem dX11_fair_11 : decode cX11_fair 11 = .ok (.aload_n 0, 1) := dk_42 hN_cX11_fair rfl rfl
theorem dX11_fair_12 : decode cX11_fair 12 = .ok (.iconst 1, 1) := dk_4 hN_cX11_fair rfl rfl
theorem dX11_fair_13 : decode cX11_fair 13 = .ok (.invokevirtual 177, 3) := dk_182 hN_cX11_fair rfl rfl rfl
theorem dX11_fair_16 : decode cX11_fair 16 = .ok (.ireturn, 1) := dk_172 hN_cX11_fair rfl rfl
theorem dX11_linesBy_0 : decode cX11_linesBy 0 = .ok (.iconst 0, 1) := dk_3 hN_cX11_linesBy rfl rfl
theorem dX11_linesBy_1 : decode cX11_linesBy 1 = .ok (.istore_n 2, 1) := dk_61 hN_cX11_linesBy rfl rfl
theorem dX11_linesBy_2 : decode cX11_linesBy 2 = .ok (.iconst 0, 1) := dk_3 hN_cX11_linesBy rfl rfl
theorem dX11_linesBy_3 : decode cX11_linesBy 3 = .ok (.istore_n 3, 1) := dk_62 hN_cX11_linesBy rfl rfl
theorem dX11_linesBy_4 : decode cX11_linesBy 4 = .ok (.iload_n 3, 1) := dk_29 hN_cX11_linesBy rfl rfl
theorem dX11_linesBy_5 : decode cX11_linesBy 5 = .ok (.aload_n 0, 1) := dk_42 hN_cX11_linesBy rfl rfl
theorem dX11_linesBy_6 : decode cX11_linesBy 6 = .ok (.getfield 20, 3) := dk_180 hN_cX11_linesBy rfl rfl rfl
theorem dX11_linesBy_9 : decode cX11_linesBy 9 = .ok (.bipush 52, 2) := dk_16 hN_cX11_linesBy rfl rfl rfl
theorem dX11_linesBy_11 : decode cX11_linesBy 11 = .ok (.iaload, 1) := dk_46 hN_cX11_linesBy rfl rfl
theorem dX11_linesBy_12 : decode cX11_linesBy 12 = .ok (.if_icmp .ge 76, 3) := dk_162 hN_cX11_linesBy rfl rfl rfl
theorem dX11_linesBy_88 : decode cX11_linesBy 88 = .ok (.iload_n 2, 1) := dk_28 hN_cX11_linesBy rfl rfl
theorem dX11_linesBy_89 : decode cX11_linesBy 89 = .ok (.ireturn, 1) := dk_172 hN_cX11_linesBy rfl rfl
theorem dX11_linesBy_15 : decode cX11_linesBy 15 = .ok (.iconst 0, 1) := dk_3 hN_cX11_linesBy rfl rfl
theorem dX11_linesBy_16 : decode cX11_linesBy 16 = .ok (.istore 4, 2) := dk_54 hN_cX11_linesBy rfl rfl rfl
theorem dX11_linesBy_18 : decode cX11_linesBy 18 = .ok (.iconst 0, 1) := dk_3 hN_cX11_linesBy rfl rfl
theorem dX11_linesBy_19 : decode cX11_linesBy 19 = .ok (.istore 5, 2) := dk_54 hN_cX11_linesBy rfl rfl rfl
theorem dX11_linesBy_21 : decode cX11_linesBy 21 = .ok (.iload 5, 2) := dk_21 hN_cX11_linesBy rfl rfl rfl
theorem dX11_linesBy_23 : decode cX11_linesBy 23 = .ok (.iconst 3, 1) := dk_6 hN_cX11_linesBy rfl rfl
theorem dX11_linesBy_24 : decode cX11_linesBy 24 = .ok (.if_icmp .ge 32, 3) := dk_162 hN_cX11_linesBy rfl rfl rfl
theorem dX11_linesBy_56 : decode cX11_linesBy 56 = .ok (.iload_n 2, 1) := dk_28 hN_cX11_linesBy rfl rfl
theorem dX11_linesBy_57 : decode cX11_linesBy 57 = .ok (.iload 4, 2) := dk_21 hN_cX11_linesBy rfl rfl rfl
theorem dX11_linesBy_59 : decode cX11_linesBy 59 = .ok (.iconst 2, 1) := dk_5 hN_cX11_linesBy rfl rfl
theorem dX11_linesBy_60 : decode cX11_linesBy 60 = .ok (.irem, 1) := dk_112 hN_cX11_linesBy rfl rfl
theorem dX11_linesBy_61 : decode cX11_linesBy 61 = .ok (.aload_n 0, 1) := dk_42 hN_cX11_linesBy rfl rfl
theorem dX11_linesBy_62 : decode cX11_linesBy 62 = .ok (.getfield 20, 3) := dk_180 hN_cX11_linesBy rfl rfl rfl
theorem dX11_linesBy_65 : decode cX11_linesBy 65 = .ok (.bipush 77, 2) := dk_16 hN_cX11_linesBy rfl rfl rfl
theorem dX11_linesBy_67 : decode cX11_linesBy 67 = .ok (.iload_n 3, 1) := dk_29 hN_cX11_linesBy rfl rfl
theorem dX11_linesBy_68 : decode cX11_linesBy 68 = .ok (.iadd, 1) := dk_96 hN_cX11_linesBy rfl rfl
theorem dX11_linesBy_69 : decode cX11_linesBy 69 = .ok (.iaload, 1) := dk_46 hN_cX11_linesBy rfl rfl
theorem dX11_linesBy_70 : decode cX11_linesBy 70 = .ok (.if_icmp .ne 9, 3) := dk_160 hN_cX11_linesBy rfl rfl rfl
theorem dX11_linesBy_79 : decode cX11_linesBy 79 = .ok (.iconst 0, 1) := dk_3 hN_cX11_linesBy rfl rfl
theorem dX11_linesBy_80 : decode cX11_linesBy 80 = .ok (.ior, 1) := dk_128 hN_cX11_linesBy rfl rfl
theorem dX11_linesBy_81 : decode cX11_linesBy 81 = .ok (.istore_n 2, 1) := dk_61 hN_cX11_linesBy rfl rfl
theorem dX11_linesBy_82 : decode cX11_linesBy 82 = .ok (.iinc 3 1, 3) := dk_132 hN_cX11_linesBy rfl rfl rfl rfl
theorem dX11_linesBy_85 : decode cX11_linesBy 85 = .ok (.goto (-81), 3) := dk_167 hN_cX11_linesBy rfl rfl rfl
theorem dX11_linesBy_73 : decode cX11_linesBy 73 = .ok (.iconst 1, 1) := dk_4 hN_cX11_linesBy rfl rfl
theorem dX11_linesBy_74 : decode cX11_linesBy 74 = .ok (.iload_n 3, 1) := dk_29 hN_cX11_linesBy rfl rfl
theorem dX11_linesBy_75 : decode cX11_linesBy 75 = .ok (.ishl, 1) := dk_120 hN_cX11_linesBy rfl rfl
theorem dX11_linesBy_76 : decode cX11_linesBy 76 = .ok (.goto 4, 3) := dk_167 hN_cX11_linesBy rfl rfl rfl
theorem dX11_linesBy_27 : decode cX11_linesBy 27 = .ok (.iload 4, 2) := dk_21 hN_cX11_linesBy rfl rfl rfl
theorem dX11_linesBy_29 : decode cX11_linesBy 29 = .ok (.iload_n 1, 1) := dk_27 hN_cX11_linesBy rfl rfl
theorem dX11_linesBy_30 : decode cX11_linesBy 30 = .ok (.aload_n 0, 1) := dk_42 hN_cX11_linesBy rfl rfl
theorem dX11_linesBy_31 : decode cX11_linesBy 31 = .ok (.getfield 20, 3) := dk_180 hN_cX11_linesBy rfl rfl rfl
theorem dX11_linesBy_34 : decode cX11_linesBy 34 = .ok (.bipush 53, 2) := dk_16 hN_cX11_linesBy rfl rfl rfl
theorem dX11_linesBy_36 : decode cX11_linesBy 36 = .ok (.iconst 3, 1) := dk_6 hN_cX11_linesBy rfl rfl
theorem dX11_linesBy_37 : decode cX11_linesBy 37 = .ok (.iload_n 3, 1) := dk_29 hN_cX11_linesBy rfl rfl
theorem dX11_linesBy_38 : decode cX11_linesBy 38 = .ok (.imul, 1) := dk_104 hN_cX11_linesBy rfl rfl
theorem dX11_linesBy_39 : decode cX11_linesBy 39 = .ok (.iadd, 1) := dk_96 hN_cX11_linesBy rfl rfl
theorem dX11_linesBy_40 : decode cX11_linesBy 40 = .ok (.iload 5, 2) := dk_21 hN_cX11_linesBy rfl rfl rfl
theorem dX11_linesBy_42 : decode cX11_linesBy 42 = .ok (.iadd, 1) := dk_96 hN_cX11_linesBy rfl rfl
theorem dX11_linesBy_43 : decode cX11_linesBy 43 = .ok (.iaload, 1) := dk_46 hN_cX11_linesBy rfl rfl
theorem dX11_linesBy_44 : decode cX11_linesBy 44 = .ok (.ishr, 1) := dk_122 hN_cX11_linesBy rfl rfl
theorem dX11_linesBy_45 : decode cX11_linesBy 45 = .ok (.iconst 1, 1) := dk_4 hN_cX11_linesBy rfl rfl
theorem dX11_linesBy_46 : decode cX11_linesBy 46 = .ok (.iand, 1) := dk_126 hN_cX11_linesBy rfl rfl
theorem dX11_linesBy_47 : decode cX11_linesBy 47 = .ok (.iadd, 1) := dk_96 hN_cX11_linesBy rfl rfl
theorem dX11_linesBy_48 : decode cX11_linesBy 48 = .ok (.istore 4, 2) := dk_54 hN_cX11_linesBy rfl rfl rfl
theorem dX11_linesBy_50 : decode cX11_linesBy 50 = .ok (.iinc 5 1, 3) := dk_132 hN_cX11_linesBy rfl rfl rfl rfl
theorem dX11_linesBy_53 : decode cX11_linesBy 53 = .ok (.goto (-32), 3) := dk_167 hN_cX11_linesBy rfl rfl rfl
theorem dX11_allLines_0 : decode cX11_allLines 0 = .ok (.iconst 1, 1) := dk_4 hN_cX11_allLines rfl rfl
theorem dX11_allLines_1 : decode cX11_allLines 1 = .ok (.aload_n 0, 1) := dk_42 hN_cX11_allLines rfl rfl
theorem dX11_allLines_2 : decode cX11_allLines 2 = .ok (.getfield 20, 3) := dk_180 hN_cX11_allLines rfl rfl rfl
theorem dX11_allLines_5 : decode cX11_allLines 5 = .ok (.bipush 52, 2) := dk_16 hN_cX11_allLines rfl rfl rfl
theorem dX11_allLines_7 : decode cX11_allLines 7 = .ok (.iaload, 1) := dk_46 hN_cX11_allLines rfl rfl
theorem dX11_allLines_8 : decode cX11_allLines 8 = .ok (.ishl, 1) := dk_120 hN_cX11_allLines rfl rfl
theorem dX11_allLines_9 : decode cX11_allLines 9 = .ok (.iconst 1, 1) := dk_4 hN_cX11_allLines rfl rfl
theorem dX11_allLines_10 : decode cX11_allLines 10 = .ok (.isub, 1) := dk_100 hN_cX11_allLines rfl rfl
theorem dX11_allLines_11 : decode cX11_allLines 11 = .ok (.ireturn, 1) := dk_172 hN_cX11_allLines rfl rfl
theorem dX11_ways_0 : decode cX11_ways 0 = .ok (.aload_n 0, 1) := dk_42 hN_cX11_ways rfl rfl
theorem dX11_ways_1 : decode cX11_ways 1 = .ok (.invokevirtual 174, 3) := dk_182 hN_cX11_ways rfl rfl rfl
theorem dX11_ways_4 : decode cX11_ways 4 = .ok (.aload_n 0, 1) := dk_42 hN_cX11_ways rfl rfl
theorem dX11_ways_5 : decode cX11_ways 5 = .ok (.getfield 183, 3) := dk_180 hN_cX11_ways rfl rfl rfl
theorem dX11_ways_8 : decode cX11_ways 8 = .ok (.ifCond .ne 9, 3) := dk_154 hN_cX11_ways rfl rfl rfl
theorem dX11_ways_17 : decode cX11_ways 17 = .ok (.iconst 0, 1) := dk_3 hN_cX11_ways rfl rfl
theorem dX11_ways_18 : decode cX11_ways 18 = .ok (.istore_n 1, 1) := dk_60 hN_cX11_ways rfl rfl
theorem dX11_ways_19 : decode cX11_ways 19 = .ok (.iconst 0, 1) := dk_3 hN_cX11_ways rfl rfl
theorem dX11_ways_20 : decode cX11_ways 20 = .ok (.istore_n 2, 1) := dk_61 hN_cX11_ways rfl rfl
theorem dX11_ways_11 : decode cX11_ways 11 = .ok (.aload_n 0, 1) := dk_42 hN_cX11_ways rfl rfl
theorem dX11_ways_12 : decode cX11_ways 12 = .ok (.iconst 1, 1) := dk_4 hN_cX11_ways rfl rfl
theorem dX11_ways_13 : decode cX11_ways 13 = .ok (.invokevirtual 177, 3) := dk_182 hN_cX11_ways rfl rfl rfl
theorem dX11_ways_16 : decode cX11_ways 16 = .ok (.ireturn, 1) := dk_172 hN_cX11_ways rfl rfl
theorem dX11_ways_21 : decode cX11_ways 21 = .ok (.iload_n 2, 1) := dk_28 hN_cX11_ways rfl rfl
theorem dX11_ways_22 : decode cX11_ways 22 = .ok (.iconst 1, 1) := dk_4 hN_cX11_ways rfl rfl
theorem dX11_ways_23 : decode cX11_ways 23 = .ok (.aload_n 0, 1) := dk_42 hN_cX11_ways rfl rfl
theorem dX11_ways_24 : decode cX11_ways 24 = .ok (.getfield 20, 3) := dk_180 hN_cX11_ways rfl rfl rfl
theorem dX11_ways_27 : decode cX11_ways 27 = .ok (.bipush 51, 2) := dk_16 hN_cX11_ways rfl rfl rfl
theorem dX11_ways_29 : decode cX11_ways 29 = .ok (.iaload, 1) := dk_46 hN_cX11_ways rfl rfl
theorem dX11_ways_30 : decode cX11_ways 30 = .ok (.ishl, 1) := dk_120 hN_cX11_ways rfl rfl
theorem dX11_ways_31 : decode cX11_ways 31 = .ok (.if_icmp .ge 29, 3) := dk_162 hN_cX11_ways rfl rfl rfl
theorem dX11_ways_60 : decode cX11_ways 60 = .ok (.iload_n 1, 1) := dk_27 hN_cX11_ways rfl rfl
theorem dX11_ways_61 : decode cX11_ways 61 = .ok (.ireturn, 1) := dk_172 hN_cX11_ways rfl rfl
theorem dX11_ways_34 : decode cX11_ways 34 = .ok (.iload_n 1, 1) := dk_27 hN_cX11_ways rfl rfl
theorem dX11_ways_35 : decode cX11_ways 35 = .ok (.aload_n 0, 1) := dk_42 hN_cX11_ways rfl rfl
theorem dX11_ways_36 : decode cX11_ways 36 = .ok (.iload_n 2, 1) := dk_28 hN_cX11_ways rfl rfl
theorem dX11_ways_37 : decode cX11_ways 37 = .ok (.invokevirtual 348, 3) := dk_182 hN_cX11_ways rfl rfl rfl
theorem dX11_ways_40 : decode cX11_ways 40 = .ok (.aload_n 0, 1) := dk_42 hN_cX11_ways rfl rfl
theorem dX11_ways_41 : decode cX11_ways 41 = .ok (.invokevirtual 351, 3) := dk_182 hN_cX11_ways rfl rfl rfl
theorem dX11_ways_44 : decode cX11_ways 44 = .ok (.if_icmp .ne 7, 3) := dk_160 hN_cX11_ways rfl rfl rfl
theorem dX11_ways_51 : decode cX11_ways 51 = .ok (.iconst 0, 1) := dk_3 hN_cX11_ways rfl rfl
theorem dX11_ways_52 : decode cX11_ways 52 = .ok (.iadd, 1) := dk_96 hN_cX11_ways rfl rfl
theorem dX11_ways_53 : decode cX11_ways 53 = .ok (.istore_n 1, 1) := dk_60 hN_cX11_ways rfl rfl
theorem dX11_ways_54 : decode cX11_ways 54 = .ok (.iinc 2 1, 3) := dk_132 hN_cX11_ways rfl rfl rfl rfl
theorem dX11_ways_57 : decode cX11_ways 57 = .ok (.goto (-36), 3) := dk_167 hN_cX11_ways rfl rfl rfl
theorem dX11_ways_47 : decode cX11_ways 47 = .ok (.iconst 1, 1) := dk_4 hN_cX11_ways rfl rfl
theorem dX11_ways_48 : decode cX11_ways 48 = .ok (.goto 4, 3) := dk_167 hN_cX11_ways rfl rfl rfl
theorem dX11_forced_0 : decode cX11_forced 0 = .ok (.aload_n 0, 1) := dk_42 hN_cX11_forced rfl rfl
theorem dX11_forced_1 : decode cX11_forced 1 = .ok (.invokevirtual 174, 3) := dk_182 hN_cX11_forced rfl rfl rfl
theorem dX11_forced_4 : decode cX11_forced 4 = .ok (.aload_n 0, 1) := dk_42 hN_cX11_forced rfl rfl
theorem dX11_forced_5 : decode cX11_forced 5 = .ok (.getfield 183, 3) := dk_180 hN_cX11_forced rfl rfl rfl
theorem dX11_forced_8 : decode cX11_forced 8 = .ok (.ifCond .eq 20, 3) := dk_153 hN_cX11_forced rfl rfl rfl
theorem dX11_forced_28 : decode cX11_forced 28 = .ok (.aload_n 0, 1) := dk_42 hN_cX11_forced rfl rfl
theorem dX11_forced_29 : decode cX11_forced 29 = .ok (.iconst 1, 1) := dk_4 hN_cX11_forced rfl rfl
theorem dX11_forced_30 : decode cX11_forced 30 = .ok (.invokevirtual 177, 3) := dk_182 hN_cX11_forced rfl rfl rfl
theorem dX11_forced_33 : decode cX11_forced 33 = .ok (.ireturn, 1) := dk_172 hN_cX11_forced rfl rfl
theorem dX11_forced_11 : decode cX11_forced 11 = .ok (.iload_n 1, 1) := dk_27 hN_cX11_forced rfl rfl
theorem dX11_forced_12 : decode cX11_forced 12 = .ok (.iconst 0, 1) := dk_3 hN_cX11_forced rfl rfl
theorem dX11_forced_13 : decode cX11_forced 13 = .ok (.aload_n 0, 1) := dk_42 hN_cX11_forced rfl rfl
theorem dX11_forced_14 : decode cX11_forced 14 = .ok (.getfield 20, 3) := dk_180 hN_cX11_forced rfl rfl rfl
theorem dX11_forced_17 : decode cX11_forced 17 = .ok (.bipush 51, 2) := dk_16 hN_cX11_forced rfl rfl rfl
theorem dX11_forced_19 : decode cX11_forced 19 = .ok (.iaload, 1) := dk_46 hN_cX11_forced rfl rfl
theorem dX11_forced_20 : decode cX11_forced 20 = .ok (.iconst 1, 1) := dk_4 hN_cX11_forced rfl rfl
theorem dX11_forced_21 : decode cX11_forced 21 = .ok (.isub, 1) := dk_100 hN_cX11_forced rfl rfl
theorem dX11_forced_22 : decode cX11_forced 22 = .ok (.invokestatic 170, 3) := dk_184 hN_cX11_forced rfl rfl rfl
theorem dX11_forced_25 : decode cX11_forced 25 = .ok (.ifCond .ne 9, 3) := dk_154 hN_cX11_forced rfl rfl rfl
theorem dX11_forced_34 : decode cX11_forced 34 = .ok (.iconst 0, 1) := dk_3 hN_cX11_forced rfl rfl
theorem dX11_forced_35 : decode cX11_forced 35 = .ok (.istore_n 2, 1) := dk_61 hN_cX11_forced rfl rfl
theorem dX11_forced_36 : decode cX11_forced 36 = .ok (.iconst 0, 1) := dk_3 hN_cX11_forced rfl rfl
theorem dX11_forced_37 : decode cX11_forced 37 = .ok (.istore_n 3, 1) := dk_62 hN_cX11_forced rfl rfl
theorem dX11_forced_38 : decode cX11_forced 38 = .ok (.iconst 0, 1) := dk_3 hN_cX11_forced rfl rfl
theorem dX11_forced_39 : decode cX11_forced 39 = .ok (.istore 4, 2) := dk_54 hN_cX11_forced rfl rfl rfl
theorem dX11_forced_41 : decode cX11_forced 41 = .ok (.iload 4, 2) := dk_21 hN_cX11_forced rfl rfl rfl
theorem dX11_forced_43 : decode cX11_forced 43 = .ok (.iconst 1, 1) := dk_4 hN_cX11_forced rfl rfl
theorem dX11_forced_44 : decode cX11_forced 44 = .ok (.aload_n 0, 1) := dk_42 hN_cX11_forced rfl rfl
theorem dX11_forced_45 : decode cX11_forced 45 = .ok (.getfield 20, 3) := dk_180 hN_cX11_forced rfl rfl rfl
theorem dX11_forced_48 : decode cX11_forced 48 = .ok (.bipush 51, 2) := dk_16 hN_cX11_forced rfl rfl rfl
theorem dX11_forced_50 : decode cX11_forced 50 = .ok (.iaload, 1) := dk_46 hN_cX11_forced rfl rfl
theorem dX11_forced_51 : decode cX11_forced 51 = .ok (.ishl, 1) := dk_120 hN_cX11_forced rfl rfl
theorem dX11_forced_52 : decode cX11_forced 52 = .ok (.if_icmp .ge 43, 3) := dk_162 hN_cX11_forced rfl rfl rfl
theorem dX11_forced_95 : decode cX11_forced 95 = .ok (.iload_n 2, 1) := dk_28 hN_cX11_forced rfl rfl
theorem dX11_forced_96 : decode cX11_forced 96 = .ok (.iload_n 3, 1) := dk_29 hN_cX11_forced rfl rfl
theorem dX11_forced_97 : decode cX11_forced 97 = .ok (.iadd, 1) := dk_96 hN_cX11_forced rfl rfl
theorem dX11_forced_98 : decode cX11_forced 98 = .ok (.ifCond .ne 10, 3) := dk_154 hN_cX11_forced rfl rfl rfl
theorem dX11_forced_108 : decode cX11_forced 108 = .ok (.iload_n 2, 1) := dk_28 hN_cX11_forced rfl rfl
theorem dX11_forced_109 : decode cX11_forced 109 = .ok (.ifCond .ne 7, 3) := dk_154 hN_cX11_forced rfl rfl rfl
theorem dX11_forced_116 : decode cX11_forced 116 = .ok (.iload_n 3, 1) := dk_29 hN_cX11_forced rfl rfl
theorem dX11_forced_117 : decode cX11_forced 117 = .ok (.ifCond .ne 7, 3) := dk_154 hN_cX11_forced rfl rfl rfl
theorem dX11_forced_124 : decode cX11_forced 124 = .ok (.bipush (-2), 2) := dk_16 hN_cX11_forced rfl rfl rfl
theorem dX11_forced_126 : decode cX11_forced 126 = .ok (.ireturn, 1) := dk_172 hN_cX11_forced rfl rfl
theorem dX11_forced_120 : decode cX11_forced 120 = .ok (.iconst 0, 1) := dk_3 hN_cX11_forced rfl rfl
theorem dX11_forced_121 : decode cX11_forced 121 = .ok (.goto 5, 3) := dk_167 hN_cX11_forced rfl rfl rfl
theorem dX11_forced_112 : decode cX11_forced 112 = .ok (.iconst 1, 1) := dk_4 hN_cX11_forced rfl rfl
theorem dX11_forced_113 : decode cX11_forced 113 = .ok (.goto 13, 3) := dk_167 hN_cX11_forced rfl rfl rfl
theorem dX11_forced_101 : decode cX11_forced 101 = .ok (.aload_n 0, 1) := dk_42 hN_cX11_forced rfl rfl
theorem dX11_forced_102 : decode cX11_forced 102 = .ok (.bipush 6, 2) := dk_16 hN_cX11_forced rfl rfl rfl
theorem dX11_forced_104 : decode cX11_forced 104 = .ok (.invokevirtual 177, 3) := dk_182 hN_cX11_forced rfl rfl rfl
theorem dX11_forced_107 : decode cX11_forced 107 = .ok (.ireturn, 1) := dk_172 hN_cX11_forced rfl rfl
theorem dX11_forced_55 : decode cX11_forced 55 = .ok (.aload_n 0, 1) := dk_42 hN_cX11_forced rfl rfl
theorem dX11_forced_56 : decode cX11_forced 56 = .ok (.iload 4, 2) := dk_21 hN_cX11_forced rfl rfl rfl
theorem dX11_forced_58 : decode cX11_forced 58 = .ok (.invokevirtual 348, 3) := dk_182 hN_cX11_forced rfl rfl rfl
theorem dX11_forced_61 : decode cX11_forced 61 = .ok (.aload_n 0, 1) := dk_42 hN_cX11_forced rfl rfl
theorem dX11_forced_62 : decode cX11_forced 62 = .ok (.invokevirtual 351, 3) := dk_182 hN_cX11_forced rfl rfl rfl
theorem dX11_forced_65 : decode cX11_forced 65 = .ok (.if_icmp .eq 6, 3) := dk_159 hN_cX11_forced rfl rfl rfl
theorem dX11_forced_71 : decode cX11_forced 71 = .ok (.iload 4, 2) := dk_21 hN_cX11_forced rfl rfl rfl
theorem dX11_forced_73 : decode cX11_forced 73 = .ok (.iload_n 1, 1) := dk_27 hN_cX11_forced rfl rfl
theorem dX11_forced_74 : decode cX11_forced 74 = .ok (.invokestatic 162, 3) := dk_184 hN_cX11_forced rfl rfl rfl
theorem dX11_forced_77 : decode cX11_forced 77 = .ok (.ifCond .eq 9, 3) := dk_153 hN_cX11_forced rfl rfl rfl
theorem dX11_forced_86 : decode cX11_forced 86 = .ok (.iinc 2 1, 3) := dk_132 hN_cX11_forced rfl rfl rfl rfl
theorem dX11_forced_89 : decode cX11_forced 89 = .ok (.iinc 4 1, 3) := dk_132 hN_cX11_forced rfl rfl rfl rfl
theorem dX11_forced_92 : decode cX11_forced 92 = .ok (.goto (-51), 3) := dk_167 hN_cX11_forced rfl rfl rfl
theorem dX11_forced_80 : decode cX11_forced 80 = .ok (.iinc 3 1, 3) := dk_132 hN_cX11_forced rfl rfl rfl rfl
theorem dX11_forced_83 : decode cX11_forced 83 = .ok (.goto 6, 3) := dk_167 hN_cX11_forced rfl rfl rfl
theorem dX11_forced_68 : decode cX11_forced 68 = .ok (.goto 21, 3) := dk_167 hN_cX11_forced rfl rfl rfl
theorem dX11_canLines_0 : decode cX11_canLines 0 = .ok (.iconst 0, 1) := dk_3 hN_cX11_canLines rfl rfl
theorem dX11_canLines_1 : decode cX11_canLines 1 = .ok (.istore_n 2, 1) := dk_61 hN_cX11_canLines rfl rfl
theorem dX11_canLines_2 : decode cX11_canLines 2 = .ok (.iconst 0, 1) := dk_3 hN_cX11_canLines rfl rfl
theorem dX11_canLines_3 : decode cX11_canLines 3 = .ok (.istore_n 3, 1) := dk_62 hN_cX11_canLines rfl rfl
theorem dX11_canLines_4 : decode cX11_canLines 4 = .ok (.iload_n 3, 1) := dk_29 hN_cX11_canLines rfl rfl
theorem dX11_canLines_5 : decode cX11_canLines 5 = .ok (.iconst 1, 1) := dk_4 hN_cX11_canLines rfl rfl
theorem dX11_canLines_6 : decode cX11_canLines 6 = .ok (.aload_n 0, 1) := dk_42 hN_cX11_canLines rfl rfl
theorem dX11_canLines_7 : decode cX11_canLines 7 = .ok (.getfield 20, 3) := dk_180 hN_cX11_canLines rfl rfl rfl
theorem dX11_canLines_10 : decode cX11_canLines 10 = .ok (.bipush 51, 2) := dk_16 hN_cX11_canLines rfl rfl rfl
theorem dX11_canLines_12 : decode cX11_canLines 12 = .ok (.iaload, 1) := dk_46 hN_cX11_canLines rfl rfl
theorem dX11_canLines_13 : decode cX11_canLines 13 = .ok (.ishl, 1) := dk_120 hN_cX11_canLines rfl rfl
theorem dX11_canLines_14 : decode cX11_canLines 14 = .ok (.if_icmp .ge 31, 3) := dk_162 hN_cX11_canLines rfl rfl rfl
theorem dX11_canLines_45 : decode cX11_canLines 45 = .ok (.iload_n 2, 1) := dk_28 hN_cX11_canLines rfl rfl
theorem dX11_canLines_46 : decode cX11_canLines 46 = .ok (.ireturn, 1) := dk_172 hN_cX11_canLines rfl rfl
theorem dX11_canLines_17 : decode cX11_canLines 17 = .ok (.iload_n 2, 1) := dk_28 hN_cX11_canLines rfl rfl
theorem dX11_canLines_18 : decode cX11_canLines 18 = .ok (.ifCond .ne 27, 3) := dk_154 hN_cX11_canLines rfl rfl rfl
theorem dX11_canLines_21 : decode cX11_canLines 21 = .ok (.iload_n 1, 1) := dk_27 hN_cX11_canLines rfl rfl
theorem dX11_canLines_22 : decode cX11_canLines 22 = .ok (.aload_n 0, 1) := dk_42 hN_cX11_canLines rfl rfl
theorem dX11_canLines_23 : decode cX11_canLines 23 = .ok (.iload_n 3, 1) := dk_29 hN_cX11_canLines rfl rfl
theorem dX11_canLines_24 : decode cX11_canLines 24 = .ok (.invokevirtual 348, 3) := dk_182 hN_cX11_canLines rfl rfl rfl
theorem dX11_canLines_27 : decode cX11_canLines 27 = .ok (.iconst (-1), 1) := dk_2 hN_cX11_canLines rfl rfl
theorem dX11_canLines_28 : decode cX11_canLines 28 = .ok (.ixor, 1) := dk_130 hN_cX11_canLines rfl rfl
theorem dX11_canLines_29 : decode cX11_canLines 29 = .ok (.iand, 1) := dk_126 hN_cX11_canLines rfl rfl
theorem dX11_canLines_30 : decode cX11_canLines 30 = .ok (.ifCond .ne 7, 3) := dk_154 hN_cX11_canLines rfl rfl rfl
theorem dX11_canLines_37 : decode cX11_canLines 37 = .ok (.iconst 0, 1) := dk_3 hN_cX11_canLines rfl rfl
theorem dX11_canLines_38 : decode cX11_canLines 38 = .ok (.istore_n 2, 1) := dk_61 hN_cX11_canLines rfl rfl
theorem dX11_canLines_39 : decode cX11_canLines 39 = .ok (.iinc 3 1, 3) := dk_132 hN_cX11_canLines rfl rfl rfl rfl
theorem dX11_canLines_42 : decode cX11_canLines 42 = .ok (.goto (-38), 3) := dk_167 hN_cX11_canLines rfl rfl rfl
theorem dX11_canLines_33 : decode cX11_canLines 33 = .ok (.iconst 1, 1) := dk_4 hN_cX11_canLines rfl rfl
theorem dX11_canLines_34 : decode cX11_canLines 34 = .ok (.goto 4, 3) := dk_167 hN_cX11_canLines rfl rfl rfl
theorem dX11_core_0 : decode cX11_core 0 = .ok (.aload_n 0, 1) := dk_42 hN_cX11_core rfl rfl
theorem dX11_core_1 : decode cX11_core 1 = .ok (.invokevirtual 174, 3) := dk_182 hN_cX11_core rfl rfl rfl
theorem dX11_core_4 : decode cX11_core 4 = .ok (.aload_n 0, 1) := dk_42 hN_cX11_core rfl rfl
theorem dX11_core_5 : decode cX11_core 5 = .ok (.getfield 183, 3) := dk_180 hN_cX11_core rfl rfl rfl
theorem dX11_core_8 : decode cX11_core 8 = .ok (.ifCond .ne 9, 3) := dk_154 hN_cX11_core rfl rfl rfl
theorem dX11_core_17 : decode cX11_core 17 = .ok (.bipush (-2), 2) := dk_16 hN_cX11_core rfl rfl rfl
theorem dX11_core_19 : decode cX11_core 19 = .ok (.istore_n 1, 1) := dk_60 hN_cX11_core rfl rfl
theorem dX11_core_20 : decode cX11_core 20 = .ok (.iconst 0, 1) := dk_3 hN_cX11_core rfl rfl
theorem dX11_core_21 : decode cX11_core 21 = .ok (.istore_n 2, 1) := dk_61 hN_cX11_core rfl rfl
theorem dX11_core_11 : decode cX11_core 11 = .ok (.aload_n 0, 1) := dk_42 hN_cX11_core rfl rfl
theorem dX11_core_12 : decode cX11_core 12 = .ok (.iconst 1, 1) := dk_4 hN_cX11_core rfl rfl
