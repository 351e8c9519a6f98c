theorem dX0_climb_32 : decode cX0_climb 32 = .ok (.aload_n 0, 1) := dk_42 hN_cX0_climb rfl rfl
theorem dX0_climb_33 : decode cX0_climb 33 = .ok (.iload 4, 2) := dk_21 hN_cX0_climb rfl rfl rfl
theorem dX0_climb_35 : decode cX0_climb 35 = .ok (.iload_n 3, 1) := dk_29 hN_cX0_climb rfl rfl
theorem dX0_climb_36 : decode cX0_climb 36 = .ok (.iload_n 1, 1) := dk_27 hN_cX0_climb rfl rfl
theorem dX0_climb_37 : decode cX0_climb 37 = .ok (.invokevirtual 107, 3) := dk_182 hN_cX0_climb rfl rfl rfl
theorem dX0_climb_40 : decode cX0_climb 40 = .ok (.iinc 2 1, 3) := dk_132 hN_cX0_climb rfl rfl rfl rfl
theorem dX0_climb_43 : decode cX0_climb 43 = .ok (.goto (-41), 3) := dk_167 hN_cX0_climb rfl rfl rfl
theorem dX0_climb_31 : decode cX0_climb 31 = .ok (.return_, 1) := dk_177 hN_cX0_climb rfl rfl
theorem dX0_climb_18 : decode cX0_climb 18 = .ok (.return_, 1) := dk_177 hN_cX0_climb rfl rfl
theorem dX0_entering_0 : decode cX0_entering 0 = .ok (.iconst (-1), 1) := dk_2 hN_cX0_entering rfl rfl
theorem dX0_entering_1 : decode cX0_entering 1 = .ok (.istore_n 2, 1) := dk_61 hN_cX0_entering rfl rfl
theorem dX0_entering_2 : decode cX0_entering 2 = .ok (.iconst 0, 1) := dk_3 hN_cX0_entering rfl rfl
theorem dX0_entering_3 : decode cX0_entering 3 = .ok (.istore_n 3, 1) := dk_62 hN_cX0_entering rfl rfl
theorem dX0_entering_4 : decode cX0_entering 4 = .ok (.iload_n 3, 1) := dk_29 hN_cX0_entering rfl rfl
theorem dX0_entering_5 : decode cX0_entering 5 = .ok (.aload_n 0, 1) := dk_42 hN_cX0_entering rfl rfl
theorem dX0_entering_6 : decode cX0_entering 6 = .ok (.getfield 56, 3) := dk_180 hN_cX0_entering rfl rfl rfl
theorem dX0_entering_9 : decode cX0_entering 9 = .ok (.if_icmp .ge 75, 3) := dk_162 hN_cX0_entering rfl rfl rfl
theorem dX0_entering_84 : decode cX0_entering 84 = .ok (.iload_n 2, 1) := dk_28 hN_cX0_entering rfl rfl
theorem dX0_entering_85 : decode cX0_entering 85 = .ok (.ireturn, 1) := dk_172 hN_cX0_entering rfl rfl
theorem dX0_entering_12 : decode cX0_entering 12 = .ok (.iload_n 1, 1) := dk_27 hN_cX0_entering rfl rfl
theorem dX0_entering_13 : decode cX0_entering 13 = .ok (.bipush 32, 2) := dk_16 hN_cX0_entering rfl rfl rfl
theorem dX0_entering_15 : decode cX0_entering 15 = .ok (.if_icmp .eq 17, 3) := dk_159 hN_cX0_entering rfl rfl rfl
theorem dX0_entering_32 : decode cX0_entering 32 = .ok (.iconst 1, 1) := dk_4 hN_cX0_entering rfl rfl
theorem dX0_entering_33 : decode cX0_entering 33 = .ok (.goto 4, 3) := dk_167 hN_cX0_entering rfl rfl rfl
theorem dX0_entering_37 : decode cX0_entering 37 = .ok (.istore 4, 2) := dk_54 hN_cX0_entering rfl rfl rfl
theorem dX0_entering_39 : decode cX0_entering 39 = .ok (.iload 4, 2) := dk_21 hN_cX0_entering rfl rfl rfl
theorem dX0_entering_41 : decode cX0_entering 41 = .ok (.ifCond .eq 37, 3) := dk_153 hN_cX0_entering rfl rfl rfl
theorem dX0_entering_44 : decode cX0_entering 44 = .ok (.aload_n 0, 1) := dk_42 hN_cX0_entering rfl rfl
theorem dX0_entering_45 : decode cX0_entering 45 = .ok (.getfield 13, 3) := dk_180 hN_cX0_entering rfl rfl rfl
theorem dX0_entering_48 : decode cX0_entering 48 = .ok (.iload_n 1, 1) := dk_27 hN_cX0_entering rfl rfl
theorem dX0_entering_49 : decode cX0_entering 49 = .ok (.aaload, 1) := dk_50 hN_cX0_entering rfl rfl
theorem dX0_entering_50 : decode cX0_entering 50 = .ok (.iload_n 3, 1) := dk_29 hN_cX0_entering rfl rfl
theorem dX0_entering_51 : decode cX0_entering 51 = .ok (.laload, 1) := dk_47 hN_cX0_entering rfl rfl
theorem dX0_entering_52 : decode cX0_entering 52 = .ok (.lconst 0, 1) := dk_9 hN_cX0_entering rfl rfl
theorem dX0_entering_53 : decode cX0_entering 53 = .ok (.lcmp, 1) := dk_148 hN_cX0_entering rfl rfl
theorem dX0_entering_54 : decode cX0_entering 54 = .ok (.ifCond .ge 24, 3) := dk_156 hN_cX0_entering rfl rfl rfl
theorem dX0_entering_78 : decode cX0_entering 78 = .ok (.iinc 3 1, 3) := dk_132 hN_cX0_entering rfl rfl rfl rfl
theorem dX0_entering_81 : decode cX0_entering 81 = .ok (.goto (-77), 3) := dk_167 hN_cX0_entering rfl rfl rfl
theorem dX0_entering_57 : decode cX0_entering 57 = .ok (.iload_n 2, 1) := dk_28 hN_cX0_entering rfl rfl
theorem dX0_entering_58 : decode cX0_entering 58 = .ok (.ifCond .lt 18, 3) := dk_155 hN_cX0_entering rfl rfl rfl
theorem dX0_entering_76 : decode cX0_entering 76 = .ok (.iload_n 3, 1) := dk_29 hN_cX0_entering rfl rfl
theorem dX0_entering_77 : decode cX0_entering 77 = .ok (.istore_n 2, 1) := dk_61 hN_cX0_entering rfl rfl
theorem dX0_entering_61 : decode cX0_entering 61 = .ok (.aload_n 0, 1) := dk_42 hN_cX0_entering rfl rfl
theorem dX0_entering_62 : decode cX0_entering 62 = .ok (.getfield 20, 3) := dk_180 hN_cX0_entering rfl rfl rfl
theorem dX0_entering_65 : decode cX0_entering 65 = .ok (.iload_n 3, 1) := dk_29 hN_cX0_entering rfl rfl
theorem dX0_entering_66 : decode cX0_entering 66 = .ok (.iaload, 1) := dk_46 hN_cX0_entering rfl rfl
theorem dX0_entering_67 : decode cX0_entering 67 = .ok (.aload_n 0, 1) := dk_42 hN_cX0_entering rfl rfl
theorem dX0_entering_68 : decode cX0_entering 68 = .ok (.getfield 20, 3) := dk_180 hN_cX0_entering rfl rfl rfl
theorem dX0_entering_71 : decode cX0_entering 71 = .ok (.iload_n 2, 1) := dk_28 hN_cX0_entering rfl rfl
theorem dX0_entering_72 : decode cX0_entering 72 = .ok (.iaload, 1) := dk_46 hN_cX0_entering rfl rfl
theorem dX0_entering_73 : decode cX0_entering 73 = .ok (.if_icmp .ge 5, 3) := dk_162 hN_cX0_entering rfl rfl rfl
theorem dX0_entering_18 : decode cX0_entering 18 = .ok (.aload_n 0, 1) := dk_42 hN_cX0_entering rfl rfl
theorem dX0_entering_19 : decode cX0_entering 19 = .ok (.getfield 13, 3) := dk_180 hN_cX0_entering rfl rfl rfl
theorem dX0_entering_22 : decode cX0_entering 22 = .ok (.bipush 32, 2) := dk_16 hN_cX0_entering rfl rfl rfl
theorem dX0_entering_24 : decode cX0_entering 24 = .ok (.aaload, 1) := dk_50 hN_cX0_entering rfl rfl
theorem dX0_entering_25 : decode cX0_entering 25 = .ok (.iload_n 3, 1) := dk_29 hN_cX0_entering rfl rfl
theorem dX0_entering_26 : decode cX0_entering 26 = .ok (.laload, 1) := dk_47 hN_cX0_entering rfl rfl
theorem dX0_entering_27 : decode cX0_entering 27 = .ok (.lconst 0, 1) := dk_9 hN_cX0_entering rfl rfl
theorem dX0_entering_28 : decode cX0_entering 28 = .ok (.lcmp, 1) := dk_148 hN_cX0_entering rfl rfl
theorem dX0_entering_29 : decode cX0_entering 29 = .ok (.ifCond .ne 7, 3) := dk_154 hN_cX0_entering rfl rfl rfl
theorem dX0_entering_36 : decode cX0_entering 36 = .ok (.iconst 0, 1) := dk_3 hN_cX0_entering rfl rfl
theorem dX0_leaving_0 : decode cX0_leaving 0 = .ok (.iconst (-1), 1) := dk_2 hN_cX0_leaving rfl rfl
theorem dX0_leaving_1 : decode cX0_leaving 1 = .ok (.istore_n 2, 1) := dk_61 hN_cX0_leaving rfl rfl
theorem dX0_leaving_2 : decode cX0_leaving 2 = .ok (.iconst 0, 1) := dk_3 hN_cX0_leaving rfl rfl
theorem dX0_leaving_3 : decode cX0_leaving 3 = .ok (.istore_n 3, 1) := dk_62 hN_cX0_leaving rfl rfl
theorem dX0_leaving_4 : decode cX0_leaving 4 = .ok (.iload_n 3, 1) := dk_29 hN_cX0_leaving rfl rfl
theorem dX0_leaving_5 : decode cX0_leaving 5 = .ok (.aload_n 0, 1) := dk_42 hN_cX0_leaving rfl rfl
theorem dX0_leaving_6 : decode cX0_leaving 6 = .ok (.getfield 86, 3) := dk_180 hN_cX0_leaving rfl rfl rfl
theorem dX0_leaving_9 : decode cX0_leaving 9 = .ok (.if_icmp .ge 38, 3) := dk_162 hN_cX0_leaving rfl rfl rfl
theorem dX0_leaving_47 : decode cX0_leaving 47 = .ok (.iload_n 2, 1) := dk_28 hN_cX0_leaving rfl rfl
theorem dX0_leaving_48 : decode cX0_leaving 48 = .ok (.ireturn, 1) := dk_172 hN_cX0_leaving rfl rfl
theorem dX0_leaving_12 : decode cX0_leaving 12 = .ok (.aload_n 0, 1) := dk_42 hN_cX0_leaving rfl rfl
theorem dX0_leaving_13 : decode cX0_leaving 13 = .ok (.getfield 13, 3) := dk_180 hN_cX0_leaving rfl rfl rfl
theorem dX0_leaving_16 : decode cX0_leaving 16 = .ok (.iload_n 3, 1) := dk_29 hN_cX0_leaving rfl rfl
theorem dX0_leaving_17 : decode cX0_leaving 17 = .ok (.aaload, 1) := dk_50 hN_cX0_leaving rfl rfl
theorem dX0_leaving_18 : decode cX0_leaving 18 = .ok (.iload_n 1, 1) := dk_27 hN_cX0_leaving rfl rfl
theorem dX0_leaving_19 : decode cX0_leaving 19 = .ok (.laload, 1) := dk_47 hN_cX0_leaving rfl rfl
theorem dX0_leaving_20 : decode cX0_leaving 20 = .ok (.lconst 0, 1) := dk_9 hN_cX0_leaving rfl rfl
theorem dX0_leaving_21 : decode cX0_leaving 21 = .ok (.lcmp, 1) := dk_148 hN_cX0_leaving rfl rfl
theorem dX0_leaving_22 : decode cX0_leaving 22 = .ok (.ifCond .le 19, 3) := dk_158 hN_cX0_leaving rfl rfl rfl
theorem dX0_leaving_41 : decode cX0_leaving 41 = .ok (.iinc 3 1, 3) := dk_132 hN_cX0_leaving rfl rfl rfl rfl
theorem dX0_leaving_44 : decode cX0_leaving 44 = .ok (.goto (-40), 3) := dk_167 hN_cX0_leaving rfl rfl rfl
theorem dX0_leaving_25 : decode cX0_leaving 25 = .ok (.iload_n 2, 1) := dk_28 hN_cX0_leaving rfl rfl
theorem dX0_leaving_26 : decode cX0_leaving 26 = .ok (.ifCond .lt 13, 3) := dk_155 hN_cX0_leaving rfl rfl rfl
theorem dX0_leaving_39 : decode cX0_leaving 39 = .ok (.iload_n 3, 1) := dk_29 hN_cX0_leaving rfl rfl
theorem dX0_leaving_40 : decode cX0_leaving 40 = .ok (.istore_n 2, 1) := dk_61 hN_cX0_leaving rfl rfl
theorem dX0_leaving_29 : decode cX0_leaving 29 = .ok (.aload_n 0, 1) := dk_42 hN_cX0_leaving rfl rfl
theorem dX0_leaving_30 : decode cX0_leaving 30 = .ok (.iload_n 3, 1) := dk_29 hN_cX0_leaving rfl rfl
theorem dX0_leaving_31 : decode cX0_leaving 31 = .ok (.iload_n 2, 1) := dk_28 hN_cX0_leaving rfl rfl
theorem dX0_leaving_32 : decode cX0_leaving 32 = .ok (.iload_n 1, 1) := dk_27 hN_cX0_leaving rfl rfl
theorem dX0_leaving_33 : decode cX0_leaving 33 = .ok (.invokevirtual 110, 3) := dk_182 hN_cX0_leaving rfl rfl rfl
theorem dX0_leaving_36 : decode cX0_leaving 36 = .ok (.ifCond .eq 5, 3) := dk_153 hN_cX0_leaving rfl rfl rfl
theorem dX0_comesFirst_0 : decode cX0_comesFirst 0 = .ok (.aload_n 0, 1) := dk_42 hN_cX0_comesFirst rfl rfl
theorem dX0_comesFirst_1 : decode cX0_comesFirst 1 = .ok (.getfield 13, 3) := dk_180 hN_cX0_comesFirst rfl rfl rfl
theorem dX0_comesFirst_4 : decode cX0_comesFirst 4 = .ok (.iload_n 1, 1) := dk_27 hN_cX0_comesFirst rfl rfl
theorem dX0_comesFirst_5 : decode cX0_comesFirst 5 = .ok (.aaload, 1) := dk_50 hN_cX0_comesFirst rfl rfl
theorem dX0_comesFirst_6 : decode cX0_comesFirst 6 = .ok (.aload_n 0, 1) := dk_42 hN_cX0_comesFirst rfl rfl
theorem dX0_comesFirst_7 : decode cX0_comesFirst 7 = .ok (.getfield 56, 3) := dk_180 hN_cX0_comesFirst rfl rfl rfl
theorem dX0_comesFirst_10 : decode cX0_comesFirst 10 = .ok (.laload, 1) := dk_47 hN_cX0_comesFirst rfl rfl
theorem dX0_comesFirst_11 : decode cX0_comesFirst 11 = .ok (.aload_n 0, 1) := dk_42 hN_cX0_comesFirst rfl rfl
theorem dX0_comesFirst_12 : decode cX0_comesFirst 12 = .ok (.getfield 13, 3) := dk_180 hN_cX0_comesFirst rfl rfl rfl
theorem dX0_comesFirst_15 : decode cX0_comesFirst 15 = .ok (.iload_n 2, 1) := dk_28 hN_cX0_comesFirst rfl rfl
theorem dX0_comesFirst_16 : decode cX0_comesFirst 16 = .ok (.aaload, 1) := dk_50 hN_cX0_comesFirst rfl rfl
theorem dX0_comesFirst_17 : decode cX0_comesFirst 17 = .ok (.iload_n 3, 1) := dk_29 hN_cX0_comesFirst rfl rfl
theorem dX0_comesFirst_18 : decode cX0_comesFirst 18 = .ok (.laload, 1) := dk_47 hN_cX0_comesFirst rfl rfl
theorem dX0_comesFirst_19 : decode cX0_comesFirst 19 = .ok (.lmul, 1) := dk_105 hN_cX0_comesFirst rfl rfl
theorem dX0_comesFirst_20 : decode cX0_comesFirst 20 = .ok (.lstore 4, 2) := dk_55 hN_cX0_comesFirst rfl rfl rfl
theorem dX0_comesFirst_22 : decode cX0_comesFirst 22 = .ok (.aload_n 0, 1) := dk_42 hN_cX0_comesFirst rfl rfl
theorem dX0_comesFirst_23 : decode cX0_comesFirst 23 = .ok (.getfield 13, 3) := dk_180 hN_cX0_comesFirst rfl rfl rfl
theorem dX0_comesFirst_26 : decode cX0_comesFirst 26 = .ok (.iload_n 2, 1) := dk_28 hN_cX0_comesFirst rfl rfl
theorem dX0_comesFirst_27 : decode cX0_comesFirst 27 = .ok (.aaload, 1) := dk_50 hN_cX0_comesFirst rfl rfl
theorem dX0_comesFirst_28 : decode cX0_comesFirst 28 = .ok (.aload_n 0, 1) := dk_42 hN_cX0_comesFirst rfl rfl
theorem dX0_comesFirst_29 : decode cX0_comesFirst 29 = .ok (.getfield 56, 3) := dk_180 hN_cX0_comesFirst rfl rfl rfl
theorem dX0_comesFirst_32 : decode cX0_comesFirst 32 = .ok (.laload, 1) := dk_47 hN_cX0_comesFirst rfl rfl
theorem dX0_comesFirst_33 : decode cX0_comesFirst 33 = .ok (.aload_n 0, 1) := dk_42 hN_cX0_comesFirst rfl rfl
theorem dX0_comesFirst_34 : decode cX0_comesFirst 34 = .ok (.getfield 13, 3) := dk_180 hN_cX0_comesFirst rfl rfl rfl
theorem dX0_comesFirst_37 : decode cX0_comesFirst 37 = .ok (.iload_n 1, 1) := dk_27 hN_cX0_comesFirst rfl rfl
theorem dX0_comesFirst_38 : decode cX0_comesFirst 38 = .ok (.aaload, 1) := dk_50 hN_cX0_comesFirst rfl rfl
theorem dX0_comesFirst_39 : decode cX0_comesFirst 39 = .ok (.iload_n 3, 1) := dk_29 hN_cX0_comesFirst rfl rfl
theorem dX0_comesFirst_40 : decode cX0_comesFirst 40 = .ok (.laload, 1) := dk_47 hN_cX0_comesFirst rfl rfl
theorem dX0_comesFirst_41 : decode cX0_comesFirst 41 = .ok (.lmul, 1) := dk_105 hN_cX0_comesFirst rfl rfl
theorem dX0_comesFirst_42 : decode cX0_comesFirst 42 = .ok (.lstore 6, 2) := dk_55 hN_cX0_comesFirst rfl rfl rfl
theorem dX0_comesFirst_44 : decode cX0_comesFirst 44 = .ok (.lload 4, 2) := dk_22 hN_cX0_comesFirst rfl rfl rfl
theorem dX0_comesFirst_46 : decode cX0_comesFirst 46 = .ok (.lload 6, 2) := dk_22 hN_cX0_comesFirst rfl rfl rfl
theorem dX0_comesFirst_48 : decode cX0_comesFirst 48 = .ok (.lcmp, 1) := dk_148 hN_cX0_comesFirst rfl rfl
theorem dX0_comesFirst_49 : decode cX0_comesFirst 49 = .ok (.ifCond .lt 26, 3) := dk_155 hN_cX0_comesFirst rfl rfl rfl
theorem dX0_comesFirst_75 : decode cX0_comesFirst 75 = .ok (.iconst 1, 1) := dk_4 hN_cX0_comesFirst rfl rfl
theorem dX0_comesFirst_76 : decode cX0_comesFirst 76 = .ok (.goto 4, 3) := dk_167 hN_cX0_comesFirst rfl rfl rfl
theorem dX0_comesFirst_80 : decode cX0_comesFirst 80 = .ok (.ireturn, 1) := dk_172 hN_cX0_comesFirst rfl rfl
theorem dX0_comesFirst_52 : decode cX0_comesFirst 52 = .ok (.lload 4, 2) := dk_22 hN_cX0_comesFirst rfl rfl rfl
theorem dX0_comesFirst_54 : decode cX0_comesFirst 54 = .ok (.lload 6, 2) := dk_22 hN_cX0_comesFirst rfl rfl rfl
theorem dX0_comesFirst_56 : decode cX0_comesFirst 56 = .ok (.lcmp, 1) := dk_148 hN_cX0_comesFirst rfl rfl
theorem dX0_comesFirst_57 : decode cX0_comesFirst 57 = .ok (.ifCond .ne 22, 3) := dk_154 hN_cX0_comesFirst rfl rfl rfl
theorem dX0_comesFirst_79 : decode cX0_comesFirst 79 = .ok (.iconst 0, 1) := dk_3 hN_cX0_comesFirst rfl rfl
theorem dX0_comesFirst_60 : decode cX0_comesFirst 60 = .ok (.aload_n 0, 1) := dk_42 hN_cX0_comesFirst rfl rfl
theorem dX0_comesFirst_61 : decode cX0_comesFirst 61 = .ok (.getfield 16, 3) := dk_180 hN_cX0_comesFirst rfl rfl rfl
theorem dX0_comesFirst_64 : decode cX0_comesFirst 64 = .ok (.iload_n 1, 1) := dk_27 hN_cX0_comesFirst rfl rfl
theorem dX0_comesFirst_65 : decode cX0_comesFirst 65 = .ok (.iaload, 1) := dk_46 hN_cX0_comesFirst rfl rfl
theorem dX0_comesFirst_66 : decode cX0_comesFirst 66 = .ok (.aload_n 0, 1) := dk_42 hN_cX0_comesFirst rfl rfl
theorem dX0_comesFirst_67 : decode cX0_comesFirst 67 = .ok (.getfield 16, 3) := dk_180 hN_cX0_comesFirst rfl rfl rfl
theorem dX0_comesFirst_70 : decode cX0_comesFirst 70 = .ok (.iload_n 2, 1) := dk_28 hN_cX0_comesFirst rfl rfl
theorem dX0_comesFirst_71 : decode cX0_comesFirst 71 = .ok (.iaload, 1) := dk_46 hN_cX0_comesFirst rfl rfl
theorem dX0_comesFirst_72 : decode cX0_comesFirst 72 = .ok (.if_icmp .ge 7, 3) := dk_162 hN_cX0_comesFirst rfl rfl rfl
theorem dX0_pivot_0 : decode cX0_pivot 0 = .ok (.aload_n 0, 1) := dk_42 hN_cX0_pivot rfl rfl
theorem dX0_pivot_1 : decode cX0_pivot 1 = .ok (.getfield 13, 3) := dk_180 hN_cX0_pivot rfl rfl rfl
theorem dX0_pivot_4 : decode cX0_pivot 4 = .ok (.iload_n 1, 1) := dk_27 hN_cX0_pivot rfl rfl
theorem dX0_pivot_5 : decode cX0_pivot 5 = .ok (.aaload, 1) := dk_50 hN_cX0_pivot rfl rfl
theorem dX0_pivot_6 : decode cX0_pivot 6 = .ok (.iload_n 2, 1) := dk_28 hN_cX0_pivot rfl rfl
theorem dX0_pivot_7 : decode cX0_pivot 7 = .ok (.laload, 1) := dk_47 hN_cX0_pivot rfl rfl
theorem dX0_pivot_8 : decode cX0_pivot 8 = .ok (.lstore 4, 2) := dk_55 hN_cX0_pivot rfl rfl rfl
theorem dX0_pivot_10 : decode cX0_pivot 10 = .ok (.lload 4, 2) := dk_22 hN_cX0_pivot rfl rfl rfl
theorem dX0_pivot_12 : decode cX0_pivot 12 = .ok (.lconst 0, 1) := dk_9 hN_cX0_pivot rfl rfl
theorem dX0_pivot_13 : decode cX0_pivot 13 = .ok (.lcmp, 1) := dk_148 hN_cX0_pivot rfl rfl
theorem dX0_pivot_14 : decode cX0_pivot 14 = .ok (.ifCond .eq 12, 3) := dk_153 hN_cX0_pivot rfl rfl rfl
theorem dX0_pivot_26 : decode cX0_pivot 26 = .ok (.return_, 1) := dk_177 hN_cX0_pivot rfl rfl
theorem dX0_pivot_17 : decode cX0_pivot 17 = .ok (.aload_n 0, 1) := dk_42 hN_cX0_pivot rfl rfl
theorem dX0_pivot_18 : decode cX0_pivot 18 = .ok (.getfield 23, 3) := dk_180 hN_cX0_pivot rfl rfl rfl
theorem dX0_pivot_21 : decode cX0_pivot 21 = .ok (.lconst 0, 1) := dk_9 hN_cX0_pivot rfl rfl
theorem dX0_pivot_22 : decode cX0_pivot 22 = .ok (.lcmp, 1) := dk_148 hN_cX0_pivot rfl rfl
theorem dX0_pivot_23 : decode cX0_pivot 23 = .ok (.ifCond .ne 4, 3) := dk_154 hN_cX0_pivot rfl rfl rfl
theorem dX0_pivot_27 : decode cX0_pivot 27 = .ok (.iconst 0, 1) := dk_3 hN_cX0_pivot rfl rfl
theorem dX0_pivot_28 : decode cX0_pivot 28 = .ok (.istore 6, 2) := dk_54 hN_cX0_pivot rfl rfl rfl
theorem dX0_pivot_30 : decode cX0_pivot 30 = .ok (.iload 6, 2) := dk_21 hN_cX0_pivot rfl rfl rfl
theorem dX0_pivot_32 : decode cX0_pivot 32 = .ok (.aload_n 0, 1) := dk_42 hN_cX0_pivot rfl rfl
theorem dX0_pivot_33 : decode cX0_pivot 33 = .ok (.getfield 86, 3) := dk_180 hN_cX0_pivot rfl rfl rfl
theorem dX0_pivot_36 : decode cX0_pivot 36 = .ok (.if_icmp .ge 23, 3) := dk_162 hN_cX0_pivot rfl rfl rfl
theorem dX0_pivot_59 : decode cX0_pivot 59 = .ok (.aload_n 0, 1) := dk_42 hN_cX0_pivot rfl rfl
theorem dX0_pivot_60 : decode cX0_pivot 60 = .ok (.bipush 32, 2) := dk_16 hN_cX0_pivot rfl rfl rfl
theorem dX0_pivot_62 : decode cX0_pivot 62 = .ok (.iload_n 1, 1) := dk_27 hN_cX0_pivot rfl rfl
theorem dX0_pivot_63 : decode cX0_pivot 63 = .ok (.iload_n 2, 1) := dk_28 hN_cX0_pivot rfl rfl
theorem dX0_pivot_64 : decode cX0_pivot 64 = .ok (.invokevirtual 113, 3) := dk_182 hN_cX0_pivot rfl rfl rfl
theorem dX0_pivot_67 : decode cX0_pivot 67 = .ok (.iload_n 3, 1) := dk_29 hN_cX0_pivot rfl rfl
theorem dX0_pivot_68 : decode cX0_pivot 68 = .ok (.bipush 33, 2) := dk_16 hN_cX0_pivot rfl rfl rfl
theorem dX0_pivot_70 : decode cX0_pivot 70 = .ok (.if_icmp .ne 11, 3) := dk_160 hN_cX0_pivot rfl rfl rfl
theorem dX0_pivot_81 : decode cX0_pivot 81 = .ok (.aload_n 0, 1) := dk_42 hN_cX0_pivot rfl rfl
theorem dX0_pivot_82 : decode cX0_pivot 82 = .ok (.getfield 13, 3) := dk_180 hN_cX0_pivot rfl rfl rfl
theorem dX0_pivot_85 : decode cX0_pivot 85 = .ok (.iload_n 1, 1) := dk_27 hN_cX0_pivot rfl rfl
theorem dX0_pivot_86 : decode cX0_pivot 86 = .ok (.aaload, 1) := dk_50 hN_cX0_pivot rfl rfl
theorem dX0_pivot_87 : decode cX0_pivot 87 = .ok (.iload_n 2, 1) := dk_28 hN_cX0_pivot rfl rfl
theorem dX0_pivot_88 : decode cX0_pivot 88 = .ok (.aload_n 0, 1) := dk_42 hN_cX0_pivot rfl rfl
theorem dX0_pivot_89 : decode cX0_pivot 89 = .ok (.getfield 23, 3) := dk_180 hN_cX0_pivot rfl rfl rfl
theorem dX0_pivot_92 : decode cX0_pivot 92 = .ok (.lastore, 1) := dk_80 hN_cX0_pivot rfl rfl
theorem dX0_pivot_93 : decode cX0_pivot 93 = .ok (.aload_n 0, 1) := dk_42 hN_cX0_pivot rfl rfl
theorem dX0_pivot_94 : decode cX0_pivot 94 = .ok (.lload 4, 2) := dk_22 hN_cX0_pivot rfl rfl rfl
theorem dX0_pivot_96 : decode cX0_pivot 96 = .ok (.putfield 23, 3) := dk_181 hN_cX0_pivot rfl rfl rfl
theorem dX0_pivot_99 : decode cX0_pivot 99 = .ok (.aload_n 0, 1) := dk_42 hN_cX0_pivot rfl rfl
theorem dX0_pivot_100 : decode cX0_pivot 100 = .ok (.getfield 16, 3) := dk_180 hN_cX0_pivot rfl rfl rfl
theorem dX0_pivot_103 : decode cX0_pivot 103 = .ok (.iload_n 1, 1) := dk_27 hN_cX0_pivot rfl rfl
theorem dX0_pivot_104 : decode cX0_pivot 104 = .ok (.iaload, 1) := dk_46 hN_cX0_pivot rfl rfl
theorem dX0_pivot_105 : decode cX0_pivot 105 = .ok (.istore 6, 2) := dk_54 hN_cX0_pivot rfl rfl rfl
theorem dX0_pivot_107 : decode cX0_pivot 107 = .ok (.aload_n 0, 1) := dk_42 hN_cX0_pivot rfl rfl
theorem dX0_pivot_108 : decode cX0_pivot 108 = .ok (.getfield 16, 3) := dk_180 hN_cX0_pivot rfl rfl rfl
theorem dX0_pivot_111 : decode cX0_pivot 111 = .ok (.iload_n 1, 1) := dk_27 hN_cX0_pivot rfl rfl
theorem dX0_pivot_112 : decode cX0_pivot 112 = .ok (.aload_n 0, 1) := dk_42 hN_cX0_pivot rfl rfl
theorem dX0_pivot_113 : decode cX0_pivot 113 = .ok (.getfield 20, 3) := dk_180 hN_cX0_pivot rfl rfl rfl
theorem dX0_pivot_116 : decode cX0_pivot 116 = .ok (.iload_n 2, 1) := dk_28 hN_cX0_pivot rfl rfl
theorem dX0_pivot_117 : decode cX0_pivot 117 = .ok (.iaload, 1) := dk_46 hN_cX0_pivot rfl rfl
theorem dX0_pivot_118 : decode cX0_pivot 118 = .ok (.iastore, 1) := dk_79 hN_cX0_pivot rfl rfl
theorem dX0_pivot_119 : decode cX0_pivot 119 = .ok (.aload_n 0, 1) := dk_42 hN_cX0_pivot rfl rfl
theorem dX0_pivot_120 : decode cX0_pivot 120 = .ok (.getfield 20, 3) := dk_180 hN_cX0_pivot rfl rfl rfl
theorem dX0_pivot_123 : decode cX0_pivot 123 = .ok (.iload_n 2, 1) := dk_28 hN_cX0_pivot rfl rfl
theorem dX0_pivot_124 : decode cX0_pivot 124 = .ok (.iload 6, 2) := dk_21 hN_cX0_pivot rfl rfl rfl
theorem dX0_pivot_126 : decode cX0_pivot 126 = .ok (.iastore, 1) := dk_79 hN_cX0_pivot rfl rfl
theorem dX0_pivot_127 : decode cX0_pivot 127 = .ok (.return_, 1) := dk_177 hN_cX0_pivot rfl rfl
theorem dX0_pivot_73 : decode cX0_pivot 73 = .ok (.aload_n 0, 1) := dk_42 hN_cX0_pivot rfl rfl
theorem dX0_pivot_74 : decode cX0_pivot 74 = .ok (.bipush 33, 2) := dk_16 hN_cX0_pivot rfl rfl rfl
theorem dX0_pivot_76 : decode cX0_pivot 76 = .ok (.iload_n 1, 1) := dk_27 hN_cX0_pivot rfl rfl
theorem dX0_pivot_77 : decode cX0_pivot 77 = .ok (.iload_n 2, 1) := dk_28 hN_cX0_pivot rfl rfl
theorem dX0_pivot_78 : decode cX0_pivot 78 = .ok (.invokevirtual 113, 3) := dk_182 hN_cX0_pivot rfl rfl rfl
theorem dX0_pivot_39 : decode cX0_pivot 39 = .ok (.iload 6, 2) := dk_21 hN_cX0_pivot rfl rfl rfl
theorem dX0_pivot_41 : decode cX0_pivot 41 = .ok (.iload_n 1, 1) := dk_27 hN_cX0_pivot rfl rfl
theorem dX0_pivot_42 : decode cX0_pivot 42 = .ok (.if_icmp .eq 11, 3) := dk_159 hN_cX0_pivot rfl rfl rfl
theorem dX0_pivot_53 : decode cX0_pivot 53 = .ok (.iinc 6 1, 3) := dk_132 hN_cX0_pivot rfl rfl rfl rfl
theorem dX0_pivot_56 : decode cX0_pivot 56 = .ok (.goto (-26), 3) := dk_167 hN_cX0_pivot rfl rfl rfl
theorem dX0_pivot_45 : decode cX0_pivot 45 = .ok (.aload_n 0, 1) := dk_42 hN_cX0_pivot rfl rfl
theorem dX0_pivot_46 : decode cX0_pivot 46 = .ok (.iload 6, 2) := dk_21 hN_cX0_pivot rfl rfl rfl
theorem dX0_pivot_48 : decode cX0_pivot 48 = .ok (.iload_n 1, 1) := dk_27 hN_cX0_pivot rfl rfl
theorem dX0_pivot_49 : decode cX0_pivot 49 = .ok (.iload_n 2, 1) := dk_28 hN_cX0_pivot rfl rfl
theorem dX0_pivot_50 : decode cX0_pivot 50 = .ok (.invokevirtual 113, 3) := dk_182 hN_cX0_pivot rfl rfl rfl
theorem dX0_clearFrom_0 : decode cX0_clearFrom 0 = .ok (.aload_n 0, 1) := dk_42 hN_cX0_clearFrom rfl rfl
theorem dX0_clearFrom_1 : decode cX0_clearFrom 1 = .ok (.getfield 13, 3) := dk_180 hN_cX0_clearFrom rfl rfl rfl
theorem dX0_clearFrom_4 : decode cX0_clearFrom 4 = .ok (.iload_n 1, 1) := dk_27 hN_cX0_clearFrom rfl rfl
theorem dX0_clearFrom_5 : decode cX0_clearFrom 5 = .ok (.aaload, 1) := dk_50 hN_cX0_clearFrom rfl rfl
theorem dX0_clearFrom_6 : decode cX0_clearFrom 6 = .ok (.astore 4, 2) := dk_58 hN_cX0_clearFrom rfl rfl rfl
theorem dX0_clearFrom_8 : decode cX0_clearFrom 8 = .ok (.aload_n 0, 1) := dk_42 hN_cX0_clearFrom rfl rfl
theorem dX0_clearFrom_9 : decode cX0_clearFrom 9 = .ok (.getfield 13, 3) := dk_180 hN_cX0_clearFrom rfl rfl rfl
theorem dX0_clearFrom_12 : decode cX0_clearFrom 12 = .ok (.iload_n 2, 1) := dk_28 hN_cX0_clearFrom rfl rfl
theorem dX0_clearFrom_13 : decode cX0_clearFrom 13 = .ok (.aaload, 1) := dk_50 hN_cX0_clearFrom rfl rfl
theorem dX0_clearFrom_14 : decode cX0_clearFrom 14 = .ok (.astore 5, 2) := dk_58 hN_cX0_clearFrom rfl rfl rfl
theorem dX0_clearFrom_16 : decode cX0_clearFrom 16 = .ok (.aload 5, 2) := dk_25 hN_cX0_clearFrom rfl rfl rfl
theorem dX0_clearFrom_18 : decode cX0_clearFrom 18 = .ok (.iload_n 3, 1) := dk_29 hN_cX0_clearFrom rfl rfl
theorem dX0_clearFrom_19 : decode cX0_clearFrom 19 = .ok (.laload, 1) := dk_47 hN_cX0_clearFrom rfl rfl
theorem dX0_clearFrom_20 : decode cX0_clearFrom 20 = .ok (.lstore 6, 2) := dk_55 hN_cX0_clearFrom rfl rfl rfl
theorem dX0_clearFrom_22 : decode cX0_clearFrom 22 = .ok (.aload 4, 2) := dk_25 hN_cX0_clearFrom rfl rfl rfl
theorem dX0_clearFrom_24 : decode cX0_clearFrom 24 = .ok (.iload_n 3, 1) := dk_29 hN_cX0_clearFrom rfl rfl
theorem dX0_clearFrom_25 : decode cX0_clearFrom 25 = .ok (.laload, 1) := dk_47 hN_cX0_clearFrom rfl rfl
theorem dX0_clearFrom_26 : decode cX0_clearFrom 26 = .ok (.lstore 8, 2) := dk_55 hN_cX0_clearFrom rfl rfl rfl
theorem dX0_clearFrom_28 : decode cX0_clearFrom 28 = .ok (.lload 8, 2) := dk_22 hN_cX0_clearFrom rfl rfl rfl
theorem dX0_clearFrom_30 : decode cX0_clearFrom 30 = .ok (.lconst 0, 1) := dk_9 hN_cX0_clearFrom rfl rfl
theorem dX0_clearFrom_31 : decode cX0_clearFrom 31 = .ok (.lcmp, 1) := dk_148 hN_cX0_clearFrom rfl rfl
theorem dX0_clearFrom_32 : decode cX0_clearFrom 32 = .ok (.ifCond .ne 14, 3) := dk_154 hN_cX0_clearFrom rfl rfl rfl
theorem dX0_clearFrom_46 : decode cX0_clearFrom 46 = .ok (.iconst 0, 1) := dk_3 hN_cX0_clearFrom rfl rfl
theorem dX0_clearFrom_47 : decode cX0_clearFrom 47 = .ok (.istore 10, 2) := dk_54 hN_cX0_clearFrom rfl rfl rfl
theorem dX0_clearFrom_35 : decode cX0_clearFrom 35 = .ok (.lload 6, 2) := dk_22 hN_cX0_clearFrom rfl rfl rfl
theorem dX0_clearFrom_37 : decode cX0_clearFrom 37 = .ok (.aload_n 0, 1) := dk_42 hN_cX0_clearFrom rfl rfl
theorem dX0_clearFrom_38 : decode cX0_clearFrom 38 = .ok (.getfield 23, 3) := dk_180 hN_cX0_clearFrom rfl rfl rfl
theorem dX0_clearFrom_41 : decode cX0_clearFrom 41 = .ok (.lcmp, 1) := dk_148 hN_cX0_clearFrom rfl rfl
theorem dX0_clearFrom_42 : decode cX0_clearFrom 42 = .ok (.ifCond .ne 4, 3) := dk_154 hN_cX0_clearFrom rfl rfl rfl
theorem dX0_clearFrom_45 : decode cX0_clearFrom 45 = .ok (.return_, 1) := dk_177 hN_cX0_clearFrom rfl rfl
theorem dX0_clearFrom_49 : decode cX0_clearFrom 49 = .ok (.iload 10, 2) := dk_21 hN_cX0_clearFrom rfl rfl rfl
theorem dX0_clearFrom_51 : decode cX0_clearFrom 51 = .ok (.aload_n 0, 1) := dk_42 hN_cX0_clearFrom rfl rfl
theorem dX0_clearFrom_52 : decode cX0_clearFrom 52 = .ok (.getfield 56, 3) := dk_180 hN_cX0_clearFrom rfl rfl rfl
theorem dX0_clearFrom_55 : decode cX0_clearFrom 55 = .ok (.if_icmp .gt 42, 3) := dk_163 hN_cX0_clearFrom rfl rfl rfl
theorem dX0_clearFrom_97 : decode cX0_clearFrom 97 = .ok (.aload 4, 2) := dk_25 hN_cX0_clearFrom rfl rfl rfl
theorem dX0_clearFrom_99 : decode cX0_clearFrom 99 = .ok (.iload_n 3, 1) := dk_29 hN_cX0_clearFrom rfl rfl
theorem dX0_clearFrom_100 : decode cX0_clearFrom 100 = .ok (.lload 8, 2) := dk_22 hN_cX0_clearFrom rfl rfl rfl
theorem dX0_clearFrom_102 : decode cX0_clearFrom 102 = .ok (.lneg, 1) := dk_117 hN_cX0_clearFrom rfl rfl
theorem dX0_clearFrom_103 : decode cX0_clearFrom 103 = .ok (.lastore, 1) := dk_80 hN_cX0_clearFrom rfl rfl
theorem dX0_clearFrom_104 : decode cX0_clearFrom 104 = .ok (.return_, 1) := dk_177 hN_cX0_clearFrom rfl rfl
theorem dX0_clearFrom_58 : decode cX0_clearFrom 58 = .ok (.iload 10, 2) := dk_21 hN_cX0_clearFrom rfl rfl rfl
theorem dX0_clearFrom_60 : decode cX0_clearFrom 60 = .ok (.iload_n 3, 1) := dk_29 hN_cX0_clearFrom rfl rfl
theorem dX0_clearFrom_61 : decode cX0_clearFrom 61 = .ok (.if_icmp .eq 30, 3) := dk_159 hN_cX0_clearFrom rfl rfl rfl
theorem dX0_clearFrom_91 : decode cX0_clearFrom 91 = .ok (.iinc 10 1, 3) := dk_132 hN_cX0_clearFrom rfl rfl rfl rfl
theorem dX0_clearFrom_94 : decode cX0_clearFrom 94 = .ok (.goto (-45), 3) := dk_167 hN_cX0_clearFrom rfl rfl rfl
theorem dX0_clearFrom_64 : decode cX0_clearFrom 64 = .ok (.aload 4, 2) := dk_25 hN_cX0_clearFrom rfl rfl rfl
theorem dX0_clearFrom_66 : decode cX0_clearFrom 66 = .ok (.iload 10, 2) := dk_21 hN_cX0_clearFrom rfl rfl rfl
theorem dX0_clearFrom_68 : decode cX0_clearFrom 68 = .ok (.aload 4, 2) := dk_25 hN_cX0_clearFrom rfl rfl rfl
theorem dX0_clearFrom_70 : decode cX0_clearFrom 70 = .ok (.iload 10, 2) := dk_21 hN_cX0_clearFrom rfl rfl rfl
theorem dX0_clearFrom_72 : decode cX0_clearFrom 72 = .ok (.laload, 1) := dk_47 hN_cX0_clearFrom rfl rfl
theorem dX0_clearFrom_73 : decode cX0_clearFrom 73 = .ok (.lload 6, 2) := dk_22 hN_cX0_clearFrom rfl rfl rfl
theorem dX0_clearFrom_75 : decode cX0_clearFrom 75 = .ok (.lmul, 1) := dk_105 hN_cX0_clearFrom rfl rfl
theorem dX0_clearFrom_76 : decode cX0_clearFrom 76 = .ok (.lload 8, 2) := dk_22 hN_cX0_clearFrom rfl rfl rfl
theorem dX0_clearFrom_78 : decode cX0_clearFrom 78 = .ok (.aload 5, 2) := dk_25 hN_cX0_clearFrom rfl rfl rfl
theorem dX0_clearFrom_80 : decode cX0_clearFrom 80 = .ok (.iload 10, 2) := dk_21 hN_cX0_clearFrom rfl rfl rfl
theorem dX0_clearFrom_82 : decode cX0_clearFrom 82 = .ok (.laload, 1) := dk_47 hN_cX0_clearFrom rfl rfl
theorem dX0_clearFrom_83 : decode cX0_clearFrom 83 = .ok (.lmul, 1) := dk_105 hN_cX0_clearFrom rfl rfl
theorem dX0_clearFrom_84 : decode cX0_clearFrom 84 = .ok (.lsub, 1) := dk_101 hN_cX0_clearFrom rfl rfl
theorem dX0_clearFrom_85 : decode cX0_clearFrom 85 = .ok (.aload_n 0, 1) := dk_42 hN_cX0_clearFrom rfl rfl
theorem dX0_clearFrom_86 : decode cX0_clearFrom 86 = .ok (.getfield 23, 3) := dk_180 hN_cX0_clearFrom rfl rfl rfl
theorem dX0_clearFrom_89 : decode cX0_clearFrom 89 = .ok (.ldiv, 1) := dk_109 hN_cX0_clearFrom rfl rfl
theorem dX0_clearFrom_90 : decode cX0_clearFrom 90 = .ok (.lastore, 1) := dk_80 hN_cX0_clearFrom rfl rfl
theorem dX6_read_0 : decode cX6_read 0 = .ok (.aload_n 0, 1) := dk_42 hN_cX6_read rfl rfl
theorem dX6_read_1 : decode cX6_read 1 = .ok (.getfield 12, 3) := dk_180 hN_cX6_read rfl rfl rfl
theorem dX6_read_4 : decode cX6_read 4 = .ok (.invokevirtual 29, 3) := dk_182 hN_cX6_read rfl rfl rfl
theorem dX6_read_7 : decode cX6_read 7 = .ok (.aload_n 0, 1) := dk_42 hN_cX6_read rfl rfl
theorem dX6_read_8 : decode cX6_read 8 = .ok (.iconst 0, 1) := dk_3 hN_cX6_read rfl rfl
theorem dX6_read_9 : decode cX6_read 9 = .ok (.putfield 32, 3) := dk_181 hN_cX6_read rfl rfl rfl
theorem dX6_read_12 : decode cX6_read 12 = .ok (.aload_n 0, 1) := dk_42 hN_cX6_read rfl rfl
theorem dX6_read_13 : decode cX6_read 13 = .ok (.iconst 0, 1) := dk_3 hN_cX6_read rfl rfl
theorem dX6_read_14 : decode cX6_read 14 = .ok (.putfield 36, 3) := dk_181 hN_cX6_read rfl rfl rfl
theorem dX6_read_17 : decode cX6_read 17 = .ok (.aload_n 0, 1) := dk_42 hN_cX6_read rfl rfl
theorem dX6_read_18 : decode cX6_read 18 = .ok (.iload_n 1, 1) := dk_27 hN_cX6_read rfl rfl
theorem dX6_read_19 : decode cX6_read 19 = .ok (.aload_n 0, 1) := dk_42 hN_cX6_read rfl rfl
theorem dX6_read_20 : decode cX6_read 20 = .ok (.getfield 25, 3) := dk_180 hN_cX6_read rfl rfl rfl
theorem dX6_read_23 : decode cX6_read 23 = .ok (.arraylength, 1) := dk_190 hN_cX6_read rfl rfl
theorem dX6_read_24 : decode cX6_read 24 = .ok (.invokestatic 39, 3) := dk_184 hN_cX6_read rfl rfl rfl
theorem dX6_read_27 : decode cX6_read 27 = .ok (.putfield 45, 3) := dk_181 hN_cX6_read rfl rfl rfl
theorem dX6_read_30 : decode cX6_read 30 = .ok (.aload_n 0, 1) := dk_42 hN_cX6_read rfl rfl
theorem dX6_read_31 : decode cX6_read 31 = .ok (.iconst 0, 1) := dk_3 hN_cX6_read rfl rfl
theorem dX6_read_32 : decode cX6_read 32 = .ok (.putfield 48, 3) := dk_181 hN_cX6_read rfl rfl rfl
theorem dX6_read_35 : decode cX6_read 35 = .ok (.aload_n 0, 1) := dk_42 hN_cX6_read rfl rfl
theorem dX6_read_36 : decode cX6_read 36 = .ok (.invokevirtual 51, 3) := dk_182 hN_cX6_read rfl rfl rfl
theorem dX6_read_39 : decode cX6_read 39 = .ok (.iconst 1, 1) := dk_4 hN_cX6_read rfl rfl
theorem dX6_read_40 : decode cX6_read 40 = .ok (.istore_n 2, 1) := dk_61 hN_cX6_read rfl rfl
theorem dX6_read_41 : decode cX6_read 41 = .ok (.iconst 0, 1) := dk_3 hN_cX6_read rfl rfl
theorem dX6_read_42 : decode cX6_read 42 = .ok (.istore_n 3, 1) := dk_62 hN_cX6_read rfl rfl
theorem dX6_read_43 : decode cX6_read 43 = .ok (.iload_n 2, 1) := dk_28 hN_cX6_read rfl rfl
theorem dX6_read_44 : decode cX6_read 44 = .ok (.ifCond .eq 37, 3) := dk_153 hN_cX6_read rfl rfl rfl
theorem dX6_read_81 : decode cX6_read 81 = .ok (.return_, 1) := dk_177 hN_cX6_read rfl rfl
theorem dX6_read_47 : decode cX6_read 47 = .ok (.iload_n 3, 1) := dk_29 hN_cX6_read rfl rfl
theorem dX6_read_48 : decode cX6_read 48 = .ok (.aload_n 0, 1) := dk_42 hN_cX6_read rfl rfl
theorem dX6_read_49 : decode cX6_read 49 = .ok (.getfield 45, 3) := dk_180 hN_cX6_read rfl rfl rfl
theorem dX6_read_52 : decode cX6_read 52 = .ok (.if_icmp .gt 29, 3) := dk_163 hN_cX6_read rfl rfl rfl
theorem dX6_read_55 : decode cX6_read 55 = .ok (.aload_n 0, 1) := dk_42 hN_cX6_read rfl rfl
theorem dX6_read_56 : decode cX6_read 56 = .ok (.invokevirtual 54, 3) := dk_182 hN_cX6_read rfl rfl rfl
theorem dX6_read_59 : decode cX6_read 59 = .ok (.ifCond .eq 14, 3) := dk_153 hN_cX6_read rfl rfl rfl
theorem dX6_read_73 : decode cX6_read 73 = .ok (.iconst 0, 1) := dk_3 hN_cX6_read rfl rfl
theorem dX6_read_74 : decode cX6_read 74 = .ok (.istore_n 2, 1) := dk_61 hN_cX6_read rfl rfl
theorem dX6_read_75 : decode cX6_read 75 = .ok (.iinc 3 1, 3) := dk_132 hN_cX6_read rfl rfl rfl rfl
theorem dX6_read_78 : decode cX6_read 78 = .ok (.goto (-35), 3) := dk_167 hN_cX6_read rfl rfl rfl
theorem dX6_read_62 : decode cX6_read 62 = .ok (.aload_n 0, 1) := dk_42 hN_cX6_read rfl rfl
theorem dX6_read_63 : decode cX6_read 63 = .ok (.invokevirtual 58, 3) := dk_182 hN_cX6_read rfl rfl rfl
theorem dX6_read_66 : decode cX6_read 66 = .ok (.ifCond .eq 7, 3) := dk_153 hN_cX6_read rfl rfl rfl
theorem dX6_read_69 : decode cX6_read 69 = .ok (.iconst 1, 1) := dk_4 hN_cX6_read rfl rfl
theorem dX6_read_70 : decode cX6_read 70 = .ok (.goto 4, 3) := dk_167 hN_cX6_read rfl rfl rfl
theorem dX6_goesOn_0 : decode cX6_goesOn 0 = .ok (.aload_n 0, 1) := dk_42 hN_cX6_goesOn rfl rfl
theorem dX6_goesOn_1 : decode cX6_goesOn 1 = .ok (.getfield 61, 3) := dk_180 hN_cX6_goesOn rfl rfl rfl
theorem dX6_goesOn_4 : decode cX6_goesOn 4 = .ok (.ifCond .ne 32, 3) := dk_154 hN_cX6_goesOn rfl rfl rfl
theorem dX6_goesOn_36 : decode cX6_goesOn 36 = .ok (.aload_n 0, 1) := dk_42 hN_cX6_goesOn rfl rfl
theorem dX6_goesOn_37 : decode cX6_goesOn 37 = .ok (.bipush 59, 2) := dk_16 hN_cX6_goesOn rfl rfl rfl
theorem dX6_goesOn_39 : decode cX6_goesOn 39 = .ok (.invokevirtual 74, 3) := dk_182 hN_cX6_goesOn rfl rfl rfl
theorem dX6_goesOn_42 : decode cX6_goesOn 42 = .ok (.ireturn, 1) := dk_172 hN_cX6_goesOn rfl rfl
theorem dX6_goesOn_7 : decode cX6_goesOn 7 = .ok (.aload_n 0, 1) := dk_42 hN_cX6_goesOn rfl rfl
theorem dX6_goesOn_8 : decode cX6_goesOn 8 = .ok (.getfield 12, 3) := dk_180 hN_cX6_goesOn rfl rfl rfl
theorem dX6_goesOn_11 : decode cX6_goesOn 11 = .ok (.getfield 64, 3) := dk_180 hN_cX6_goesOn rfl rfl rfl
theorem dX6_goesOn_14 : decode cX6_goesOn 14 = .ok (.ifCond .eq 13, 3) := dk_153 hN_cX6_goesOn rfl rfl rfl
theorem dX6_goesOn_27 : decode cX6_goesOn 27 = .ok (.aload_n 0, 1) := dk_42 hN_cX6_goesOn rfl rfl
theorem dX6_goesOn_28 : decode cX6_goesOn 28 = .ok (.bipush 6, 2) := dk_16 hN_cX6_goesOn rfl rfl rfl
theorem dX6_goesOn_30 : decode cX6_goesOn 30 = .ok (.invokevirtual 70, 3) := dk_182 hN_cX6_goesOn rfl rfl rfl
theorem dX6_goesOn_33 : decode cX6_goesOn 33 = .ok (.pop, 1) := dk_87 hN_cX6_goesOn rfl rfl
theorem dX6_goesOn_34 : decode cX6_goesOn 34 = .ok (.iconst 0, 1) := dk_3 hN_cX6_goesOn rfl rfl
theorem dX6_goesOn_35 : decode cX6_goesOn 35 = .ok (.ireturn, 1) := dk_172 hN_cX6_goesOn rfl rfl
theorem dX6_goesOn_17 : decode cX6_goesOn 17 = .ok (.aload_n 0, 1) := dk_42 hN_cX6_goesOn rfl rfl
theorem dX6_goesOn_18 : decode cX6_goesOn 18 = .ok (.getfield 12, 3) := dk_180 hN_cX6_goesOn rfl rfl rfl
theorem dX6_goesOn_21 : decode cX6_goesOn 21 = .ok (.getfield 67, 3) := dk_180 hN_cX6_goesOn rfl rfl rfl
theorem dX6_goesOn_24 : decode cX6_goesOn 24 = .ok (.ifCond .ne 10, 3) := dk_154 hN_cX6_goesOn rfl rfl rfl
theorem dX6_readLine_0 : decode cX6_readLine 0 = .ok (.aload_n 0, 1) := dk_42 hN_cX6_readLine rfl rfl
theorem dX6_readLine_1 : decode cX6_readLine 1 = .ok (.ldc 77, 2) := dk_18 hN_cX6_readLine rfl rfl rfl
theorem dX6_readLine_3 : decode cX6_readLine 3 = .ok (.invokevirtual 78, 3) := dk_182 hN_cX6_readLine rfl rfl rfl
theorem dX6_readLine_6 : decode cX6_readLine 6 = .ok (.ifCond .eq 8, 3) := dk_153 hN_cX6_readLine rfl rfl rfl
theorem dX6_readLine_14 : decode cX6_readLine 14 = .ok (.aload_n 0, 1) := dk_42 hN_cX6_readLine rfl rfl
theorem dX6_readLine_15 : decode cX6_readLine 15 = .ok (.ldc 85, 2) := dk_18 hN_cX6_readLine rfl rfl rfl
theorem dX6_readLine_17 : decode cX6_readLine 17 = .ok (.invokevirtual 78, 3) := dk_182 hN_cX6_readLine rfl rfl rfl
theorem dX6_readLine_20 : decode cX6_readLine 20 = .ok (.ifCond .eq 13, 3) := dk_153 hN_cX6_readLine rfl rfl rfl
theorem dX6_readLine_33 : decode cX6_readLine 33 = .ok (.aload_n 0, 1) := dk_42 hN_cX6_readLine rfl rfl
theorem dX6_readLine_34 : decode cX6_readLine 34 = .ok (.ldc 91, 2) := dk_18 hN_cX6_readLine rfl rfl rfl
theorem dX6_readLine_36 : decode cX6_readLine 36 = .ok (.invokevirtual 78, 3) := dk_182 hN_cX6_readLine rfl rfl rfl
theorem dX6_readLine_39 : decode cX6_readLine 39 = .ok (.ifCond .eq 13, 3) := dk_153 hN_cX6_readLine rfl rfl rfl
theorem dX6_readLine_52 : decode cX6_readLine 52 = .ok (.aload_n 0, 1) := dk_42 hN_cX6_readLine rfl rfl
theorem dX6_readLine_53 : decode cX6_readLine 53 = .ok (.ldc 93, 2) := dk_18 hN_cX6_readLine rfl rfl rfl
theorem dX6_readLine_55 : decode cX6_readLine 55 = .ok (.invokevirtual 78, 3) := dk_182 hN_cX6_readLine rfl rfl rfl
theorem dX6_readLine_58 : decode cX6_readLine 58 = .ok (.ifCond .eq 8, 3) := dk_153 hN_cX6_readLine rfl rfl rfl
theorem dX6_readLine_66 : decode cX6_readLine 66 = .ok (.aload_n 0, 1) := dk_42 hN_cX6_readLine rfl rfl
theorem dX6_readLine_67 : decode cX6_readLine 67 = .ok (.ldc 98, 2) := dk_18 hN_cX6_readLine rfl rfl rfl
theorem dX6_readLine_69 : decode cX6_readLine 69 = .ok (.invokevirtual 78, 3) := dk_182 hN_cX6_readLine rfl rfl rfl
theorem dX6_readLine_72 : decode cX6_readLine 72 = .ok (.ifCond .eq 8, 3) := dk_153 hN_cX6_readLine rfl rfl rfl
theorem dX6_readLine_80 : decode cX6_readLine 80 = .ok (.aload_n 0, 1) := dk_42 hN_cX6_readLine rfl rfl
theorem dX6_readLine_81 : decode cX6_readLine 81 = .ok (.ldc 103, 2) := dk_18 hN_cX6_readLine rfl rfl rfl
theorem dX6_readLine_83 : decode cX6_readLine 83 = .ok (.invokevirtual 78, 3) := dk_182 hN_cX6_readLine rfl rfl rfl
theorem dX6_readLine_86 : decode cX6_readLine 86 = .ok (.ifCond .eq 8, 3) := dk_153 hN_cX6_readLine rfl rfl rfl
theorem dX6_readLine_94 : decode cX6_readLine 94 = .ok (.aload_n 0, 1) := dk_42 hN_cX6_readLine rfl rfl
theorem dX6_readLine_95 : decode cX6_readLine 95 = .ok (.ldc 108, 2) := dk_18 hN_cX6_readLine rfl rfl rfl
theorem dX6_readLine_97 : decode cX6_readLine 97 = .ok (.invokevirtual 78, 3) := dk_182 hN_cX6_readLine rfl rfl rfl
theorem dX6_readLine_100 : decode cX6_readLine 100 = .ok (.ifCond .eq 8, 3) := dk_153 hN_cX6_readLine rfl rfl rfl
theorem dX6_readLine_108 : decode cX6_readLine 108 = .ok (.aload_n 0, 1) := dk_42 hN_cX6_readLine rfl rfl
theorem dX6_readLine_109 : decode cX6_readLine 109 = .ok (.iconst 1, 1) := dk_4 hN_cX6_readLine rfl rfl
theorem dX6_readLine_110 : decode cX6_readLine 110 = .ok (.invokevirtual 70, 3) := dk_182 hN_cX6_readLine rfl rfl rfl
theorem dX6_readLine_113 : decode cX6_readLine 113 = .ok (.ireturn, 1) := dk_172 hN_cX6_readLine rfl rfl
theorem dX6_readLine_103 : decode cX6_readLine 103 = .ok (.aload_n 0, 1) := dk_42 hN_cX6_readLine rfl rfl
theorem dX6_readLine_104 : decode cX6_readLine 104 = .ok (.invokevirtual 110, 3) := dk_182 hN_cX6_readLine rfl rfl rfl
theorem dX6_readLine_107 : decode cX6_readLine 107 = .ok (.ireturn, 1) := dk_172 hN_cX6_readLine rfl rfl
theorem dX6_readLine_89 : decode cX6_readLine 89 = .ok (.aload_n 0, 1) := dk_42 hN_cX6_readLine rfl rfl
theorem dX6_readLine_90 : decode cX6_readLine 90 = .ok (.invokevirtual 105, 3) := dk_182 hN_cX6_readLine rfl rfl rfl
theorem dX6_readLine_93 : decode cX6_readLine 93 = .ok (.ireturn, 1) := dk_172 hN_cX6_readLine rfl rfl
theorem dX6_readLine_75 : decode cX6_readLine 75 = .ok (.aload_n 0, 1) := dk_42 hN_cX6_readLine rfl rfl
theorem dX6_readLine_76 : decode cX6_readLine 76 = .ok (.invokevirtual 100, 3) := dk_182 hN_cX6_readLine rfl rfl rfl
theorem dX6_readLine_79 : decode cX6_readLine 79 = .ok (.ireturn, 1) := dk_172 hN_cX6_readLine rfl rfl
theorem dX6_readLine_61 : decode cX6_readLine 61 = .ok (.aload_n 0, 1) := dk_42 hN_cX6_readLine rfl rfl
theorem dX6_readLine_62 : decode cX6_readLine 62 = .ok (.invokevirtual 95, 3) := dk_182 hN_cX6_readLine rfl rfl rfl
theorem dX6_readLine_65 : decode cX6_readLine 65 = .ok (.ireturn, 1) := dk_172 hN_cX6_readLine rfl rfl
theorem dX6_readLine_42 : decode cX6_readLine 42 = .ok (.aload_n 0, 1) := dk_42 hN_cX6_readLine rfl rfl
theorem dX6_readLine_43 : decode cX6_readLine 43 = .ok (.aload_n 0, 1) := dk_42 hN_cX6_readLine rfl rfl
theorem dX6_readLine_44 : decode cX6_readLine 44 = .ok (.getfield 22, 3) := dk_180 hN_cX6_readLine rfl rfl rfl
theorem dX6_readLine_47 : decode cX6_readLine 47 = .ok (.iconst 0, 1) := dk_3 hN_cX6_readLine rfl rfl
theorem dX6_readLine_48 : decode cX6_readLine 48 = .ok (.invokevirtual 87, 3) := dk_182 hN_cX6_readLine rfl rfl rfl
theorem dX6_readLine_51 : decode cX6_readLine 51 = .ok (.ireturn, 1) := dk_172 hN_cX6_readLine rfl rfl
theorem dX6_readLine_23 : decode cX6_readLine 23 = .ok (.aload_n 0, 1) := dk_42 hN_cX6_readLine rfl rfl
theorem dX6_readLine_24 : decode cX6_readLine 24 = .ok (.aload_n 0, 1) := dk_42 hN_cX6_readLine rfl rfl
theorem dX6_readLine_25 : decode cX6_readLine 25 = .ok (.getfield 18, 3) := dk_180 hN_cX6_readLine rfl rfl rfl
theorem dX6_readLine_28 : decode cX6_readLine 28 = .ok (.iconst 1, 1) := dk_4 hN_cX6_readLine rfl rfl
theorem dX6_readLine_29 : decode cX6_readLine 29 = .ok (.invokevirtual 87, 3) := dk_182 hN_cX6_readLine rfl rfl rfl
theorem dX6_readLine_32 : decode cX6_readLine 32 = .ok (.ireturn, 1) := dk_172 hN_cX6_readLine rfl rfl
theorem dX6_readLine_9 : decode cX6_readLine 9 = .ok (.aload_n 0, 1) := dk_42 hN_cX6_readLine rfl rfl
theorem dX6_readLine_10 : decode cX6_readLine 10 = .ok (.invokevirtual 82, 3) := dk_182 hN_cX6_readLine rfl rfl rfl
theorem dX6_readLine_13 : decode cX6_readLine 13 = .ok (.ireturn, 1) := dk_172 hN_cX6_readLine rfl rfl
theorem dX6_readLaw_0 : decode cX6_readLaw 0 = .ok (.aload_n 0, 1) := dk_42 hN_cX6_readLaw rfl rfl
theorem dX6_readLaw_1 : decode cX6_readLaw 1 = .ok (.getfield 12, 3) := dk_180 hN_cX6_readLaw rfl rfl rfl
theorem dX6_readLaw_4 : decode cX6_readLaw 4 = .ok (.getfield 64, 3) := dk_180 hN_cX6_readLaw rfl rfl rfl
theorem dX6_readLaw_7 : decode cX6_readLaw 7 = .ok (.ifCond .eq 9, 3) := dk_153 hN_cX6_readLaw rfl rfl rfl
theorem dX6_readLaw_16 : decode cX6_readLaw 16 = .ok (.aload_n 0, 1) := dk_42 hN_cX6_readLaw rfl rfl
theorem dX6_readLaw_17 : decode cX6_readLaw 17 = .ok (.invokevirtual 51, 3) := dk_182 hN_cX6_readLaw rfl rfl rfl
theorem dX6_readLaw_20 : decode cX6_readLaw 20 = .ok (.aload_n 0, 1) := dk_42 hN_cX6_readLaw rfl rfl
theorem dX6_readLaw_21 : decode cX6_readLaw 21 = .ok (.ldc 113, 2) := dk_18 hN_cX6_readLaw rfl rfl rfl
theorem dX6_readLaw_23 : decode cX6_readLaw 23 = .ok (.invokevirtual 115, 3) := dk_182 hN_cX6_readLaw rfl rfl rfl
theorem dX6_readLaw_26 : decode cX6_readLaw 26 = .ok (.ifCond .eq 13, 3) := dk_153 hN_cX6_readLaw rfl rfl rfl
theorem dX6_readLaw_39 : decode cX6_readLaw 39 = .ok (.iconst 0, 1) := dk_3 hN_cX6_readLaw rfl rfl
theorem dX6_readLaw_40 : decode cX6_readLaw 40 = .ok (.ireturn, 1) := dk_172 hN_cX6_readLaw rfl rfl
theorem dX6_readLaw_29 : decode cX6_readLaw 29 = .ok (.aload_n 0, 1) := dk_42 hN_cX6_readLaw rfl rfl
theorem dX6_readLaw_30 : decode cX6_readLaw 30 = .ok (.iconst 1, 1) := dk_4 hN_cX6_readLaw rfl rfl
theorem dX6_readLaw_31 : decode cX6_readLaw 31 = .ok (.bipush 60, 2) := dk_16 hN_cX6_readLaw rfl rfl rfl
theorem dX6_readLaw_33 : decode cX6_readLaw 33 = .ok (.invokevirtual 118, 3) := dk_182 hN_cX6_readLaw rfl rfl rfl
theorem dX6_readLaw_36 : decode cX6_readLaw 36 = .ok (.ifCond .ne 5, 3) := dk_154 hN_cX6_readLaw rfl rfl rfl
theorem dX6_readLaw_41 : decode cX6_readLaw 41 = .ok (.aload_n 0, 1) := dk_42 hN_cX6_readLaw rfl rfl
theorem dX6_readLaw_42 : decode cX6_readLaw 42 = .ok (.getfield 12, 3) := dk_180 hN_cX6_readLaw rfl rfl rfl
theorem dX6_readLaw_45 : decode cX6_readLaw 45 = .ok (.aload_n 0, 1) := dk_42 hN_cX6_readLaw rfl rfl
theorem dX6_readLaw_46 : decode cX6_readLaw 46 = .ok (.getfield 122, 3) := dk_180 hN_cX6_readLaw rfl rfl rfl
theorem dX6_readLaw_49 : decode cX6_readLaw 49 = .ok (.putfield 64, 3) := dk_181 hN_cX6_readLaw rfl rfl rfl
theorem dX6_readLaw_52 : decode cX6_readLaw 52 = .ok (.aload_n 0, 1) := dk_42 hN_cX6_readLaw rfl rfl
theorem dX6_readLaw_53 : decode cX6_readLaw 53 = .ok (.invokevirtual 51, 3) := dk_182 hN_cX6_readLaw rfl rfl rfl
theorem dX6_readLaw_56 : decode cX6_readLaw 56 = .ok (.iconst 1, 1) := dk_4 hN_cX6_readLaw rfl rfl
theorem dX6_readLaw_57 : decode cX6_readLaw 57 = .ok (.ireturn, 1) := dk_172 hN_cX6_readLaw rfl rfl
theorem dX6_readLaw_10 : decode cX6_readLaw 10 = .ok (.aload_n 0, 1) := dk_42 hN_cX6_readLaw rfl rfl
theorem dX6_readLaw_11 : decode cX6_readLaw 11 = .ok (.iconst 3, 1) := dk_6 hN_cX6_readLaw rfl rfl
theorem dX6_readLaw_12 : decode cX6_readLaw 12 = .ok (.invokevirtual 70, 3) := dk_182 hN_cX6_readLaw rfl rfl rfl
theorem dX6_readLaw_15 : decode cX6_readLaw 15 = .ok (.ireturn, 1) := dk_172 hN_cX6_readLaw rfl rfl
theorem dX6_readNames_0 : decode cX6_readNames 0 = .ok (.iconst 0, 1) := dk_3 hN_cX6_readNames rfl rfl
theorem dX6_readNames_1 : decode cX6_readNames 1 = .ok (.istore_n 3, 1) := dk_62 hN_cX6_readNames rfl rfl
theorem dX6_readNames_2 : decode cX6_readNames 2 = .ok (.iload_n 3, 1) := dk_29 hN_cX6_readNames rfl rfl
theorem dX6_readNames_3 : decode cX6_readNames 3 = .ok (.aload_n 1, 1) := dk_43 hN_cX6_readNames rfl rfl
theorem dX6_readNames_4 : decode cX6_readNames 4 = .ok (.arraylength, 1) := dk_190 hN_cX6_readNames rfl rfl
theorem dX6_readNames_5 : decode cX6_readNames 5 = .ok (.if_icmp .gt 114, 3) := dk_163 hN_cX6_readNames rfl rfl rfl
theorem dX6_readNames_119 : decode cX6_readNames 119 = .ok (.aload_n 0, 1) := dk_42 hN_cX6_readNames rfl rfl
theorem dX6_readNames_120 : decode cX6_readNames 120 = .ok (.iconst 5, 1) := dk_8 hN_cX6_readNames rfl rfl
theorem dX6_readNames_121 : decode cX6_readNames 121 = .ok (.invokevirtual 70, 3) := dk_182 hN_cX6_readNames rfl rfl rfl
theorem dX6_readNames_124 : decode cX6_readNames 124 = .ok (.ireturn, 1) := dk_172 hN_cX6_readNames rfl rfl
theorem dX6_readNames_8 : decode cX6_readNames 8 = .ok (.aload_n 0, 1) := dk_42 hN_cX6_readNames rfl rfl
theorem dX6_readNames_9 : decode cX6_readNames 9 = .ok (.invokevirtual 51, 3) := dk_182 hN_cX6_readNames rfl rfl rfl
theorem dX6_readNames_12 : decode cX6_readNames 12 = .ok (.aload_n 0, 1) := dk_42 hN_cX6_readNames rfl rfl
theorem dX6_readNames_13 : decode cX6_readNames 13 = .ok (.invokevirtual 125, 3) := dk_182 hN_cX6_readNames rfl rfl rfl
theorem dX6_readNames_16 : decode cX6_readNames 16 = .ok (.ifCond .ne 5, 3) := dk_154 hN_cX6_readNames rfl rfl rfl
theorem dX6_readNames_21 : decode cX6_readNames 21 = .ok (.iload_n 2, 1) := dk_28 hN_cX6_readNames rfl rfl
theorem dX6_readNames_22 : decode cX6_readNames 22 = .ok (.ifCond .eq 13, 3) := dk_153 hN_cX6_readNames rfl rfl rfl
theorem dX6_readNames_35 : decode cX6_readNames 35 = .ok (.aload_n 0, 1) := dk_42 hN_cX6_readNames rfl rfl
theorem dX6_readNames_36 : decode cX6_readNames 36 = .ok (.getfield 12, 3) := dk_180 hN_cX6_readNames rfl rfl rfl
theorem dX6_readNames_39 : decode cX6_readNames 39 = .ok (.getfield 128, 3) := dk_180 hN_cX6_readNames rfl rfl rfl
theorem dX6_readNames_42 : decode cX6_readNames 42 = .ok (.istore 4, 2) := dk_54 hN_cX6_readNames rfl rfl rfl
theorem dX6_readNames_44 : decode cX6_readNames 44 = .ok (.iload 4, 2) := dk_21 hN_cX6_readNames rfl rfl rfl
theorem dX6_readNames_46 : decode cX6_readNames 46 = .ok (.aload_n 1, 1) := dk_43 hN_cX6_readNames rfl rfl
theorem dX6_readNames_47 : decode cX6_readNames 47 = .ok (.arraylength, 1) := dk_190 hN_cX6_readNames rfl rfl
theorem dX6_readNames_48 : decode cX6_readNames 48 = .ok (.if_icmp .lt 9, 3) := dk_161 hN_cX6_readNames rfl rfl rfl
theorem dX6_readNames_57 : decode cX6_readNames 57 = .ok (.aload_n 1, 1) := dk_43 hN_cX6_readNames rfl rfl
theorem dX6_readNames_58 : decode cX6_readNames 58 = .ok (.iload 4, 2) := dk_21 hN_cX6_readNames rfl rfl rfl
theorem dX6_readNames_60 : decode cX6_readNames 60 = .ok (.aload_n 0, 1) := dk_42 hN_cX6_readNames rfl rfl
theorem dX6_readNames_61 : decode cX6_readNames 61 = .ok (.getfield 131, 3) := dk_180 hN_cX6_readNames rfl rfl rfl
theorem dX6_readNames_64 : decode cX6_readNames 64 = .ok (.lastore, 1) := dk_80 hN_cX6_readNames rfl rfl
theorem dX6_readNames_65 : decode cX6_readNames 65 = .ok (.iload_n 2, 1) := dk_28 hN_cX6_readNames rfl rfl
theorem dX6_readNames_66 : decode cX6_readNames 66 = .ok (.ifCond .eq 19, 3) := dk_153 hN_cX6_readNames rfl rfl rfl
theorem dX6_readNames_85 : decode cX6_readNames 85 = .ok (.aload_n 0, 1) := dk_42 hN_cX6_readNames rfl rfl
theorem dX6_readNames_86 : decode cX6_readNames 86 = .ok (.getfield 12, 3) := dk_180 hN_cX6_readNames rfl rfl rfl
theorem dX6_readNames_89 : decode cX6_readNames 89 = .ok (.dup, 1) := dk_89 hN_cX6_readNames rfl rfl
theorem dX6_readNames_90 : decode cX6_readNames 90 = .ok (.getfield 128, 3) := dk_180 hN_cX6_readNames rfl rfl rfl
theorem dX6_readNames_93 : decode cX6_readNames 93 = .ok (.iconst 1, 1) := dk_4 hN_cX6_readNames rfl rfl
theorem dX6_readNames_94 : decode cX6_readNames 94 = .ok (.iadd, 1) := dk_96 hN_cX6_readNames rfl rfl
theorem dX6_readNames_95 : decode cX6_readNames 95 = .ok (.putfield 128, 3) := dk_181 hN_cX6_readNames rfl rfl rfl
theorem dX6_readNames_98 : decode cX6_readNames 98 = .ok (.aload_n 0, 1) := dk_42 hN_cX6_readNames rfl rfl
theorem dX6_readNames_99 : decode cX6_readNames 99 = .ok (.invokevirtual 51, 3) := dk_182 hN_cX6_readNames rfl rfl rfl
theorem dX6_readNames_102 : decode cX6_readNames 102 = .ok (.aload_n 0, 1) := dk_42 hN_cX6_readNames rfl rfl
theorem dX6_readNames_103 : decode cX6_readNames 103 = .ok (.getfield 61, 3) := dk_180 hN_cX6_readNames rfl rfl rfl
theorem dX6_readNames_106 : decode cX6_readNames 106 = .ok (.bipush 44, 2) := dk_16 hN_cX6_readNames rfl rfl rfl
theorem dX6_readNames_108 : decode cX6_readNames 108 = .ok (.if_icmp .eq 5, 3) := dk_159 hN_cX6_readNames rfl rfl rfl
theorem dX6_readNames_113 : decode cX6_readNames 113 = .ok (.iinc 3 1, 3) := dk_132 hN_cX6_readNames rfl rfl rfl rfl
theorem dX6_readNames_116 : decode cX6_readNames 116 = .ok (.goto (-114), 3) := dk_167 hN_cX6_readNames rfl rfl rfl
theorem dX6_readNames_111 : decode cX6_readNames 111 = .ok (.iconst 1, 1) := dk_4 hN_cX6_readNames rfl rfl
theorem dX6_readNames_112 : decode cX6_readNames 112 = .ok (.ireturn, 1) := dk_172 hN_cX6_readNames rfl rfl
theorem dX6_readNames_69 : decode cX6_readNames 69 = .ok (.aload_n 0, 1) := dk_42 hN_cX6_readNames rfl rfl
theorem dX6_readNames_70 : decode cX6_readNames 70 = .ok (.getfield 12, 3) := dk_180 hN_cX6_readNames rfl rfl rfl
theorem dX6_readNames_73 : decode cX6_readNames 73 = .ok (.dup, 1) := dk_89 hN_cX6_readNames rfl rfl
theorem dX6_readNames_74 : decode cX6_readNames 74 = .ok (.getfield 67, 3) := dk_180 hN_cX6_readNames rfl rfl rfl
theorem dX6_readNames_77 : decode cX6_readNames 77 = .ok (.iconst 1, 1) := dk_4 hN_cX6_readNames rfl rfl
theorem dX6_readNames_78 : decode cX6_readNames 78 = .ok (.iadd, 1) := dk_96 hN_cX6_readNames rfl rfl
theorem dX6_readNames_79 : decode cX6_readNames 79 = .ok (.putfield 67, 3) := dk_181 hN_cX6_readNames rfl rfl rfl
theorem dX6_readNames_82 : decode cX6_readNames 82 = .ok (.goto 16, 3) := dk_167 hN_cX6_readNames rfl rfl rfl
theorem dX6_readNames_51 : decode cX6_readNames 51 = .ok (.aload_n 0, 1) := dk_42 hN_cX6_readNames rfl rfl
theorem dX6_readNames_52 : decode cX6_readNames 52 = .ok (.iconst 5, 1) := dk_8 hN_cX6_readNames rfl rfl
theorem dX6_readNames_53 : decode cX6_readNames 53 = .ok (.invokevirtual 70, 3) := dk_182 hN_cX6_readNames rfl rfl rfl
theorem dX6_readNames_56 : decode cX6_readNames 56 = .ok (.ireturn, 1) := dk_172 hN_cX6_readNames rfl rfl
theorem dX6_readNames_25 : decode cX6_readNames 25 = .ok (.aload_n 0, 1) := dk_42 hN_cX6_readNames rfl rfl
theorem dX6_readNames_26 : decode cX6_readNames 26 = .ok (.getfield 12, 3) := dk_180 hN_cX6_readNames rfl rfl rfl
theorem dX6_readNames_29 : decode cX6_readNames 29 = .ok (.getfield 67, 3) := dk_180 hN_cX6_readNames rfl rfl rfl
theorem dX6_readNames_32 : decode cX6_readNames 32 = .ok (.goto 10, 3) := dk_167 hN_cX6_readNames rfl rfl rfl
theorem dX6_readNames_19 : decode cX6_readNames 19 = .ok (.iconst 0, 1) := dk_3 hN_cX6_readNames rfl rfl
theorem dX6_readNames_20 : decode cX6_readNames 20 = .ok (.ireturn, 1) := dk_172 hN_cX6_readNames rfl rfl
theorem dX6_readSet_0 : decode cX6_readSet 0 = .ok (.aload_n 0, 1) := dk_42 hN_cX6_readSet rfl rfl
theorem dX6_readSet_1 : decode cX6_readSet 1 = .ok (.getfield 12, 3) := dk_180 hN_cX6_readSet rfl rfl rfl
theorem dX6_readSet_4 : decode cX6_readSet 4 = .ok (.getfield 64, 3) := dk_180 hN_cX6_readSet rfl rfl rfl
theorem dX6_readSet_7 : decode cX6_readSet 7 = .ok (.ifCond .ne 10, 3) := dk_154 hN_cX6_readSet rfl rfl rfl
theorem dX6_readSet_17 : decode cX6_readSet 17 = .ok (.aload_n 0, 1) := dk_42 hN_cX6_readSet rfl rfl
theorem dX6_readSet_18 : decode cX6_readSet 18 = .ok (.getfield 12, 3) := dk_180 hN_cX6_readSet rfl rfl rfl
theorem dX6_readSet_21 : decode cX6_readSet 21 = .ok (.getfield 135, 3) := dk_180 hN_cX6_readSet rfl rfl rfl
theorem dX6_readSet_24 : decode cX6_readSet 24 = .ok (.bipush 8, 2) := dk_16 hN_cX6_readSet rfl rfl rfl
theorem dX6_readSet_26 : decode cX6_readSet 26 = .ok (.if_icmp .lt 9, 3) := dk_161 hN_cX6_readSet rfl rfl rfl
theorem dX6_readSet_35 : decode cX6_readSet 35 = .ok (.aload_n 0, 1) := dk_42 hN_cX6_readSet rfl rfl
theorem dX6_readSet_36 : decode cX6_readSet 36 = .ok (.invokevirtual 51, 3) := dk_182 hN_cX6_readSet rfl rfl rfl
theorem dX6_readSet_39 : decode cX6_readSet 39 = .ok (.aload_n 0, 1) := dk_42 hN_cX6_readSet rfl rfl
theorem dX6_readSet_40 : decode cX6_readSet 40 = .ok (.aload_n 0, 1) := dk_42 hN_cX6_readSet rfl rfl
theorem dX6_readSet_41 : decode cX6_readSet 41 = .ok (.getfield 18, 3) := dk_180 hN_cX6_readSet rfl rfl rfl
theorem dX6_readSet_44 : decode cX6_readSet 44 = .ok (.aload_n 0, 1) := dk_42 hN_cX6_readSet rfl rfl
theorem dX6_readSet_45 : decode cX6_readSet 45 = .ok (.getfield 12, 3) := dk_180 hN_cX6_readSet rfl rfl rfl
theorem dX6_readSet_48 : decode cX6_readSet 48 = .ok (.getfield 67, 3) := dk_180 hN_cX6_readSet rfl rfl rfl
theorem dX6_readSet_51 : decode cX6_readSet 51 = .ok (.invokevirtual 138, 3) := dk_182 hN_cX6_readSet rfl rfl rfl
theorem dX6_readSet_54 : decode cX6_readSet 54 = .ok (.istore_n 1, 1) := dk_60 hN_cX6_readSet rfl rfl
theorem dX6_readSet_55 : decode cX6_readSet 55 = .ok (.iload_n 1, 1) := dk_27 hN_cX6_readSet rfl rfl
theorem dX6_readSet_56 : decode cX6_readSet 56 = .ok (.ifCond .ge 5, 3) := dk_156 hN_cX6_readSet rfl rfl rfl
theorem dX6_readSet_61 : decode cX6_readSet 61 = .ok (.aload_n 0, 1) := dk_42 hN_cX6_readSet rfl rfl
theorem dX6_readSet_62 : decode cX6_readSet 62 = .ok (.invokevirtual 51, 3) := dk_182 hN_cX6_readSet rfl rfl rfl
theorem dX6_readSet_65 : decode cX6_readSet 65 = .ok (.bipush (-2), 2) := dk_16 hN_cX6_readSet rfl rfl rfl
theorem dX6_readSet_67 : decode cX6_readSet 67 = .ok (.istore_n 2, 1) := dk_61 hN_cX6_readSet rfl rfl
theorem dX6_readSet_68 : decode cX6_readSet 68 = .ok (.aload_n 0, 1) := dk_42 hN_cX6_readSet rfl rfl
theorem dX6_readSet_69 : decode cX6_readSet 69 = .ok (.getfield 61, 3) := dk_180 hN_cX6_readSet rfl rfl rfl
theorem dX6_readSet_72 : decode cX6_readSet 72 = .ok (.bipush 44, 2) := dk_16 hN_cX6_readSet rfl rfl rfl
theorem dX6_readSet_74 : decode cX6_readSet 74 = .ok (.if_icmp .ne 44, 3) := dk_160 hN_cX6_readSet rfl rfl rfl
theorem dX6_readSet_118 : decode cX6_readSet 118 = .ok (.aload_n 0, 1) := dk_42 hN_cX6_readSet rfl rfl
theorem dX6_readSet_119 : decode cX6_readSet 119 = .ok (.getfield 12, 3) := dk_180 hN_cX6_readSet rfl rfl rfl
theorem dX6_readSet_122 : decode cX6_readSet 122 = .ok (.getfield 142, 3) := dk_180 hN_cX6_readSet rfl rfl rfl
theorem dX6_readSet_125 : decode cX6_readSet 125 = .ok (.aload_n 0, 1) := dk_42 hN_cX6_readSet rfl rfl
theorem dX6_readSet_126 : decode cX6_readSet 126 = .ok (.getfield 12, 3) := dk_180 hN_cX6_readSet rfl rfl rfl
theorem dX6_readSet_129 : decode cX6_readSet 129 = .ok (.getfield 135, 3) := dk_180 hN_cX6_readSet rfl rfl rfl
theorem dX6_readSet_132 : decode cX6_readSet 132 = .ok (.iload_n 1, 1) := dk_27 hN_cX6_readSet rfl rfl
theorem dX6_readSet_133 : decode cX6_readSet 133 = .ok (.iastore, 1) := dk_79 hN_cX6_readSet rfl rfl
theorem dX6_readSet_134 : decode cX6_readSet 134 = .ok (.aload_n 0, 1) := dk_42 hN_cX6_readSet rfl rfl
theorem dX6_readSet_135 : decode cX6_readSet 135 = .ok (.getfield 12, 3) := dk_180 hN_cX6_readSet rfl rfl rfl
theorem dX6_readSet_138 : decode cX6_readSet 138 = .ok (.getfield 145, 3) := dk_180 hN_cX6_readSet rfl rfl rfl
theorem dX6_readSet_141 : decode cX6_readSet 141 = .ok (.aload_n 0, 1) := dk_42 hN_cX6_readSet rfl rfl
theorem dX6_readSet_142 : decode cX6_readSet 142 = .ok (.getfield 12, 3) := dk_180 hN_cX6_readSet rfl rfl rfl
theorem dX6_readSet_145 : decode cX6_readSet 145 = .ok (.getfield 135, 3) := dk_180 hN_cX6_readSet rfl rfl rfl
theorem dX6_readSet_148 : decode cX6_readSet 148 = .ok (.iload_n 2, 1) := dk_28 hN_cX6_readSet rfl rfl
theorem dX6_readSet_149 : decode cX6_readSet 149 = .ok (.iastore, 1) := dk_79 hN_cX6_readSet rfl rfl
theorem dX6_readSet_150 : decode cX6_readSet 150 = .ok (.aload_n 0, 1) := dk_42 hN_cX6_readSet rfl rfl
theorem dX6_readSet_151 : decode cX6_readSet 151 = .ok (.ldc 148, 2) := dk_18 hN_cX6_readSet rfl rfl rfl
theorem dX6_readSet_153 : decode cX6_readSet 153 = .ok (.invokevirtual 115, 3) := dk_182 hN_cX6_readSet rfl rfl rfl
theorem dX6_readSet_156 : decode cX6_readSet 156 = .ok (.ifCond .eq 23, 3) := dk_153 hN_cX6_readSet rfl rfl rfl
theorem dX6_readSet_179 : decode cX6_readSet 179 = .ok (.iconst 0, 1) := dk_3 hN_cX6_readSet rfl rfl
theorem dX6_readSet_180 : decode cX6_readSet 180 = .ok (.ireturn, 1) := dk_172 hN_cX6_readSet rfl rfl
theorem dX6_readSet_159 : decode cX6_readSet 159 = .ok (.aload_n 0, 1) := dk_42 hN_cX6_readSet rfl rfl
theorem dX6_readSet_160 : decode cX6_readSet 160 = .ok (.iload_n 2, 1) := dk_28 hN_cX6_readSet rfl rfl
theorem dX6_readSet_161 : decode cX6_readSet 161 = .ok (.ifCond .ge 7, 3) := dk_156 hN_cX6_readSet rfl rfl rfl
theorem dX6_readSet_164 : decode cX6_readSet 164 = .ok (.iconst 2, 1) := dk_5 hN_cX6_readSet rfl rfl
theorem dX6_readSet_165 : decode cX6_readSet 165 = .ok (.goto 4, 3) := dk_167 hN_cX6_readSet rfl rfl rfl
theorem dX6_readSet_169 : decode cX6_readSet 169 = .ok (.invokevirtual 150, 3) := dk_182 hN_cX6_readSet rfl rfl rfl
theorem dX6_readSet_172 : decode cX6_readSet 172 = .ok (.ifCond .eq 7, 3) := dk_153 hN_cX6_readSet rfl rfl rfl
theorem dX6_readSet_175 : decode cX6_readSet 175 = .ok (.iconst 1, 1) := dk_4 hN_cX6_readSet rfl rfl
theorem dX6_readSet_176 : decode cX6_readSet 176 = .ok (.goto 4, 3) := dk_167 hN_cX6_readSet rfl rfl rfl
theorem dX6_readSet_77 : decode cX6_readSet 77 = .ok (.aload_n 0, 1) := dk_42 hN_cX6_readSet rfl rfl
theorem dX6_readSet_78 : decode cX6_readSet 78 = .ok (.invokevirtual 51, 3) := dk_182 hN_cX6_readSet rfl rfl rfl
theorem dX6_readSet_81 : decode cX6_readSet 81 = .ok (.aload_n 0, 1) := dk_42 hN_cX6_readSet rfl rfl
theorem dX6_readSet_82 : decode cX6_readSet 82 = .ok (.aload_n 0, 1) := dk_42 hN_cX6_readSet rfl rfl
theorem dX6_readSet_83 : decode cX6_readSet 83 = .ok (.getfield 18, 3) := dk_180 hN_cX6_readSet rfl rfl rfl
theorem dX6_readSet_86 : decode cX6_readSet 86 = .ok (.aload_n 0, 1) := dk_42 hN_cX6_readSet rfl rfl
theorem dX6_readSet_87 : decode cX6_readSet 87 = .ok (.getfield 12, 3) := dk_180 hN_cX6_readSet rfl rfl rfl
theorem dX6_readSet_90 : decode cX6_readSet 90 = .ok (.getfield 67, 3) := dk_180 hN_cX6_readSet rfl rfl rfl
theorem dX6_readSet_93 : decode cX6_readSet 93 = .ok (.invokevirtual 138, 3) := dk_182 hN_cX6_readSet rfl rfl rfl
theorem dX6_readSet_96 : decode cX6_readSet 96 = .ok (.istore_n 2, 1) := dk_61 hN_cX6_readSet rfl rfl
theorem dX6_readSet_97 : decode cX6_readSet 97 = .ok (.iload_n 2, 1) := dk_28 hN_cX6_readSet rfl rfl
theorem dX6_readSet_98 : decode cX6_readSet 98 = .ok (.ifCond .ge 5, 3) := dk_156 hN_cX6_readSet rfl rfl rfl
theorem dX6_readSet_103 : decode cX6_readSet 103 = .ok (.iload_n 2, 1) := dk_28 hN_cX6_readSet rfl rfl
theorem dX6_readSet_104 : decode cX6_readSet 104 = .ok (.iload_n 1, 1) := dk_27 hN_cX6_readSet rfl rfl
theorem dX6_readSet_105 : decode cX6_readSet 105 = .ok (.if_icmp .ne 9, 3) := dk_160 hN_cX6_readSet rfl rfl rfl
theorem dX6_readSet_114 : decode cX6_readSet 114 = .ok (.aload_n 0, 1) := dk_42 hN_cX6_readSet rfl rfl
theorem dX6_readSet_115 : decode cX6_readSet 115 = .ok (.invokevirtual 51, 3) := dk_182 hN_cX6_readSet rfl rfl rfl
theorem dX6_readSet_168 : decode cX6_readSet 168 = .ok (.iconst 4, 1) := dk_7 hN_cX6_readSet rfl rfl
theorem dX6_readSet_108 : decode cX6_readSet 108 = .ok (.aload_n 0, 1) := dk_42 hN_cX6_readSet rfl rfl
theorem dX6_readSet_109 : decode cX6_readSet 109 = .ok (.iconst 3, 1) := dk_6 hN_cX6_readSet rfl rfl
theorem dX6_readSet_110 : decode cX6_readSet 110 = .ok (.invokevirtual 70, 3) := dk_182 hN_cX6_readSet rfl rfl rfl
theorem dX6_readSet_113 : decode cX6_readSet 113 = .ok (.ireturn, 1) := dk_172 hN_cX6_readSet rfl rfl
theorem dX6_readSet_101 : decode cX6_readSet 101 = .ok (.iconst 0, 1) := dk_3 hN_cX6_readSet rfl rfl
theorem dX6_readSet_102 : decode cX6_readSet 102 = .ok (.ireturn, 1) := dk_172 hN_cX6_readSet rfl rfl
theorem dX6_readSet_59 : decode cX6_readSet 59 = .ok (.iconst 0, 1) := dk_3 hN_cX6_readSet rfl rfl
theorem dX6_readSet_60 : decode cX6_readSet 60 = .ok (.ireturn, 1) := dk_172 hN_cX6_readSet rfl rfl
theorem dX6_readSet_29 : decode cX6_readSet 29 = .ok (.aload_n 0, 1) := dk_42 hN_cX6_readSet rfl rfl
theorem dX6_readSet_30 : decode cX6_readSet 30 = .ok (.iconst 5, 1) := dk_8 hN_cX6_readSet rfl rfl
theorem dX6_readSet_31 : decode cX6_readSet 31 = .ok (.invokevirtual 70, 3) := dk_182 hN_cX6_readSet rfl rfl rfl
theorem dX6_readSet_34 : decode cX6_readSet 34 = .ok (.ireturn, 1) := dk_172 hN_cX6_readSet rfl rfl
theorem dX6_readSet_10 : decode cX6_readSet 10 = .ok (.aload_n 0, 1) := dk_42 hN_cX6_readSet rfl rfl
theorem dX6_readSet_11 : decode cX6_readSet 11 = .ok (.bipush 6, 2) := dk_16 hN_cX6_readSet rfl rfl rfl
theorem dX6_readSet_13 : decode cX6_readSet 13 = .ok (.invokevirtual 70, 3) := dk_182 hN_cX6_readSet rfl rfl rfl
theorem dX6_readSet_16 : decode cX6_readSet 16 = .ok (.ireturn, 1) := dk_172 hN_cX6_readSet rfl rfl
theorem dX6_readTimes_0 : decode cX6_readTimes 0 = .ok (.iconst 0, 1) := dk_3 hN_cX6_readTimes rfl rfl
theorem dX6_readTimes_1 : decode cX6_readTimes 1 = .ok (.istore_n 2, 1) := dk_61 hN_cX6_readTimes rfl rfl
theorem dX6_readTimes_2 : decode cX6_readTimes 2 = .ok (.iconst 0, 1) := dk_3 hN_cX6_readTimes rfl rfl
theorem dX6_readTimes_3 : decode cX6_readTimes 3 = .ok (.istore_n 3, 1) := dk_62 hN_cX6_readTimes rfl rfl
theorem dX6_readTimes_4 : decode cX6_readTimes 4 = .ok (.iload_n 3, 1) := dk_29 hN_cX6_readTimes rfl rfl
theorem dX6_readTimes_5 : decode cX6_readTimes 5 = .ok (.iload_n 1, 1) := dk_27 hN_cX6_readTimes rfl rfl
theorem dX6_readTimes_6 : decode cX6_readTimes 6 = .ok (.if_icmp .ge 94, 3) := dk_162 hN_cX6_readTimes rfl rfl rfl
theorem dX6_readTimes_100 : decode cX6_readTimes 100 = .ok (.aload_n 0, 1) := dk_42 hN_cX6_readTimes rfl rfl
theorem dX6_readTimes_101 : decode cX6_readTimes 101 = .ok (.getfield 12, 3) := dk_180 hN_cX6_readTimes rfl rfl rfl
theorem dX6_readTimes_104 : decode cX6_readTimes 104 = .ok (.dup, 1) := dk_89 hN_cX6_readTimes rfl rfl
theorem dX6_readTimes_105 : decode cX6_readTimes 105 = .ok (.getfield 135, 3) := dk_180 hN_cX6_readTimes rfl rfl rfl
theorem dX6_readTimes_108 : decode cX6_readTimes 108 = .ok (.iconst 1, 1) := dk_4 hN_cX6_readTimes rfl rfl
theorem dX6_readTimes_109 : decode cX6_readTimes 109 = .ok (.iadd, 1) := dk_96 hN_cX6_readTimes rfl rfl
theorem dX6_readTimes_110 : decode cX6_readTimes 110 = .ok (.putfield 135, 3) := dk_181 hN_cX6_readTimes rfl rfl rfl
theorem dX6_readTimes_113 : decode cX6_readTimes 113 = .ok (.iconst 1, 1) := dk_4 hN_cX6_readTimes rfl rfl
theorem dX6_readTimes_114 : decode cX6_readTimes 114 = .ok (.ireturn, 1) := dk_172 hN_cX6_readTimes rfl rfl
theorem dX6_readTimes_9 : decode cX6_readTimes 9 = .ok (.iload_n 3, 1) := dk_29 hN_cX6_readTimes rfl rfl
theorem dX6_readTimes_10 : decode cX6_readTimes 10 = .ok (.ifCond .le 14, 3) := dk_158 hN_cX6_readTimes rfl rfl rfl
theorem dX6_readTimes_24 : decode cX6_readTimes 24 = .ok (.aload_n 0, 1) := dk_42 hN_cX6_readTimes rfl rfl
theorem dX6_readTimes_25 : decode cX6_readTimes 25 = .ok (.iconst 0, 1) := dk_3 hN_cX6_readTimes rfl rfl
theorem dX6_readTimes_26 : decode cX6_readTimes 26 = .ok (.bipush 60, 2) := dk_16 hN_cX6_readTimes rfl rfl rfl
theorem dX6_readTimes_28 : decode cX6_readTimes 28 = .ok (.invokevirtual 118, 3) := dk_182 hN_cX6_readTimes rfl rfl rfl
theorem dX6_readTimes_31 : decode cX6_readTimes 31 = .ok (.ifCond .ne 5, 3) := dk_154 hN_cX6_readTimes rfl rfl rfl
theorem dX6_readTimes_36 : decode cX6_readTimes 36 = .ok (.iload_n 2, 1) := dk_28 hN_cX6_readTimes rfl rfl
theorem dX6_readTimes_37 : decode cX6_readTimes 37 = .ok (.aload_n 0, 1) := dk_42 hN_cX6_readTimes rfl rfl
theorem dX6_readTimes_38 : decode cX6_readTimes 38 = .ok (.getfield 122, 3) := dk_180 hN_cX6_readTimes rfl rfl rfl
theorem dX6_readTimes_41 : decode cX6_readTimes 41 = .ok (.iadd, 1) := dk_96 hN_cX6_readTimes rfl rfl
theorem dX6_readTimes_42 : decode cX6_readTimes 42 = .ok (.istore_n 2, 1) := dk_61 hN_cX6_readTimes rfl rfl
theorem dX6_readTimes_43 : decode cX6_readTimes 43 = .ok (.iload_n 3, 1) := dk_29 hN_cX6_readTimes rfl rfl
theorem dX6_readTimes_44 : decode cX6_readTimes 44 = .ok (.iload_n 1, 1) := dk_27 hN_cX6_readTimes rfl rfl
theorem dX6_readTimes_45 : decode cX6_readTimes 45 = .ok (.iconst 1, 1) := dk_4 hN_cX6_readTimes rfl rfl
theorem dX6_readTimes_46 : decode cX6_readTimes 46 = .ok (.isub, 1) := dk_100 hN_cX6_readTimes rfl rfl
theorem dX6_readTimes_47 : decode cX6_readTimes 47 = .ok (.if_icmp .ne 20, 3) := dk_160 hN_cX6_readTimes rfl rfl rfl
theorem dX6_readTimes_67 : decode cX6_readTimes 67 = .ok (.aload_n 0, 1) := dk_42 hN_cX6_readTimes rfl rfl
theorem dX6_readTimes_68 : decode cX6_readTimes 68 = .ok (.getfield 12, 3) := dk_180 hN_cX6_readTimes rfl rfl rfl
theorem dX6_readTimes_71 : decode cX6_readTimes 71 = .ok (.getfield 153, 3) := dk_180 hN_cX6_readTimes rfl rfl rfl
theorem dX6_readTimes_74 : decode cX6_readTimes 74 = .ok (.iconst 4, 1) := dk_7 hN_cX6_readTimes rfl rfl
theorem dX6_readTimes_75 : decode cX6_readTimes 75 = .ok (.aload_n 0, 1) := dk_42 hN_cX6_readTimes rfl rfl
theorem dX6_readTimes_76 : decode cX6_readTimes 76 = .ok (.getfield 12, 3) := dk_180 hN_cX6_readTimes rfl rfl rfl
theorem dX6_readTimes_79 : decode cX6_readTimes 79 = .ok (.getfield 135, 3) := dk_180 hN_cX6_readTimes rfl rfl rfl
theorem dX6_readTimes_82 : decode cX6_readTimes 82 = .ok (.imul, 1) := dk_104 hN_cX6_readTimes rfl rfl
theorem dX6_readTimes_83 : decode cX6_readTimes 83 = .ok (.iload_n 3, 1) := dk_29 hN_cX6_readTimes rfl rfl
theorem dX6_readTimes_84 : decode cX6_readTimes 84 = .ok (.iadd, 1) := dk_96 hN_cX6_readTimes rfl rfl
theorem dX6_readTimes_85 : decode cX6_readTimes 85 = .ok (.aload_n 0, 1) := dk_42 hN_cX6_readTimes rfl rfl
theorem dX6_readTimes_86 : decode cX6_readTimes 86 = .ok (.getfield 122, 3) := dk_180 hN_cX6_readTimes rfl rfl rfl
theorem dX6_readTimes_89 : decode cX6_readTimes 89 = .ok (.iastore, 1) := dk_79 hN_cX6_readTimes rfl rfl
theorem dX6_readTimes_90 : decode cX6_readTimes 90 = .ok (.aload_n 0, 1) := dk_42 hN_cX6_readTimes rfl rfl
theorem dX6_readTimes_91 : decode cX6_readTimes 91 = .ok (.invokevirtual 51, 3) := dk_182 hN_cX6_readTimes rfl rfl rfl
theorem dX6_readTimes_94 : decode cX6_readTimes 94 = .ok (.iinc 3 1, 3) := dk_132 hN_cX6_readTimes rfl rfl rfl rfl
theorem dX6_readTimes_97 : decode cX6_readTimes 97 = .ok (.goto (-93), 3) := dk_167 hN_cX6_readTimes rfl rfl rfl
theorem dX6_readTimes_50 : decode cX6_readTimes 50 = .ok (.iload_n 2, 1) := dk_28 hN_cX6_readTimes rfl rfl
theorem dX6_readTimes_51 : decode cX6_readTimes 51 = .ok (.aload_n 0, 1) := dk_42 hN_cX6_readTimes rfl rfl
theorem dX6_readTimes_52 : decode cX6_readTimes 52 = .ok (.getfield 12, 3) := dk_180 hN_cX6_readTimes rfl rfl rfl
theorem dX6_readTimes_55 : decode cX6_readTimes 55 = .ok (.getfield 64, 3) := dk_180 hN_cX6_readTimes rfl rfl rfl
theorem dX6_readTimes_58 : decode cX6_readTimes 58 = .ok (.if_icmp .eq 9, 3) := dk_159 hN_cX6_readTimes rfl rfl rfl
theorem dX6_readTimes_61 : decode cX6_readTimes 61 = .ok (.aload_n 0, 1) := dk_42 hN_cX6_readTimes rfl rfl
theorem dX6_readTimes_62 : decode cX6_readTimes 62 = .ok (.iconst 4, 1) := dk_7 hN_cX6_readTimes rfl rfl
theorem dX6_readTimes_63 : decode cX6_readTimes 63 = .ok (.invokevirtual 70, 3) := dk_182 hN_cX6_readTimes rfl rfl rfl
theorem dX6_readTimes_66 : decode cX6_readTimes 66 = .ok (.ireturn, 1) := dk_172 hN_cX6_readTimes rfl rfl
theorem dX6_readTimes_34 : decode cX6_readTimes 34 = .ok (.iconst 0, 1) := dk_3 hN_cX6_readTimes rfl rfl
theorem dX6_readTimes_35 : decode cX6_readTimes 35 = .ok (.ireturn, 1) := dk_172 hN_cX6_readTimes rfl rfl
theorem dX6_readTimes_13 : decode cX6_readTimes 13 = .ok (.aload_n 0, 1) := dk_42 hN_cX6_readTimes rfl rfl
theorem dX6_readTimes_14 : decode cX6_readTimes 14 = .ok (.bipush 44, 2) := dk_16 hN_cX6_readTimes rfl rfl rfl
theorem dX6_readTimes_16 : decode cX6_readTimes 16 = .ok (.invokevirtual 74, 3) := dk_182 hN_cX6_readTimes rfl rfl rfl
theorem dX6_readTimes_19 : decode cX6_readTimes 19 = .ok (.ifCond .ne 5, 3) := dk_154 hN_cX6_readTimes rfl rfl rfl
theorem dX6_readTimes_22 : decode cX6_readTimes 22 = .ok (.iconst 0, 1) := dk_3 hN_cX6_readTimes rfl rfl
theorem dX6_readTimes_23 : decode cX6_readTimes 23 = .ok (.ireturn, 1) := dk_172 hN_cX6_readTimes rfl rfl
theorem dX6_readParity_0 : decode cX6_readParity 0 = .ok (.aload_n 0, 1) := dk_42 hN_cX6_readParity rfl rfl
theorem dX6_readParity_1 : decode cX6_readParity 1 = .ok (.getfield 12, 3) := dk_180 hN_cX6_readParity rfl rfl rfl
theorem dX6_readParity_4 : decode cX6_readParity 4 = .ok (.getfield 156, 3) := dk_180 hN_cX6_readParity rfl rfl rfl
theorem dX6_readParity_7 : decode cX6_readParity 7 = .ok (.bipush 8, 2) := dk_16 hN_cX6_readParity rfl rfl rfl
theorem dX6_readParity_9 : decode cX6_readParity 9 = .ok (.if_icmp .lt 9, 3) := dk_161 hN_cX6_readParity rfl rfl rfl
theorem dX6_readParity_18 : decode cX6_readParity 18 = .ok (.aload_n 0, 1) := dk_42 hN_cX6_readParity rfl rfl
theorem dX6_readParity_19 : decode cX6_readParity 19 = .ok (.invokevirtual 51, 3) := dk_182 hN_cX6_readParity rfl rfl rfl
theorem dX6_readParity_22 : decode cX6_readParity 22 = .ok (.iconst 0, 1) := dk_3 hN_cX6_readParity rfl rfl
theorem dX6_readParity_23 : decode cX6_readParity 23 = .ok (.istore_n 1, 1) := dk_60 hN_cX6_readParity rfl rfl
theorem dX6_readParity_24 : decode cX6_readParity 24 = .ok (.iconst 0, 1) := dk_3 hN_cX6_readParity rfl rfl
theorem dX6_readParity_25 : decode cX6_readParity 25 = .ok (.istore_n 2, 1) := dk_61 hN_cX6_readParity rfl rfl
theorem dX6_readParity_12 : decode cX6_readParity 12 = .ok (.aload_n 0, 1) := dk_42 hN_cX6_readParity rfl rfl
theorem dX6_readParity_13 : decode cX6_readParity 13 = .ok (.iconst 5, 1) := dk_8 hN_cX6_readParity rfl rfl
theorem dX6_readParity_14 : decode cX6_readParity 14 = .ok (.invokevirtual 70, 3) := dk_182 hN_cX6_readParity rfl rfl rfl
theorem dX6_readParity_17 : decode cX6_readParity 17 = .ok (.ireturn, 1) := dk_172 hN_cX6_readParity rfl rfl
theorem dX6_readParity_26 : decode cX6_readParity 26 = .ok (.iload_n 2, 1) := dk_28 hN_cX6_readParity rfl rfl
theorem dX6_readParity_27 : decode cX6_readParity 27 = .ok (.iconst 3, 1) := dk_6 hN_cX6_readParity rfl rfl
theorem dX6_readParity_28 : decode cX6_readParity 28 = .ok (.if_icmp .ge 70, 3) := dk_162 hN_cX6_readParity rfl rfl rfl
theorem dX6_readParity_98 : decode cX6_readParity 98 = .ok (.aload_n 0, 1) := dk_42 hN_cX6_readParity rfl rfl
theorem dX6_readParity_99 : decode cX6_readParity 99 = .ok (.ldc 159, 2) := dk_18 hN_cX6_readParity rfl rfl rfl
theorem dX6_readParity_101 : decode cX6_readParity 101 = .ok (.invokevirtual 115, 3) := dk_182 hN_cX6_readParity rfl rfl rfl
theorem dX6_readParity_104 : decode cX6_readParity 104 = .ok (.ifCond .ne 5, 3) := dk_154 hN_cX6_readParity rfl rfl rfl
theorem dX6_readParity_109 : decode cX6_readParity 109 = .ok (.aload_n 0, 1) := dk_42 hN_cX6_readParity rfl rfl
theorem dX6_readParity_110 : decode cX6_readParity 110 = .ok (.ldc 161, 2) := dk_18 hN_cX6_readParity rfl rfl rfl
theorem dX6_readParity_112 : decode cX6_readParity 112 = .ok (.invokevirtual 78, 3) := dk_182 hN_cX6_readParity rfl rfl rfl
theorem dX6_readParity_115 : decode cX6_readParity 115 = .ok (.ifCond .ne 18, 3) := dk_154 hN_cX6_readParity rfl rfl rfl
theorem dX6_readParity_133 : decode cX6_readParity 133 = .ok (.aload_n 0, 1) := dk_42 hN_cX6_readParity rfl rfl
theorem dX6_readParity_134 : decode cX6_readParity 134 = .ok (.getfield 12, 3) := dk_180 hN_cX6_readParity rfl rfl rfl
theorem dX6_readParity_137 : decode cX6_readParity 137 = .ok (.getfield 165, 3) := dk_180 hN_cX6_readParity rfl rfl rfl
theorem dX6_readParity_140 : decode cX6_readParity 140 = .ok (.aload_n 0, 1) := dk_42 hN_cX6_readParity rfl rfl
theorem dX6_readParity_141 : decode cX6_readParity 141 = .ok (.getfield 12, 3) := dk_180 hN_cX6_readParity rfl rfl rfl
theorem dX6_readParity_144 : decode cX6_readParity 144 = .ok (.getfield 156, 3) := dk_180 hN_cX6_readParity rfl rfl rfl
theorem dX6_readParity_147 : decode cX6_readParity 147 = .ok (.iload_n 1, 1) := dk_27 hN_cX6_readParity rfl rfl
theorem dX6_readParity_148 : decode cX6_readParity 148 = .ok (.iastore, 1) := dk_79 hN_cX6_readParity rfl rfl
theorem dX6_readParity_149 : decode cX6_readParity 149 = .ok (.aload_n 0, 1) := dk_42 hN_cX6_readParity rfl rfl
theorem dX6_readParity_150 : decode cX6_readParity 150 = .ok (.getfield 12, 3) := dk_180 hN_cX6_readParity rfl rfl rfl
theorem dX6_readParity_153 : decode cX6_readParity 153 = .ok (.getfield 168, 3) := dk_180 hN_cX6_readParity rfl rfl rfl
theorem dX6_readParity_156 : decode cX6_readParity 156 = .ok (.aload_n 0, 1) := dk_42 hN_cX6_readParity rfl rfl
theorem dX6_readParity_157 : decode cX6_readParity 157 = .ok (.getfield 12, 3) := dk_180 hN_cX6_readParity rfl rfl rfl
theorem dX6_readParity_160 : decode cX6_readParity 160 = .ok (.getfield 156, 3) := dk_180 hN_cX6_readParity rfl rfl rfl
theorem dX6_readParity_163 : decode cX6_readParity 163 = .ok (.aload_n 0, 1) := dk_42 hN_cX6_readParity rfl rfl
theorem dX6_readParity_164 : decode cX6_readParity 164 = .ok (.ldc 163, 2) := dk_18 hN_cX6_readParity rfl rfl rfl
theorem dX6_readParity_166 : decode cX6_readParity 166 = .ok (.invokevirtual 78, 3) := dk_182 hN_cX6_readParity rfl rfl rfl
theorem dX6_readParity_169 : decode cX6_readParity 169 = .ok (.ifCond .eq 7, 3) := dk_153 hN_cX6_readParity rfl rfl rfl
theorem dX6_readParity_176 : decode cX6_readParity 176 = .ok (.iconst 0, 1) := dk_3 hN_cX6_readParity rfl rfl
theorem dX6_readParity_177 : decode cX6_readParity 177 = .ok (.iastore, 1) := dk_79 hN_cX6_readParity rfl rfl
theorem dX6_readParity_178 : decode cX6_readParity 178 = .ok (.aload_n 0, 1) := dk_42 hN_cX6_readParity rfl rfl
theorem dX6_readParity_179 : decode cX6_readParity 179 = .ok (.getfield 12, 3) := dk_180 hN_cX6_readParity rfl rfl rfl
theorem dX6_readParity_182 : decode cX6_readParity 182 = .ok (.dup, 1) := dk_89 hN_cX6_readParity rfl rfl
theorem dX6_readParity_183 : decode cX6_readParity 183 = .ok (.getfield 156, 3) := dk_180 hN_cX6_readParity rfl rfl rfl
theorem dX6_readParity_186 : decode cX6_readParity 186 = .ok (.iconst 1, 1) := dk_4 hN_cX6_readParity rfl rfl
theorem dX6_readParity_187 : decode cX6_readParity 187 = .ok (.iadd, 1) := dk_96 hN_cX6_readParity rfl rfl
theorem dX6_readParity_188 : decode cX6_readParity 188 = .ok (.putfield 156, 3) := dk_181 hN_cX6_readParity rfl rfl rfl
theorem dX6_readParity_191 : decode cX6_readParity 191 = .ok (.aload_n 0, 1) := dk_42 hN_cX6_readParity rfl rfl
theorem dX6_readParity_192 : decode cX6_readParity 192 = .ok (.invokevirtual 51, 3) := dk_182 hN_cX6_readParity rfl rfl rfl
theorem dX6_readParity_195 : decode cX6_readParity 195 = .ok (.iconst 1, 1) := dk_4 hN_cX6_readParity rfl rfl
theorem dX6_readParity_196 : decode cX6_readParity 196 = .ok (.ireturn, 1) := dk_172 hN_cX6_readParity rfl rfl
theorem dX6_readParity_172 : decode cX6_readParity 172 = .ok (.iconst 1, 1) := dk_4 hN_cX6_readParity rfl rfl
theorem dX6_readParity_173 : decode cX6_readParity 173 = .ok (.goto 4, 3) := dk_167 hN_cX6_readParity rfl rfl rfl
theorem dX6_readParity_118 : decode cX6_readParity 118 = .ok (.aload_n 0, 1) := dk_42 hN_cX6_readParity rfl rfl
theorem dX6_readParity_119 : decode cX6_readParity 119 = .ok (.ldc 163, 2) := dk_18 hN_cX6_readParity rfl rfl rfl
theorem dX6_readParity_121 : decode cX6_readParity 121 = .ok (.invokevirtual 78, 3) := dk_182 hN_cX6_readParity rfl rfl rfl
theorem dX6_readParity_124 : decode cX6_readParity 124 = .ok (.ifCond .ne 9, 3) := dk_154 hN_cX6_readParity rfl rfl rfl
theorem dX6_readParity_127 : decode cX6_readParity 127 = .ok (.aload_n 0, 1) := dk_42 hN_cX6_readParity rfl rfl
theorem dX6_readParity_128 : decode cX6_readParity 128 = .ok (.iconst 1, 1) := dk_4 hN_cX6_readParity rfl rfl
theorem dX6_readParity_129 : decode cX6_readParity 129 = .ok (.invokevirtual 70, 3) := dk_182 hN_cX6_readParity rfl rfl rfl
theorem dX6_readParity_132 : decode cX6_readParity 132 = .ok (.ireturn, 1) := dk_172 hN_cX6_readParity rfl rfl
theorem dX6_readParity_107 : decode cX6_readParity 107 = .ok (.iconst 0, 1) := dk_3 hN_cX6_readParity rfl rfl
theorem dX6_readParity_108 : decode cX6_readParity 108 = .ok (.ireturn, 1) := dk_172 hN_cX6_readParity rfl rfl
theorem dX6_readParity_31 : decode cX6_readParity 31 = .ok (.iload_n 2, 1) := dk_28 hN_cX6_readParity rfl rfl
theorem dX6_readParity_32 : decode cX6_readParity 32 = .ok (.ifCond .le 14, 3) := dk_158 hN_cX6_readParity rfl rfl rfl
theorem dX6_readParity_46 : decode cX6_readParity 46 = .ok (.aload_n 0, 1) := dk_42 hN_cX6_readParity rfl rfl
theorem dX6_readParity_47 : decode cX6_readParity 47 = .ok (.aload_n 0, 1) := dk_42 hN_cX6_readParity rfl rfl
theorem dX6_readParity_48 : decode cX6_readParity 48 = .ok (.getfield 22, 3) := dk_180 hN_cX6_readParity rfl rfl rfl
theorem dX6_readParity_51 : decode cX6_readParity 51 = .ok (.aload_n 0, 1) := dk_42 hN_cX6_readParity rfl rfl
theorem dX6_readParity_52 : decode cX6_readParity 52 = .ok (.getfield 12, 3) := dk_180 hN_cX6_readParity rfl rfl rfl
theorem dX6_readParity_55 : decode cX6_readParity 55 = .ok (.getfield 128, 3) := dk_180 hN_cX6_readParity rfl rfl rfl
theorem dX6_readParity_58 : decode cX6_readParity 58 = .ok (.invokevirtual 138, 3) := dk_182 hN_cX6_readParity rfl rfl rfl
theorem dX6_readParity_61 : decode cX6_readParity 61 = .ok (.istore_n 3, 1) := dk_62 hN_cX6_readParity rfl rfl
theorem dX6_readParity_62 : decode cX6_readParity 62 = .ok (.iload_n 3, 1) := dk_29 hN_cX6_readParity rfl rfl
theorem dX6_readParity_63 : decode cX6_readParity 63 = .ok (.ifCond .ge 5, 3) := dk_156 hN_cX6_readParity rfl rfl rfl
theorem dX6_readParity_68 : decode cX6_readParity 68 = .ok (.iload_n 1, 1) := dk_27 hN_cX6_readParity rfl rfl
theorem dX6_readParity_69 : decode cX6_readParity 69 = .ok (.iload_n 3, 1) := dk_29 hN_cX6_readParity rfl rfl
theorem dX6_readParity_70 : decode cX6_readParity 70 = .ok (.ishr, 1) := dk_122 hN_cX6_readParity rfl rfl
theorem dX6_readParity_71 : decode cX6_readParity 71 = .ok (.iconst 1, 1) := dk_4 hN_cX6_readParity rfl rfl
theorem dX6_readParity_72 : decode cX6_readParity 72 = .ok (.iand, 1) := dk_126 hN_cX6_readParity rfl rfl
theorem dX6_readParity_73 : decode cX6_readParity 73 = .ok (.ifCond .eq 9, 3) := dk_153 hN_cX6_readParity rfl rfl rfl
theorem dX6_readParity_82 : decode cX6_readParity 82 = .ok (.iload_n 1, 1) := dk_27 hN_cX6_readParity rfl rfl
theorem dX6_readParity_83 : decode cX6_readParity 83 = .ok (.iconst 1, 1) := dk_4 hN_cX6_readParity rfl rfl
theorem dX6_readParity_84 : decode cX6_readParity 84 = .ok (.iload_n 3, 1) := dk_29 hN_cX6_readParity rfl rfl
theorem dX6_readParity_85 : decode cX6_readParity 85 = .ok (.ishl, 1) := dk_120 hN_cX6_readParity rfl rfl
theorem dX6_readParity_86 : decode cX6_readParity 86 = .ok (.ior, 1) := dk_128 hN_cX6_readParity rfl rfl
theorem dX6_readParity_87 : decode cX6_readParity 87 = .ok (.istore_n 1, 1) := dk_60 hN_cX6_readParity rfl rfl
theorem dX6_readParity_88 : decode cX6_readParity 88 = .ok (.aload_n 0, 1) := dk_42 hN_cX6_readParity rfl rfl
theorem dX6_readParity_89 : decode cX6_readParity 89 = .ok (.invokevirtual 51, 3) := dk_182 hN_cX6_readParity rfl rfl rfl
theorem dX6_readParity_92 : decode cX6_readParity 92 = .ok (.iinc 2 1, 3) := dk_132 hN_cX6_readParity rfl rfl rfl rfl
theorem dX6_readParity_95 : decode cX6_readParity 95 = .ok (.goto (-69), 3) := dk_167 hN_cX6_readParity rfl rfl rfl
theorem dX6_readParity_76 : decode cX6_readParity 76 = .ok (.aload_n 0, 1) := dk_42 hN_cX6_readParity rfl rfl
theorem dX6_readParity_77 : decode cX6_readParity 77 = .ok (.iconst 3, 1) := dk_6 hN_cX6_readParity rfl rfl
theorem dX6_readParity_78 : decode cX6_readParity 78 = .ok (.invokevirtual 70, 3) := dk_182 hN_cX6_readParity rfl rfl rfl
theorem dX6_readParity_81 : decode cX6_readParity 81 = .ok (.ireturn, 1) := dk_172 hN_cX6_readParity rfl rfl
theorem dX6_readParity_66 : decode cX6_readParity 66 = .ok (.iconst 0, 1) := dk_3 hN_cX6_readParity rfl rfl
theorem dX6_readParity_67 : decode cX6_readParity 67 = .ok (.ireturn, 1) := dk_172 hN_cX6_readParity rfl rfl
theorem dX6_readParity_35 : decode cX6_readParity 35 = .ok (.aload_n 0, 1) := dk_42 hN_cX6_readParity rfl rfl
theorem dX6_readParity_36 : decode cX6_readParity 36 = .ok (.bipush 44, 2) := dk_16 hN_cX6_readParity rfl rfl rfl
theorem dX6_readParity_38 : decode cX6_readParity 38 = .ok (.invokevirtual 74, 3) := dk_182 hN_cX6_readParity rfl rfl rfl
theorem dX6_readParity_41 : decode cX6_readParity 41 = .ok (.ifCond .ne 5, 3) := dk_154 hN_cX6_readParity rfl rfl rfl
theorem dX6_readParity_44 : decode cX6_readParity 44 = .ok (.iconst 0, 1) := dk_3 hN_cX6_readParity rfl rfl
theorem dX6_readParity_45 : decode cX6_readParity 45 = .ok (.ireturn, 1) := dk_172 hN_cX6_readParity rfl rfl
theorem dX6_readRay_0 : decode cX6_readRay 0 = .ok (.aload_n 0, 1) := dk_42 hN_cX6_readRay rfl rfl
theorem dX6_readRay_1 : decode cX6_readRay 1 = .ok (.getfield 12, 3) := dk_180 hN_cX6_readRay rfl rfl rfl
theorem dX6_readRay_4 : decode cX6_readRay 4 = .ok (.getfield 171, 3) := dk_180 hN_cX6_readRay rfl rfl rfl
theorem dX6_readRay_7 : decode cX6_readRay 7 = .ok (.bipush 18, 2) := dk_16 hN_cX6_readRay rfl rfl rfl
theorem dX6_readRay_9 : decode cX6_readRay 9 = .ok (.if_icmp .lt 9, 3) := dk_161 hN_cX6_readRay rfl rfl rfl
theorem dX6_readRay_18 : decode cX6_readRay 18 = .ok (.aload_n 0, 1) := dk_42 hN_cX6_readRay rfl rfl
theorem dX6_readRay_19 : decode cX6_readRay 19 = .ok (.invokevirtual 51, 3) := dk_182 hN_cX6_readRay rfl rfl rfl
theorem dX6_readRay_22 : decode cX6_readRay 22 = .ok (.iconst 0, 1) := dk_3 hN_cX6_readRay rfl rfl
theorem dX6_readRay_23 : decode cX6_readRay 23 = .ok (.istore_n 1, 1) := dk_60 hN_cX6_readRay rfl rfl
theorem dX6_readRay_24 : decode cX6_readRay 24 = .ok (.iconst 0, 1) := dk_3 hN_cX6_readRay rfl rfl
theorem dX6_readRay_25 : decode cX6_readRay 25 = .ok (.istore_n 2, 1) := dk_61 hN_cX6_readRay rfl rfl
theorem dX6_readRay_12 : decode cX6_readRay 12 = .ok (.aload_n 0, 1) := dk_42 hN_cX6_readRay rfl rfl
theorem dX6_readRay_13 : decode cX6_readRay 13 = .ok (.iconst 5, 1) := dk_8 hN_cX6_readRay rfl rfl
theorem dX6_readRay_14 : decode cX6_readRay 14 = .ok (.invokevirtual 70, 3) := dk_182 hN_cX6_readRay rfl rfl rfl
theorem dX6_readRay_17 : decode cX6_readRay 17 = .ok (.ireturn, 1) := dk_172 hN_cX6_readRay rfl rfl
theorem dX6_readRay_26 : decode cX6_readRay 26 = .ok (.iload_n 2, 1) := dk_28 hN_cX6_readRay rfl rfl
theorem dX6_readRay_27 : decode cX6_readRay 27 = .ok (.iconst 4, 1) := dk_7 hN_cX6_readRay rfl rfl
theorem dX6_readRay_28 : decode cX6_readRay 28 = .ok (.if_icmp .ge 119, 3) := dk_162 hN_cX6_readRay rfl rfl rfl
theorem dX6_readRay_147 : decode cX6_readRay 147 = .ok (.aload_n 0, 1) := dk_42 hN_cX6_readRay rfl rfl
theorem dX6_readRay_148 : decode cX6_readRay 148 = .ok (.getfield 12, 3) := dk_180 hN_cX6_readRay rfl rfl rfl
theorem dX6_readRay_151 : decode cX6_readRay 151 = .ok (.dup, 1) := dk_89 hN_cX6_readRay rfl rfl
theorem dX6_readRay_152 : decode cX6_readRay 152 = .ok (.getfield 171, 3) := dk_180 hN_cX6_readRay rfl rfl rfl
theorem dX6_readRay_155 : decode cX6_readRay 155 = .ok (.iconst 1, 1) := dk_4 hN_cX6_readRay rfl rfl
theorem dX6_readRay_156 : decode cX6_readRay 156 = .ok (.iadd, 1) := dk_96 hN_cX6_readRay rfl rfl
theorem dX6_readRay_157 : decode cX6_readRay 157 = .ok (.putfield 171, 3) := dk_181 hN_cX6_readRay rfl rfl rfl
theorem dX6_readRay_160 : decode cX6_readRay 160 = .ok (.iconst 1, 1) := dk_4 hN_cX6_readRay rfl rfl
theorem dX6_readRay_161 : decode cX6_readRay 161 = .ok (.ireturn, 1) := dk_172 hN_cX6_readRay rfl rfl
theorem dX6_readRay_31 : decode cX6_readRay 31 = .ok (.iload_n 2, 1) := dk_28 hN_cX6_readRay rfl rfl
theorem dX6_readRay_32 : decode cX6_readRay 32 = .ok (.ifCond .le 14, 3) := dk_158 hN_cX6_readRay rfl rfl rfl
theorem dX6_readRay_46 : decode cX6_readRay 46 = .ok (.aload_n 0, 1) := dk_42 hN_cX6_readRay rfl rfl
theorem dX6_readRay_47 : decode cX6_readRay 47 = .ok (.getfield 61, 3) := dk_180 hN_cX6_readRay rfl rfl rfl
theorem dX6_readRay_50 : decode cX6_readRay 50 = .ok (.bipush 45, 2) := dk_16 hN_cX6_readRay rfl rfl rfl
theorem dX6_readRay_52 : decode cX6_readRay 52 = .ok (.if_icmp .ne 7, 3) := dk_160 hN_cX6_readRay rfl rfl rfl
theorem dX6_readRay_59 : decode cX6_readRay 59 = .ok (.iconst 0, 1) := dk_3 hN_cX6_readRay rfl rfl
theorem dX6_readRay_60 : decode cX6_readRay 60 = .ok (.istore_n 3, 1) := dk_62 hN_cX6_readRay rfl rfl
theorem dX6_readRay_61 : decode cX6_readRay 61 = .ok (.iload_n 3, 1) := dk_29 hN_cX6_readRay rfl rfl
theorem dX6_readRay_62 : decode cX6_readRay 62 = .ok (.ifCond .eq 7, 3) := dk_153 hN_cX6_readRay rfl rfl rfl
theorem dX6_readRay_69 : decode cX6_readRay 69 = .ok (.aload_n 0, 1) := dk_42 hN_cX6_readRay rfl rfl
theorem dX6_readRay_70 : decode cX6_readRay 70 = .ok (.iconst 0, 1) := dk_3 hN_cX6_readRay rfl rfl
theorem dX6_readRay_71 : decode cX6_readRay 71 = .ok (.iconst 3, 1) := dk_6 hN_cX6_readRay rfl rfl
theorem dX6_readRay_72 : decode cX6_readRay 72 = .ok (.invokevirtual 118, 3) := dk_182 hN_cX6_readRay rfl rfl rfl
theorem dX6_readRay_75 : decode cX6_readRay 75 = .ok (.ifCond .ne 5, 3) := dk_154 hN_cX6_readRay rfl rfl rfl
theorem dX6_readRay_80 : decode cX6_readRay 80 = .ok (.iload_n 1, 1) := dk_27 hN_cX6_readRay rfl rfl
theorem dX6_readRay_81 : decode cX6_readRay 81 = .ok (.aload_n 0, 1) := dk_42 hN_cX6_readRay rfl rfl
theorem dX6_readRay_82 : decode cX6_readRay 82 = .ok (.getfield 122, 3) := dk_180 hN_cX6_readRay rfl rfl rfl
theorem dX6_readRay_85 : decode cX6_readRay 85 = .ok (.ior, 1) := dk_128 hN_cX6_readRay rfl rfl
theorem dX6_readRay_86 : decode cX6_readRay 86 = .ok (.istore_n 1, 1) := dk_60 hN_cX6_readRay rfl rfl
theorem dX6_readRay_87 : decode cX6_readRay 87 = .ok (.iload_n 2, 1) := dk_28 hN_cX6_readRay rfl rfl
theorem dX6_readRay_88 : decode cX6_readRay 88 = .ok (.iconst 3, 1) := dk_6 hN_cX6_readRay rfl rfl
theorem dX6_readRay_89 : decode cX6_readRay 89 = .ok (.if_icmp .ne 13, 3) := dk_160 hN_cX6_readRay rfl rfl rfl
theorem dX6_readRay_102 : decode cX6_readRay 102 = .ok (.aload_n 0, 1) := dk_42 hN_cX6_readRay rfl rfl
theorem dX6_readRay_103 : decode cX6_readRay 103 = .ok (.getfield 12, 3) := dk_180 hN_cX6_readRay rfl rfl rfl
theorem dX6_readRay_106 : decode cX6_readRay 106 = .ok (.getfield 174, 3) := dk_180 hN_cX6_readRay rfl rfl rfl
theorem dX6_readRay_109 : decode cX6_readRay 109 = .ok (.iconst 4, 1) := dk_7 hN_cX6_readRay rfl rfl
theorem dX6_readRay_110 : decode cX6_readRay 110 = .ok (.aload_n 0, 1) := dk_42 hN_cX6_readRay rfl rfl
theorem dX6_readRay_111 : decode cX6_readRay 111 = .ok (.getfield 12, 3) := dk_180 hN_cX6_readRay rfl rfl rfl
theorem dX6_readRay_114 : decode cX6_readRay 114 = .ok (.getfield 171, 3) := dk_180 hN_cX6_readRay rfl rfl rfl
theorem dX6_readRay_117 : decode cX6_readRay 117 = .ok (.imul, 1) := dk_104 hN_cX6_readRay rfl rfl
theorem dX6_readRay_118 : decode cX6_readRay 118 = .ok (.iload_n 2, 1) := dk_28 hN_cX6_readRay rfl rfl
theorem dX6_readRay_119 : decode cX6_readRay 119 = .ok (.iadd, 1) := dk_96 hN_cX6_readRay rfl rfl
theorem dX6_readRay_120 : decode cX6_readRay 120 = .ok (.iload_n 3, 1) := dk_29 hN_cX6_readRay rfl rfl
theorem dX6_readRay_121 : decode cX6_readRay 121 = .ok (.ifCond .eq 11, 3) := dk_153 hN_cX6_readRay rfl rfl rfl
theorem dX6_readRay_132 : decode cX6_readRay 132 = .ok (.aload_n 0, 1) := dk_42 hN_cX6_readRay rfl rfl
theorem dX6_readRay_133 : decode cX6_readRay 133 = .ok (.getfield 122, 3) := dk_180 hN_cX6_readRay rfl rfl rfl
theorem dX6_readRay_136 : decode cX6_readRay 136 = .ok (.iastore, 1) := dk_79 hN_cX6_readRay rfl rfl
theorem dX6_readRay_137 : decode cX6_readRay 137 = .ok (.aload_n 0, 1) := dk_42 hN_cX6_readRay rfl rfl
theorem dX6_readRay_138 : decode cX6_readRay 138 = .ok (.invokevirtual 51, 3) := dk_182 hN_cX6_readRay rfl rfl rfl
theorem dX6_readRay_141 : decode cX6_readRay 141 = .ok (.iinc 2 1, 3) := dk_132 hN_cX6_readRay rfl rfl rfl rfl
theorem dX6_readRay_144 : decode cX6_readRay 144 = .ok (.goto (-118), 3) := dk_167 hN_cX6_readRay rfl rfl rfl
theorem dX6_readRay_92 : decode cX6_readRay 92 = .ok (.iload_n 1, 1) := dk_27 hN_cX6_readRay rfl rfl
theorem dX6_readRay_93 : decode cX6_readRay 93 = .ok (.ifCond .ne 9, 3) := dk_154 hN_cX6_readRay rfl rfl rfl
theorem dX6_readRay_96 : decode cX6_readRay 96 = .ok (.aload_n 0, 1) := dk_42 hN_cX6_readRay rfl rfl
theorem dX6_readRay_97 : decode cX6_readRay 97 = .ok (.iconst 4, 1) := dk_7 hN_cX6_readRay rfl rfl
theorem dX6_readRay_98 : decode cX6_readRay 98 = .ok (.invokevirtual 70, 3) := dk_182 hN_cX6_readRay rfl rfl rfl
theorem dX6_readRay_101 : decode cX6_readRay 101 = .ok (.ireturn, 1) := dk_172 hN_cX6_readRay rfl rfl
theorem dX6_readRay_78 : decode cX6_readRay 78 = .ok (.iconst 0, 1) := dk_3 hN_cX6_readRay rfl rfl
theorem dX6_readRay_79 : decode cX6_readRay 79 = .ok (.ireturn, 1) := dk_172 hN_cX6_readRay rfl rfl
theorem dX6_readRay_55 : decode cX6_readRay 55 = .ok (.iconst 1, 1) := dk_4 hN_cX6_readRay rfl rfl
theorem dX6_readRay_56 : decode cX6_readRay 56 = .ok (.goto 4, 3) := dk_167 hN_cX6_readRay rfl rfl rfl
theorem dX6_readRay_65 : decode cX6_readRay 65 = .ok (.aload_n 0, 1) := dk_42 hN_cX6_readRay rfl rfl
theorem dX6_readRay_66 : decode cX6_readRay 66 = .ok (.invokevirtual 51, 3) := dk_182 hN_cX6_readRay rfl rfl rfl
theorem dX6_readRay_124 : decode cX6_readRay 124 = .ok (.aload_n 0, 1) := dk_42 hN_cX6_readRay rfl rfl
theorem dX6_readRay_125 : decode cX6_readRay 125 = .ok (.getfield 122, 3) := dk_180 hN_cX6_readRay rfl rfl rfl
theorem dX6_readRay_128 : decode cX6_readRay 128 = .ok (.ineg, 1) := dk_116 hN_cX6_readRay rfl rfl
theorem dX6_readRay_129 : decode cX6_readRay 129 = .ok (.goto 7, 3) := dk_167 hN_cX6_readRay rfl rfl rfl
theorem dX6_readRay_35 : decode cX6_readRay 35 = .ok (.aload_n 0, 1) := dk_42 hN_cX6_readRay rfl rfl
theorem dX6_readRay_36 : decode cX6_readRay 36 = .ok (.bipush 44, 2) := dk_16 hN_cX6_readRay rfl rfl rfl
theorem dX6_readRay_38 : decode cX6_readRay 38 = .ok (.invokevirtual 74, 3) := dk_182 hN_cX6_readRay rfl rfl rfl
theorem dX6_readRay_41 : decode cX6_readRay 41 = .ok (.ifCond .ne 5, 3) := dk_154 hN_cX6_readRay rfl rfl rfl
theorem dX6_readRay_44 : decode cX6_readRay 44 = .ok (.iconst 0, 1) := dk_3 hN_cX6_readRay rfl rfl
theorem dX6_readRay_45 : decode cX6_readRay 45 = .ok (.ireturn, 1) := dk_172 hN_cX6_readRay rfl rfl
theorem dX6_readRun_0 : decode cX6_readRun 0 = .ok (.aload_n 0, 1) := dk_42 hN_cX6_readRun rfl rfl
theorem dX6_readRun_1 : decode cX6_readRun 1 = .ok (.getfield 12, 3) := dk_180 hN_cX6_readRun rfl rfl rfl
theorem dX6_readRun_4 : decode cX6_readRun 4 = .ok (.getfield 177, 3) := dk_180 hN_cX6_readRun rfl rfl rfl
theorem dX6_readRun_7 : decode cX6_readRun 7 = .ok (.iconst 4, 1) := dk_7 hN_cX6_readRun rfl rfl
theorem dX6_readRun_8 : decode cX6_readRun 8 = .ok (.if_icmp .lt 9, 3) := dk_161 hN_cX6_readRun rfl rfl rfl
theorem dX6_readRun_17 : decode cX6_readRun 17 = .ok (.iconst 0, 1) := dk_3 hN_cX6_readRun rfl rfl
theorem dX6_readRun_18 : decode cX6_readRun 18 = .ok (.istore_n 1, 1) := dk_60 hN_cX6_readRun rfl rfl
theorem dX6_readRun_11 : decode cX6_readRun 11 = .ok (.aload_n 0, 1) := dk_42 hN_cX6_readRun rfl rfl
theorem dX6_readRun_12 : decode cX6_readRun 12 = .ok (.iconst 5, 1) := dk_8 hN_cX6_readRun rfl rfl
theorem dX6_readRun_13 : decode cX6_readRun 13 = .ok (.invokevirtual 70, 3) := dk_182 hN_cX6_readRun rfl rfl rfl
theorem dX6_readRun_16 : decode cX6_readRun 16 = .ok (.ireturn, 1) := dk_172 hN_cX6_readRun rfl rfl
theorem dX6_readRun_19 : decode cX6_readRun 19 = .ok (.iload_n 1, 1) := dk_27 hN_cX6_readRun rfl rfl
theorem dX6_readRun_20 : decode cX6_readRun 20 = .ok (.bipush 6, 2) := dk_16 hN_cX6_readRun rfl rfl rfl
theorem dX6_readRun_22 : decode cX6_readRun 22 = .ok (.if_icmp .gt 153, 3) := dk_163 hN_cX6_readRun rfl rfl rfl
theorem dX6_readRun_175 : decode cX6_readRun 175 = .ok (.aload_n 0, 1) := dk_42 hN_cX6_readRun rfl rfl
theorem dX6_readRun_176 : decode cX6_readRun 176 = .ok (.iconst 5, 1) := dk_8 hN_cX6_readRun rfl rfl
theorem dX6_readRun_177 : decode cX6_readRun 177 = .ok (.invokevirtual 70, 3) := dk_182 hN_cX6_readRun rfl rfl rfl
theorem dX6_readRun_180 : decode cX6_readRun 180 = .ok (.ireturn, 1) := dk_172 hN_cX6_readRun rfl rfl
theorem dX6_readRun_25 : decode cX6_readRun 25 = .ok (.aload_n 0, 1) := dk_42 hN_cX6_readRun rfl rfl
theorem dX6_readRun_26 : decode cX6_readRun 26 = .ok (.invokevirtual 51, 3) := dk_182 hN_cX6_readRun rfl rfl rfl
theorem dX6_readRun_29 : decode cX6_readRun 29 = .ok (.aload_n 0, 1) := dk_42 hN_cX6_readRun rfl rfl
theorem dX6_readRun_30 : decode cX6_readRun 30 = .ok (.aload_n 0, 1) := dk_42 hN_cX6_readRun rfl rfl
theorem dX6_readRun_31 : decode cX6_readRun 31 = .ok (.getfield 18, 3) := dk_180 hN_cX6_readRun rfl rfl rfl
theorem dX6_readRun_34 : decode cX6_readRun 34 = .ok (.aload_n 0, 1) := dk_42 hN_cX6_readRun rfl rfl
theorem dX6_readRun_35 : decode cX6_readRun 35 = .ok (.getfield 12, 3) := dk_180 hN_cX6_readRun rfl rfl rfl
theorem dX6_readRun_38 : decode cX6_readRun 38 = .ok (.getfield 67, 3) := dk_180 hN_cX6_readRun rfl rfl rfl
theorem dX6_readRun_41 : decode cX6_readRun 41 = .ok (.invokevirtual 138, 3) := dk_182 hN_cX6_readRun rfl rfl rfl
theorem dX6_readRun_44 : decode cX6_readRun 44 = .ok (.istore_n 2, 1) := dk_61 hN_cX6_readRun rfl rfl
theorem dX6_readRun_45 : decode cX6_readRun 45 = .ok (.iload_n 2, 1) := dk_28 hN_cX6_readRun rfl rfl
theorem dX6_readRun_46 : decode cX6_readRun 46 = .ok (.ifCond .ge 5, 3) := dk_156 hN_cX6_readRun rfl rfl rfl
theorem dX6_readRun_51 : decode cX6_readRun 51 = .ok (.iload_n 1, 1) := dk_27 hN_cX6_readRun rfl rfl
theorem dX6_readRun_52 : decode cX6_readRun 52 = .ok (.bipush 6, 2) := dk_16 hN_cX6_readRun rfl rfl rfl
theorem dX6_readRun_54 : decode cX6_readRun 54 = .ok (.if_icmp .lt 9, 3) := dk_161 hN_cX6_readRun rfl rfl rfl
theorem dX6_readRun_63 : decode cX6_readRun 63 = .ok (.aload_n 0, 1) := dk_42 hN_cX6_readRun rfl rfl
theorem dX6_readRun_64 : decode cX6_readRun 64 = .ok (.invokevirtual 51, 3) := dk_182 hN_cX6_readRun rfl rfl rfl
theorem dX6_readRun_67 : decode cX6_readRun 67 = .ok (.aload_n 0, 1) := dk_42 hN_cX6_readRun rfl rfl
theorem dX6_readRun_68 : decode cX6_readRun 68 = .ok (.iconst 0, 1) := dk_3 hN_cX6_readRun rfl rfl
theorem dX6_readRun_69 : decode cX6_readRun 69 = .ok (.iconst 1, 1) := dk_4 hN_cX6_readRun rfl rfl
theorem dX6_readRun_70 : decode cX6_readRun 70 = .ok (.invokevirtual 118, 3) := dk_182 hN_cX6_readRun rfl rfl rfl
theorem dX6_readRun_73 : decode cX6_readRun 73 = .ok (.ifCond .ne 5, 3) := dk_154 hN_cX6_readRun rfl rfl rfl
theorem dX6_readRun_78 : decode cX6_readRun 78 = .ok (.aload_n 0, 1) := dk_42 hN_cX6_readRun rfl rfl
theorem dX6_readRun_79 : decode cX6_readRun 79 = .ok (.getfield 12, 3) := dk_180 hN_cX6_readRun rfl rfl rfl
theorem dX6_readRun_82 : decode cX6_readRun 82 = .ok (.getfield 180, 3) := dk_180 hN_cX6_readRun rfl rfl rfl
theorem dX6_readRun_85 : decode cX6_readRun 85 = .ok (.bipush 6, 2) := dk_16 hN_cX6_readRun rfl rfl rfl
theorem dX6_readRun_87 : decode cX6_readRun 87 = .ok (.aload_n 0, 1) := dk_42 hN_cX6_readRun rfl rfl
theorem dX6_readRun_88 : decode cX6_readRun 88 = .ok (.getfield 12, 3) := dk_180 hN_cX6_readRun rfl rfl rfl
theorem dX6_readRun_91 : decode cX6_readRun 91 = .ok (.getfield 177, 3) := dk_180 hN_cX6_readRun rfl rfl rfl
theorem dX6_readRun_94 : decode cX6_readRun 94 = .ok (.imul, 1) := dk_104 hN_cX6_readRun rfl rfl
theorem dX6_readRun_95 : decode cX6_readRun 95 = .ok (.iload_n 1, 1) := dk_27 hN_cX6_readRun rfl rfl
theorem dX6_readRun_96 : decode cX6_readRun 96 = .ok (.iadd, 1) := dk_96 hN_cX6_readRun rfl rfl
theorem dX6_readRun_97 : decode cX6_readRun 97 = .ok (.iload_n 2, 1) := dk_28 hN_cX6_readRun rfl rfl
theorem dX6_readRun_98 : decode cX6_readRun 98 = .ok (.iastore, 1) := dk_79 hN_cX6_readRun rfl rfl
theorem dX6_readRun_99 : decode cX6_readRun 99 = .ok (.aload_n 0, 1) := dk_42 hN_cX6_readRun rfl rfl
theorem dX6_readRun_100 : decode cX6_readRun 100 = .ok (.getfield 12, 3) := dk_180 hN_cX6_readRun rfl rfl rfl
theorem dX6_readRun_103 : decode cX6_readRun 103 = .ok (.getfield 183, 3) := dk_180 hN_cX6_readRun rfl rfl rfl
theorem dX6_readRun_106 : decode cX6_readRun 106 = .ok (.bipush 6, 2) := dk_16 hN_cX6_readRun rfl rfl rfl
theorem dX6_readRun_108 : decode cX6_readRun 108 = .ok (.aload_n 0, 1) := dk_42 hN_cX6_readRun rfl rfl
theorem dX6_readRun_109 : decode cX6_readRun 109 = .ok (.getfield 12, 3) := dk_180 hN_cX6_readRun rfl rfl rfl
theorem dX6_readRun_112 : decode cX6_readRun 112 = .ok (.getfield 177, 3) := dk_180 hN_cX6_readRun rfl rfl rfl
theorem dX6_readRun_115 : decode cX6_readRun 115 = .ok (.imul, 1) := dk_104 hN_cX6_readRun rfl rfl
theorem dX6_readRun_116 : decode cX6_readRun 116 = .ok (.iload_n 1, 1) := dk_27 hN_cX6_readRun rfl rfl
theorem dX6_readRun_117 : decode cX6_readRun 117 = .ok (.iadd, 1) := dk_96 hN_cX6_readRun rfl rfl
theorem dX6_readRun_118 : decode cX6_readRun 118 = .ok (.aload_n 0, 1) := dk_42 hN_cX6_readRun rfl rfl
theorem dX6_readRun_119 : decode cX6_readRun 119 = .ok (.getfield 122, 3) := dk_180 hN_cX6_readRun rfl rfl rfl
theorem dX6_readRun_122 : decode cX6_readRun 122 = .ok (.iastore, 1) := dk_79 hN_cX6_readRun rfl rfl
theorem dX6_readRun_123 : decode cX6_readRun 123 = .ok (.aload_n 0, 1) := dk_42 hN_cX6_readRun rfl rfl
theorem dX6_readRun_124 : decode cX6_readRun 124 = .ok (.getfield 12, 3) := dk_180 hN_cX6_readRun rfl rfl rfl
theorem dX6_readRun_127 : decode cX6_readRun 127 = .ok (.getfield 186, 3) := dk_180 hN_cX6_readRun rfl rfl rfl
theorem dX6_readRun_130 : decode cX6_readRun 130 = .ok (.aload_n 0, 1) := dk_42 hN_cX6_readRun rfl rfl
theorem dX6_readRun_131 : decode cX6_readRun 131 = .ok (.getfield 12, 3) := dk_180 hN_cX6_readRun rfl rfl rfl
theorem dX6_readRun_134 : decode cX6_readRun 134 = .ok (.getfield 177, 3) := dk_180 hN_cX6_readRun rfl rfl rfl
theorem dX6_readRun_137 : decode cX6_readRun 137 = .ok (.iload_n 1, 1) := dk_27 hN_cX6_readRun rfl rfl
theorem dX6_readRun_138 : decode cX6_readRun 138 = .ok (.iconst 1, 1) := dk_4 hN_cX6_readRun rfl rfl
theorem dX6_readRun_139 : decode cX6_readRun 139 = .ok (.iadd, 1) := dk_96 hN_cX6_readRun rfl rfl
theorem dX6_readRun_140 : decode cX6_readRun 140 = .ok (.iastore, 1) := dk_79 hN_cX6_readRun rfl rfl
theorem dX6_readRun_141 : decode cX6_readRun 141 = .ok (.aload_n 0, 1) := dk_42 hN_cX6_readRun rfl rfl
theorem dX6_readRun_142 : decode cX6_readRun 142 = .ok (.invokevirtual 51, 3) := dk_182 hN_cX6_readRun rfl rfl rfl
theorem dX6_readRun_145 : decode cX6_readRun 145 = .ok (.aload_n 0, 1) := dk_42 hN_cX6_readRun rfl rfl
theorem dX6_readRun_146 : decode cX6_readRun 146 = .ok (.getfield 61, 3) := dk_180 hN_cX6_readRun rfl rfl rfl
theorem dX6_readRun_149 : decode cX6_readRun 149 = .ok (.bipush 44, 2) := dk_16 hN_cX6_readRun rfl rfl rfl
theorem dX6_readRun_151 : decode cX6_readRun 151 = .ok (.if_icmp .eq 18, 3) := dk_159 hN_cX6_readRun rfl rfl rfl
theorem dX6_readRun_169 : decode cX6_readRun 169 = .ok (.iinc 1 1, 3) := dk_132 hN_cX6_readRun rfl rfl rfl rfl
theorem dX6_readRun_172 : decode cX6_readRun 172 = .ok (.goto (-153), 3) := dk_167 hN_cX6_readRun rfl rfl rfl
theorem dX6_readRun_154 : decode cX6_readRun 154 = .ok (.aload_n 0, 1) := dk_42 hN_cX6_readRun rfl rfl
theorem dX6_readRun_155 : decode cX6_readRun 155 = .ok (.getfield 12, 3) := dk_180 hN_cX6_readRun rfl rfl rfl
theorem dX6_readRun_158 : decode cX6_readRun 158 = .ok (.dup, 1) := dk_89 hN_cX6_readRun rfl rfl
theorem dX6_readRun_159 : decode cX6_readRun 159 = .ok (.getfield 177, 3) := dk_180 hN_cX6_readRun rfl rfl rfl
theorem dX6_readRun_162 : decode cX6_readRun 162 = .ok (.iconst 1, 1) := dk_4 hN_cX6_readRun rfl rfl
theorem dX6_readRun_163 : decode cX6_readRun 163 = .ok (.iadd, 1) := dk_96 hN_cX6_readRun rfl rfl
theorem dX6_readRun_164 : decode cX6_readRun 164 = .ok (.putfield 177, 3) := dk_181 hN_cX6_readRun rfl rfl rfl
theorem dX6_readRun_167 : decode cX6_readRun 167 = .ok (.iconst 1, 1) := dk_4 hN_cX6_readRun rfl rfl
theorem dX6_readRun_168 : decode cX6_readRun 168 = .ok (.ireturn, 1) := dk_172 hN_cX6_readRun rfl rfl
theorem dX6_readRun_76 : decode cX6_readRun 76 = .ok (.iconst 0, 1) := dk_3 hN_cX6_readRun rfl rfl
theorem dX6_readRun_77 : decode cX6_readRun 77 = .ok (.ireturn, 1) := dk_172 hN_cX6_readRun rfl rfl
theorem dX6_readRun_57 : decode cX6_readRun 57 = .ok (.aload_n 0, 1) := dk_42 hN_cX6_readRun rfl rfl
theorem dX6_readRun_58 : decode cX6_readRun 58 = .ok (.iconst 5, 1) := dk_8 hN_cX6_readRun rfl rfl
theorem dX6_readRun_59 : decode cX6_readRun 59 = .ok (.invokevirtual 70, 3) := dk_182 hN_cX6_readRun rfl rfl rfl
theorem dX6_readRun_62 : decode cX6_readRun 62 = .ok (.ireturn, 1) := dk_172 hN_cX6_readRun rfl rfl
theorem dX6_readRun_49 : decode cX6_readRun 49 = .ok (.iconst 0, 1) := dk_3 hN_cX6_readRun rfl rfl
theorem dX6_readRun_50 : decode cX6_readRun 50 = .ok (.ireturn, 1) := dk_172 hN_cX6_readRun rfl rfl
theorem dX6_refuse_0 : decode cX6_refuse 0 = .ok (.aload_n 0, 1) := dk_42 hN_cX6_refuse rfl rfl
theorem dX6_refuse_1 : decode cX6_refuse 1 = .ok (.iload_n 1, 1) := dk_27 hN_cX6_refuse rfl rfl
theorem dX6_refuse_2 : decode cX6_refuse 2 = .ok (.putfield 32, 3) := dk_181 hN_cX6_refuse rfl rfl rfl
theorem dX6_refuse_5 : decode cX6_refuse 5 = .ok (.aload_n 0, 1) := dk_42 hN_cX6_refuse rfl rfl
theorem dX6_refuse_6 : decode cX6_refuse 6 = .ok (.aload_n 0, 1) := dk_42 hN_cX6_refuse rfl rfl
theorem dX6_refuse_7 : decode cX6_refuse 7 = .ok (.getfield 189, 3) := dk_180 hN_cX6_refuse rfl rfl rfl
theorem dX6_refuse_10 : decode cX6_refuse 10 = .ok (.putfield 36, 3) := dk_181 hN_cX6_refuse rfl rfl rfl
theorem dX6_refuse_13 : decode cX6_refuse 13 = .ok (.iconst 0, 1) := dk_3 hN_cX6_refuse rfl rfl
theorem dX6_refuse_14 : decode cX6_refuse 14 = .ok (.ireturn, 1) := dk_172 hN_cX6_refuse rfl rfl
theorem dX6_pass_0 : decode cX6_pass 0 = .ok (.aload_n 0, 1) := dk_42 hN_cX6_pass rfl rfl
theorem dX6_pass_1 : decode cX6_pass 1 = .ok (.getfield 61, 3) := dk_180 hN_cX6_pass rfl rfl rfl
theorem dX6_pass_4 : decode cX6_pass 4 = .ok (.iload_n 1, 1) := dk_27 hN_cX6_pass rfl rfl
theorem dX6_pass_5 : decode cX6_pass 5 = .ok (.if_icmp .eq 9, 3) := dk_159 hN_cX6_pass rfl rfl rfl
theorem dX6_pass_14 : decode cX6_pass 14 = .ok (.aload_n 0, 1) := dk_42 hN_cX6_pass rfl rfl
theorem dX6_pass_15 : decode cX6_pass 15 = .ok (.invokevirtual 51, 3) := dk_182 hN_cX6_pass rfl rfl rfl
theorem dX6_pass_18 : decode cX6_pass 18 = .ok (.iconst 1, 1) := dk_4 hN_cX6_pass rfl rfl
theorem dX6_pass_19 : decode cX6_pass 19 = .ok (.ireturn, 1) := dk_172 hN_cX6_pass rfl rfl
theorem dX6_pass_8 : decode cX6_pass 8 = .ok (.aload_n 0, 1) := dk_42 hN_cX6_pass rfl rfl
theorem dX6_pass_9 : decode cX6_pass 9 = .ok (.iconst 1, 1) := dk_4 hN_cX6_pass rfl rfl
theorem dX6_pass_10 : decode cX6_pass 10 = .ok (.invokevirtual 70, 3) := dk_182 hN_cX6_pass rfl rfl rfl
theorem dX6_pass_13 : decode cX6_pass 13 = .ok (.ireturn, 1) := dk_172 hN_cX6_pass rfl rfl
theorem dX6_passWord_0 : decode cX6_passWord 0 = .ok (.aload_n 0, 1) := dk_42 hN_cX6_passWord rfl rfl
theorem dX6_passWord_1 : decode cX6_passWord 1 = .ok (.aload_n 1, 1) := dk_43 hN_cX6_passWord rfl rfl
theorem dX6_passWord_2 : decode cX6_passWord 2 = .ok (.invokevirtual 78, 3) := dk_182 hN_cX6_passWord rfl rfl rfl
theorem dX6_passWord_5 : decode cX6_passWord 5 = .ok (.ifCond .ne 9, 3) := dk_154 hN_cX6_passWord rfl rfl rfl
theorem dX6_passWord_14 : decode cX6_passWord 14 = .ok (.aload_n 0, 1) := dk_42 hN_cX6_passWord rfl rfl
theorem dX6_passWord_15 : decode cX6_passWord 15 = .ok (.invokevirtual 51, 3) := dk_182 hN_cX6_passWord rfl rfl rfl
theorem dX6_passWord_18 : decode cX6_passWord 18 = .ok (.iconst 1, 1) := dk_4 hN_cX6_passWord rfl rfl
theorem dX6_passWord_19 : decode cX6_passWord 19 = .ok (.ireturn, 1) := dk_172 hN_cX6_passWord rfl rfl
theorem dX6_passWord_8 : decode cX6_passWord 8 = .ok (.aload_n 0, 1) := dk_42 hN_cX6_passWord rfl rfl
theorem dX6_passWord_9 : decode cX6_passWord 9 = .ok (.iconst 1, 1) := dk_4 hN_cX6_passWord rfl rfl
theorem dX6_passWord_10 : decode cX6_passWord 10 = .ok (.invokevirtual 70, 3) := dk_182 hN_cX6_passWord rfl rfl rfl
theorem dX6_passWord_13 : decode cX6_passWord 13 = .ok (.ireturn, 1) := dk_172 hN_cX6_passWord rfl rfl
theorem dX6_needWhole_0 : decode cX6_needWhole 0 = .ok (.aload_n 0, 1) := dk_42 hN_cX6_needWhole rfl rfl
theorem dX6_needWhole_1 : decode cX6_needWhole 1 = .ok (.getfield 61, 3) := dk_180 hN_cX6_needWhole rfl rfl rfl
theorem dX6_needWhole_4 : decode cX6_needWhole 4 = .ok (.iconst 3, 1) := dk_6 hN_cX6_needWhole rfl rfl
theorem dX6_needWhole_5 : decode cX6_needWhole 5 = .ok (.if_icmp .eq 9, 3) := dk_159 hN_cX6_needWhole rfl rfl rfl
theorem dX6_needWhole_14 : decode cX6_needWhole 14 = .ok (.aload_n 0, 1) := dk_42 hN_cX6_needWhole rfl rfl
theorem dX6_needWhole_15 : decode cX6_needWhole 15 = .ok (.getfield 122, 3) := dk_180 hN_cX6_needWhole rfl rfl rfl
theorem dX6_needWhole_18 : decode cX6_needWhole 18 = .ok (.iload_n 1, 1) := dk_27 hN_cX6_needWhole rfl rfl
theorem dX6_needWhole_19 : decode cX6_needWhole 19 = .ok (.if_icmp .lt 11, 3) := dk_161 hN_cX6_needWhole rfl rfl rfl
theorem dX6_needWhole_30 : decode cX6_needWhole 30 = .ok (.aload_n 0, 1) := dk_42 hN_cX6_needWhole rfl rfl
theorem dX6_needWhole_31 : decode cX6_needWhole 31 = .ok (.iconst 4, 1) := dk_7 hN_cX6_needWhole rfl rfl
theorem dX6_needWhole_32 : decode cX6_needWhole 32 = .ok (.invokevirtual 70, 3) := dk_182 hN_cX6_needWhole rfl rfl rfl
theorem dX6_needWhole_35 : decode cX6_needWhole 35 = .ok (.ifCond .eq 7, 3) := dk_153 hN_cX6_needWhole rfl rfl rfl
theorem dX6_needWhole_42 : decode cX6_needWhole 42 = .ok (.iconst 0, 1) := dk_3 hN_cX6_needWhole rfl rfl
theorem dX6_needWhole_43 : decode cX6_needWhole 43 = .ok (.ireturn, 1) := dk_172 hN_cX6_needWhole rfl rfl
theorem dX6_needWhole_38 : decode cX6_needWhole 38 = .ok (.iconst 1, 1) := dk_4 hN_cX6_needWhole rfl rfl
theorem dX6_needWhole_39 : decode cX6_needWhole 39 = .ok (.goto 4, 3) := dk_167 hN_cX6_needWhole rfl rfl rfl
theorem dX6_needWhole_22 : decode cX6_needWhole 22 = .ok (.aload_n 0, 1) := dk_42 hN_cX6_needWhole rfl rfl
theorem dX6_needWhole_23 : decode cX6_needWhole 23 = .ok (.getfield 122, 3) := dk_180 hN_cX6_needWhole rfl rfl rfl
theorem dX6_needWhole_26 : decode cX6_needWhole 26 = .ok (.iload_n 2, 1) := dk_28 hN_cX6_needWhole rfl rfl
theorem dX6_needWhole_27 : decode cX6_needWhole 27 = .ok (.if_icmp .le 11, 3) := dk_164 hN_cX6_needWhole rfl rfl rfl
theorem dX6_needWhole_8 : decode cX6_needWhole 8 = .ok (.aload_n 0, 1) := dk_42 hN_cX6_needWhole rfl rfl
theorem dX6_needWhole_9 : decode cX6_needWhole 9 = .ok (.iconst 1, 1) := dk_4 hN_cX6_needWhole rfl rfl
theorem dX6_needWhole_10 : decode cX6_needWhole 10 = .ok (.invokevirtual 70, 3) := dk_182 hN_cX6_needWhole rfl rfl rfl
theorem dX6_needWhole_13 : decode cX6_needWhole 13 = .ok (.ireturn, 1) := dk_172 hN_cX6_needWhole rfl rfl
theorem dX6_needNewName_0 : decode cX6_needNewName 0 = .ok (.aload_n 0, 1) := dk_42 hN_cX6_needNewName rfl rfl
theorem dX6_needNewName_1 : decode cX6_needNewName 1 = .ok (.invokevirtual 192, 3) := dk_182 hN_cX6_needNewName rfl rfl rfl
theorem dX6_needNewName_4 : decode cX6_needNewName 4 = .ok (.ifCond .ne 9, 3) := dk_154 hN_cX6_needNewName rfl rfl rfl
theorem dX6_needNewName_13 : decode cX6_needNewName 13 = .ok (.aload_n 0, 1) := dk_42 hN_cX6_needNewName rfl rfl
theorem dX6_needNewName_14 : decode cX6_needNewName 14 = .ok (.aload_n 0, 1) := dk_42 hN_cX6_needNewName rfl rfl
theorem dX6_needNewName_15 : decode cX6_needNewName 15 = .ok (.getfield 18, 3) := dk_180 hN_cX6_needNewName rfl rfl rfl
theorem dX6_needNewName_18 : decode cX6_needNewName 18 = .ok (.aload_n 0, 1) := dk_42 hN_cX6_needNewName rfl rfl
theorem dX6_needNewName_19 : decode cX6_needNewName 19 = .ok (.getfield 12, 3) := dk_180 hN_cX6_needNewName rfl rfl rfl
theorem dX6_needNewName_22 : decode cX6_needNewName 22 = .ok (.getfield 67, 3) := dk_180 hN_cX6_needNewName rfl rfl rfl
theorem dX6_needNewName_25 : decode cX6_needNewName 25 = .ok (.invokevirtual 195, 3) := dk_182 hN_cX6_needNewName rfl rfl rfl
theorem dX6_needNewName_28 : decode cX6_needNewName 28 = .ok (.ifCond .ge 21, 3) := dk_156 hN_cX6_needNewName rfl rfl rfl
theorem dX6_needNewName_49 : decode cX6_needNewName 49 = .ok (.iconst 1, 1) := dk_4 hN_cX6_needNewName rfl rfl
theorem dX6_needNewName_50 : decode cX6_needNewName 50 = .ok (.goto 4, 3) := dk_167 hN_cX6_needNewName rfl rfl rfl
theorem dX6_needNewName_54 : decode cX6_needNewName 54 = .ok (.istore_n 1, 1) := dk_60 hN_cX6_needNewName rfl rfl
theorem dX6_needNewName_55 : decode cX6_needNewName 55 = .ok (.iload_n 1, 1) := dk_27 hN_cX6_needNewName rfl rfl
theorem dX6_needNewName_56 : decode cX6_needNewName 56 = .ok (.ifCond .eq 11, 3) := dk_153 hN_cX6_needNewName rfl rfl rfl
theorem dX6_needNewName_59 : decode cX6_needNewName 59 = .ok (.aload_n 0, 1) := dk_42 hN_cX6_needNewName rfl rfl
theorem dX6_needNewName_60 : decode cX6_needNewName 60 = .ok (.iconst 3, 1) := dk_6 hN_cX6_needNewName rfl rfl
theorem dX6_needNewName_61 : decode cX6_needNewName 61 = .ok (.invokevirtual 70, 3) := dk_182 hN_cX6_needNewName rfl rfl rfl
theorem dX6_needNewName_64 : decode cX6_needNewName 64 = .ok (.ifCond .eq 7, 3) := dk_153 hN_cX6_needNewName rfl rfl rfl
theorem dX6_needNewName_71 : decode cX6_needNewName 71 = .ok (.iconst 0, 1) := dk_3 hN_cX6_needNewName rfl rfl
theorem dX6_needNewName_72 : decode cX6_needNewName 72 = .ok (.ireturn, 1) := dk_172 hN_cX6_needNewName rfl rfl
theorem dX6_needNewName_67 : decode cX6_needNewName 67 = .ok (.iconst 1, 1) := dk_4 hN_cX6_needNewName rfl rfl
theorem dX6_needNewName_68 : decode cX6_needNewName 68 = .ok (.goto 4, 3) := dk_167 hN_cX6_needNewName rfl rfl rfl
theorem dX6_needNewName_31 : decode cX6_needNewName 31 = .ok (.aload_n 0, 1) := dk_42 hN_cX6_needNewName rfl rfl
theorem dX6_needNewName_32 : decode cX6_needNewName 32 = .ok (.aload_n 0, 1) := dk_42 hN_cX6_needNewName rfl rfl
theorem dX6_needNewName_33 : decode cX6_needNewName 33 = .ok (.getfield 22, 3) := dk_180 hN_cX6_needNewName rfl rfl rfl
theorem dX6_needNewName_36 : decode cX6_needNewName 36 = .ok (.aload_n 0, 1) := dk_42 hN_cX6_needNewName rfl rfl
theorem dX6_needNewName_37 : decode cX6_needNewName 37 = .ok (.getfield 12, 3) := dk_180 hN_cX6_needNewName rfl rfl rfl
theorem dX6_needNewName_40 : decode cX6_needNewName 40 = .ok (.getfield 128, 3) := dk_180 hN_cX6_needNewName rfl rfl rfl
theorem dX6_needNewName_43 : decode cX6_needNewName 43 = .ok (.invokevirtual 195, 3) := dk_182 hN_cX6_needNewName rfl rfl rfl
theorem dX6_needNewName_46 : decode cX6_needNewName 46 = .ok (.ifCond .lt 7, 3) := dk_155 hN_cX6_needNewName rfl rfl rfl
theorem dX6_needNewName_53 : decode cX6_needNewName 53 = .ok (.iconst 0, 1) := dk_3 hN_cX6_needNewName rfl rfl
theorem dX6_needNewName_7 : decode cX6_needNewName 7 = .ok (.aload_n 0, 1) := dk_42 hN_cX6_needNewName rfl rfl
theorem dX6_needNewName_8 : decode cX6_needNewName 8 = .ok (.iconst 1, 1) := dk_4 hN_cX6_needNewName rfl rfl
theorem dX6_needNewName_9 : decode cX6_needNewName 9 = .ok (.invokevirtual 70, 3) := dk_182 hN_cX6_needNewName rfl rfl rfl
theorem dX6_needNewName_12 : decode cX6_needNewName 12 = .ok (.ireturn, 1) := dk_172 hN_cX6_needNewName rfl rfl
theorem dX6_nameAmong_0 : decode cX6_nameAmong 0 = .ok (.aload_n 0, 1) := dk_42 hN_cX6_nameAmong rfl rfl
theorem dX6_nameAmong_1 : decode cX6_nameAmong 1 = .ok (.invokevirtual 192, 3) := dk_182 hN_cX6_nameAmong rfl rfl rfl
theorem dX6_nameAmong_4 : decode cX6_nameAmong 4 = .ok (.ifCond .ne 11, 3) := dk_154 hN_cX6_nameAmong rfl rfl rfl
theorem dX6_nameAmong_15 : decode cX6_nameAmong 15 = .ok (.aload_n 0, 1) := dk_42 hN_cX6_nameAmong rfl rfl
theorem dX6_nameAmong_16 : decode cX6_nameAmong 16 = .ok (.aload_n 1, 1) := dk_43 hN_cX6_nameAmong rfl rfl
theorem dX6_nameAmong_17 : decode cX6_nameAmong 17 = .ok (.iload_n 2, 1) := dk_28 hN_cX6_nameAmong rfl rfl
theorem dX6_nameAmong_18 : decode cX6_nameAmong 18 = .ok (.invokevirtual 195, 3) := dk_182 hN_cX6_nameAmong rfl rfl rfl
theorem dX6_nameAmong_21 : decode cX6_nameAmong 21 = .ok (.istore_n 3, 1) := dk_62 hN_cX6_nameAmong rfl rfl
theorem dX6_nameAmong_22 : decode cX6_nameAmong 22 = .ok (.iload_n 3, 1) := dk_29 hN_cX6_nameAmong rfl rfl
theorem dX6_nameAmong_23 : decode cX6_nameAmong 23 = .ok (.ifCond .ge 9, 3) := dk_156 hN_cX6_nameAmong rfl rfl rfl
theorem dX6_nameAmong_32 : decode cX6_nameAmong 32 = .ok (.iload_n 3, 1) := dk_29 hN_cX6_nameAmong rfl rfl
theorem dX6_nameAmong_33 : decode cX6_nameAmong 33 = .ok (.ireturn, 1) := dk_172 hN_cX6_nameAmong rfl rfl
theorem dX6_nameAmong_26 : decode cX6_nameAmong 26 = .ok (.aload_n 0, 1) := dk_42 hN_cX6_nameAmong rfl rfl
theorem dX6_nameAmong_27 : decode cX6_nameAmong 27 = .ok (.iconst 2, 1) := dk_5 hN_cX6_nameAmong rfl rfl
theorem dX6_nameAmong_28 : decode cX6_nameAmong 28 = .ok (.invokevirtual 70, 3) := dk_182 hN_cX6_nameAmong rfl rfl rfl
theorem dX6_nameAmong_31 : decode cX6_nameAmong 31 = .ok (.pop, 1) := dk_87 hN_cX6_nameAmong rfl rfl
theorem dX6_nameAmong_7 : decode cX6_nameAmong 7 = .ok (.aload_n 0, 1) := dk_42 hN_cX6_nameAmong rfl rfl
theorem dX6_nameAmong_8 : decode cX6_nameAmong 8 = .ok (.iconst 1, 1) := dk_4 hN_cX6_nameAmong rfl rfl
theorem dX6_nameAmong_9 : decode cX6_nameAmong 9 = .ok (.invokevirtual 70, 3) := dk_182 hN_cX6_nameAmong rfl rfl rfl
theorem dX6_nameAmong_12 : decode cX6_nameAmong 12 = .ok (.pop, 1) := dk_87 hN_cX6_nameAmong rfl rfl
theorem dX6_nameAmong_13 : decode cX6_nameAmong 13 = .ok (.iconst (-1), 1) := dk_2 hN_cX6_nameAmong rfl rfl
theorem dX6_nameAmong_14 : decode cX6_nameAmong 14 = .ok (.ireturn, 1) := dk_172 hN_cX6_nameAmong rfl rfl
theorem dX6_indexOf_0 : decode cX6_indexOf 0 = .ok (.iconst 0, 1) := dk_3 hN_cX6_indexOf rfl rfl
theorem dX6_indexOf_1 : decode cX6_indexOf 1 = .ok (.istore_n 3, 1) := dk_62 hN_cX6_indexOf rfl rfl
theorem dX6_indexOf_2 : decode cX6_indexOf 2 = .ok (.iload_n 3, 1) := dk_29 hN_cX6_indexOf rfl rfl
theorem dX6_indexOf_3 : decode cX6_indexOf 3 = .ok (.iload_n 2, 1) := dk_28 hN_cX6_indexOf rfl rfl
theorem dX6_indexOf_4 : decode cX6_indexOf 4 = .ok (.if_icmp .ge 28, 3) := dk_162 hN_cX6_indexOf rfl rfl rfl
theorem dX6_indexOf_32 : decode cX6_indexOf 32 = .ok (.iconst (-1), 1) := dk_2 hN_cX6_indexOf rfl rfl
theorem dX6_indexOf_33 : decode cX6_indexOf 33 = .ok (.ireturn, 1) := dk_172 hN_cX6_indexOf rfl rfl
theorem dX6_indexOf_7 : decode cX6_indexOf 7 = .ok (.iload_n 3, 1) := dk_29 hN_cX6_indexOf rfl rfl
theorem dX6_indexOf_8 : decode cX6_indexOf 8 = .ok (.aload_n 1, 1) := dk_43 hN_cX6_indexOf rfl rfl
theorem dX6_indexOf_9 : decode cX6_indexOf 9 = .ok (.arraylength, 1) := dk_190 hN_cX6_indexOf rfl rfl
theorem dX6_indexOf_10 : decode cX6_indexOf 10 = .ok (.if_icmp .ge 22, 3) := dk_162 hN_cX6_indexOf rfl rfl rfl
theorem dX6_indexOf_13 : decode cX6_indexOf 13 = .ok (.aload_n 1, 1) := dk_43 hN_cX6_indexOf rfl rfl
theorem dX6_indexOf_14 : decode cX6_indexOf 14 = .ok (.iload_n 3, 1) := dk_29 hN_cX6_indexOf rfl rfl
theorem dX6_indexOf_15 : decode cX6_indexOf 15 = .ok (.laload, 1) := dk_47 hN_cX6_indexOf rfl rfl
theorem dX6_indexOf_16 : decode cX6_indexOf 16 = .ok (.aload_n 0, 1) := dk_42 hN_cX6_indexOf rfl rfl
theorem dX6_indexOf_17 : decode cX6_indexOf 17 = .ok (.getfield 131, 3) := dk_180 hN_cX6_indexOf rfl rfl rfl
theorem dX6_indexOf_20 : decode cX6_indexOf 20 = .ok (.lcmp, 1) := dk_148 hN_cX6_indexOf rfl rfl
theorem dX6_indexOf_21 : decode cX6_indexOf 21 = .ok (.ifCond .ne 5, 3) := dk_154 hN_cX6_indexOf rfl rfl rfl
theorem dX6_indexOf_26 : decode cX6_indexOf 26 = .ok (.iinc 3 1, 3) := dk_132 hN_cX6_indexOf rfl rfl rfl rfl
theorem dX6_indexOf_29 : decode cX6_indexOf 29 = .ok (.goto (-27), 3) := dk_167 hN_cX6_indexOf rfl rfl rfl
theorem dX6_indexOf_24 : decode cX6_indexOf 24 = .ok (.iload_n 3, 1) := dk_29 hN_cX6_indexOf rfl rfl
theorem dX6_indexOf_25 : decode cX6_indexOf 25 = .ok (.ireturn, 1) := dk_172 hN_cX6_indexOf rfl rfl
theorem dX6_isName_0 : decode cX6_isName 0 = .ok (.aload_n 0, 1) := dk_42 hN_cX6_isName rfl rfl
theorem dX6_isName_1 : decode cX6_isName 1 = .ok (.getfield 61, 3) := dk_180 hN_cX6_isName rfl rfl rfl
theorem dX6_isName_4 : decode cX6_isName 4 = .ok (.iconst 2, 1) := dk_5 hN_cX6_isName rfl rfl
theorem dX6_isName_5 : decode cX6_isName 5 = .ok (.if_icmp .ne 70, 3) := dk_160 hN_cX6_isName rfl rfl rfl
theorem dX6_isName_75 : decode cX6_isName 75 = .ok (.iconst 0, 1) := dk_3 hN_cX6_isName rfl rfl
theorem dX6_isName_76 : decode cX6_isName 76 = .ok (.ireturn, 1) := dk_172 hN_cX6_isName rfl rfl
theorem dX6_isName_8 : decode cX6_isName 8 = .ok (.aload_n 0, 1) := dk_42 hN_cX6_isName rfl rfl
theorem dX6_isName_9 : decode cX6_isName 9 = .ok (.ldc 77, 2) := dk_18 hN_cX6_isName rfl rfl rfl
theorem dX6_isName_11 : decode cX6_isName 11 = .ok (.invokevirtual 78, 3) := dk_182 hN_cX6_isName rfl rfl rfl
theorem dX6_isName_14 : decode cX6_isName 14 = .ok (.ifCond .ne 61, 3) := dk_154 hN_cX6_isName rfl rfl rfl
theorem dX6_isName_17 : decode cX6_isName 17 = .ok (.aload_n 0, 1) := dk_42 hN_cX6_isName rfl rfl
theorem dX6_isName_18 : decode cX6_isName 18 = .ok (.ldc 85, 2) := dk_18 hN_cX6_isName rfl rfl rfl
theorem dX6_isName_20 : decode cX6_isName 20 = .ok (.invokevirtual 78, 3) := dk_182 hN_cX6_isName rfl rfl rfl
theorem dX6_isName_23 : decode cX6_isName 23 = .ok (.ifCond .ne 52, 3) := dk_154 hN_cX6_isName rfl rfl rfl
theorem dX6_isName_26 : decode cX6_isName 26 = .ok (.aload_n 0, 1) := dk_42 hN_cX6_isName rfl rfl
theorem dX6_isName_27 : decode cX6_isName 27 = .ok (.ldc 91, 2) := dk_18 hN_cX6_isName rfl rfl rfl
theorem dX6_isName_29 : decode cX6_isName 29 = .ok (.invokevirtual 78, 3) := dk_182 hN_cX6_isName rfl rfl rfl
theorem dX6_isName_32 : decode cX6_isName 32 = .ok (.ifCond .ne 43, 3) := dk_154 hN_cX6_isName rfl rfl rfl
theorem dX6_isName_35 : decode cX6_isName 35 = .ok (.aload_n 0, 1) := dk_42 hN_cX6_isName rfl rfl
theorem dX6_isName_36 : decode cX6_isName 36 = .ok (.ldc 93, 2) := dk_18 hN_cX6_isName rfl rfl rfl
theorem dX6_isName_38 : decode cX6_isName 38 = .ok (.invokevirtual 78, 3) := dk_182 hN_cX6_isName rfl rfl rfl
theorem dX6_isName_41 : decode cX6_isName 41 = .ok (.ifCond .ne 34, 3) := dk_154 hN_cX6_isName rfl rfl rfl
theorem dX6_isName_44 : decode cX6_isName 44 = .ok (.aload_n 0, 1) := dk_42 hN_cX6_isName rfl rfl
theorem dX6_isName_45 : decode cX6_isName 45 = .ok (.ldc 98, 2) := dk_18 hN_cX6_isName rfl rfl rfl
theorem dX6_isName_47 : decode cX6_isName 47 = .ok (.invokevirtual 78, 3) := dk_182 hN_cX6_isName rfl rfl rfl
theorem dX6_isName_50 : decode cX6_isName 50 = .ok (.ifCond .ne 25, 3) := dk_154 hN_cX6_isName rfl rfl rfl
theorem dX6_isName_53 : decode cX6_isName 53 = .ok (.aload_n 0, 1) := dk_42 hN_cX6_isName rfl rfl
theorem dX6_isName_54 : decode cX6_isName 54 = .ok (.ldc 103, 2) := dk_18 hN_cX6_isName rfl rfl rfl
theorem dX6_isName_56 : decode cX6_isName 56 = .ok (.invokevirtual 78, 3) := dk_182 hN_cX6_isName rfl rfl rfl
theorem dX6_isName_59 : decode cX6_isName 59 = .ok (.ifCond .ne 16, 3) := dk_154 hN_cX6_isName rfl rfl rfl
theorem dX6_isName_62 : decode cX6_isName 62 = .ok (.aload_n 0, 1) := dk_42 hN_cX6_isName rfl rfl
theorem dX6_isName_63 : decode cX6_isName 63 = .ok (.ldc 108, 2) := dk_18 hN_cX6_isName rfl rfl rfl
theorem dX6_isName_65 : decode cX6_isName 65 = .ok (.invokevirtual 78, 3) := dk_182 hN_cX6_isName rfl rfl rfl
theorem dX6_isName_68 : decode cX6_isName 68 = .ok (.ifCond .ne 7, 3) := dk_154 hN_cX6_isName rfl rfl rfl
theorem dX6_isName_71 : decode cX6_isName 71 = .ok (.iconst 1, 1) := dk_4 hN_cX6_isName rfl rfl
theorem dX6_isName_72 : decode cX6_isName 72 = .ok (.goto 4, 3) := dk_167 hN_cX6_isName rfl rfl rfl
theorem dX6_says_0 : decode cX6_says 0 = .ok (.aload_n 0, 1) := dk_42 hN_cX6_says rfl rfl
theorem dX6_says_1 : decode cX6_says 1 = .ok (.getfield 61, 3) := dk_180 hN_cX6_says rfl rfl rfl
theorem dX6_says_4 : decode cX6_says 4 = .ok (.iconst 2, 1) := dk_5 hN_cX6_says rfl rfl
theorem dX6_says_5 : decode cX6_says 5 = .ok (.if_icmp .ne 19, 3) := dk_160 hN_cX6_says rfl rfl rfl
theorem dX6_says_24 : decode cX6_says 24 = .ok (.iconst 0, 1) := dk_3 hN_cX6_says rfl rfl
theorem dX6_says_25 : decode cX6_says 25 = .ok (.ireturn, 1) := dk_172 hN_cX6_says rfl rfl
theorem dX6_says_8 : decode cX6_says 8 = .ok (.aload_n 0, 1) := dk_42 hN_cX6_says rfl rfl
theorem dX6_says_9 : decode cX6_says 9 = .ok (.getfield 48, 3) := dk_180 hN_cX6_says rfl rfl rfl
theorem dX6_says_12 : decode cX6_says 12 = .ok (.aload_n 0, 1) := dk_42 hN_cX6_says rfl rfl
theorem dX6_says_13 : decode cX6_says 13 = .ok (.getfield 189, 3) := dk_180 hN_cX6_says rfl rfl rfl
theorem dX6_says_16 : decode cX6_says 16 = .ok (.isub, 1) := dk_100 hN_cX6_says rfl rfl
theorem dX6_says_17 : decode cX6_says 17 = .ok (.aload_n 1, 1) := dk_43 hN_cX6_says rfl rfl
theorem dX6_says_18 : decode cX6_says 18 = .ok (.invokevirtual 198, 3) := dk_182 hN_cX6_says rfl rfl rfl
theorem dX6_says_21 : decode cX6_says 21 = .ok (.if_icmp .eq 5, 3) := dk_159 hN_cX6_says rfl rfl rfl
theorem dX6_says_26 : decode cX6_says 26 = .ok (.iconst 0, 1) := dk_3 hN_cX6_says rfl rfl
theorem dX6_says_27 : decode cX6_says 27 = .ok (.istore_n 2, 1) := dk_61 hN_cX6_says rfl rfl
theorem dX6_says_28 : decode cX6_says 28 = .ok (.iload_n 2, 1) := dk_28 hN_cX6_says rfl rfl
theorem dX6_says_29 : decode cX6_says 29 = .ok (.aload_n 1, 1) := dk_43 hN_cX6_says rfl rfl
theorem dX6_says_30 : decode cX6_says 30 = .ok (.invokevirtual 198, 3) := dk_182 hN_cX6_says rfl rfl rfl
theorem dX6_says_33 : decode cX6_says 33 = .ok (.if_icmp .ge 30, 3) := dk_162 hN_cX6_says rfl rfl rfl
theorem dX6_says_63 : decode cX6_says 63 = .ok (.iconst 1, 1) := dk_4 hN_cX6_says rfl rfl
theorem dX6_says_64 : decode cX6_says 64 = .ok (.ireturn, 1) := dk_172 hN_cX6_says rfl rfl
theorem dX6_says_36 : decode cX6_says 36 = .ok (.aload_n 0, 1) := dk_42 hN_cX6_says rfl rfl
theorem dX6_says_37 : decode cX6_says 37 = .ok (.getfield 25, 3) := dk_180 hN_cX6_says rfl rfl rfl
theorem dX6_says_40 : decode cX6_says 40 = .ok (.aload_n 0, 1) := dk_42 hN_cX6_says rfl rfl
theorem dX6_says_41 : decode cX6_says 41 = .ok (.getfield 189, 3) := dk_180 hN_cX6_says rfl rfl rfl
theorem dX6_says_44 : decode cX6_says 44 = .ok (.iload_n 2, 1) := dk_28 hN_cX6_says rfl rfl
theorem dX6_says_45 : decode cX6_says 45 = .ok (.iadd, 1) := dk_96 hN_cX6_says rfl rfl
theorem dX6_says_46 : decode cX6_says 46 = .ok (.iaload, 1) := dk_46 hN_cX6_says rfl rfl
theorem dX6_says_47 : decode cX6_says 47 = .ok (.aload_n 1, 1) := dk_43 hN_cX6_says rfl rfl
theorem dX6_says_48 : decode cX6_says 48 = .ok (.iload_n 2, 1) := dk_28 hN_cX6_says rfl rfl
theorem dX6_says_49 : decode cX6_says 49 = .ok (.invokevirtual 204, 3) := dk_182 hN_cX6_says rfl rfl rfl
theorem dX6_says_52 : decode cX6_says 52 = .ok (.if_icmp .eq 5, 3) := dk_159 hN_cX6_says rfl rfl rfl
theorem dX6_says_57 : decode cX6_says 57 = .ok (.iinc 2 1, 3) := dk_132 hN_cX6_says rfl rfl rfl rfl
theorem dX6_says_60 : decode cX6_says 60 = .ok (.goto (-32), 3) := dk_167 hN_cX6_says rfl rfl rfl
theorem dX6_says_55 : decode cX6_says 55 = .ok (.iconst 0, 1) := dk_3 hN_cX6_says rfl rfl
theorem dX6_says_56 : decode cX6_says 56 = .ok (.ireturn, 1) := dk_172 hN_cX6_says rfl rfl
theorem dX6_next_0 : decode cX6_next 0 = .ok (.aload_n 0, 1) := dk_42 hN_cX6_next rfl rfl
theorem dX6_next_1 : decode cX6_next 1 = .ok (.getfield 48, 3) := dk_180 hN_cX6_next rfl rfl rfl
theorem dX6_next_4 : decode cX6_next 4 = .ok (.aload_n 0, 1) := dk_42 hN_cX6_next rfl rfl
theorem dX6_next_5 : decode cX6_next 5 = .ok (.getfield 45, 3) := dk_180 hN_cX6_next rfl rfl rfl
theorem dX6_next_8 : decode cX6_next 8 = .ok (.if_icmp .ge 30, 3) := dk_162 hN_cX6_next rfl rfl rfl
theorem dX6_next_38 : decode cX6_next 38 = .ok (.aload_n 0, 1) := dk_42 hN_cX6_next rfl rfl
theorem dX6_next_39 : decode cX6_next 39 = .ok (.aload_n 0, 1) := dk_42 hN_cX6_next rfl rfl
theorem dX6_next_40 : decode cX6_next 40 = .ok (.getfield 48, 3) := dk_180 hN_cX6_next rfl rfl rfl
theorem dX6_next_43 : decode cX6_next 43 = .ok (.putfield 189, 3) := dk_181 hN_cX6_next rfl rfl rfl
theorem dX6_next_46 : decode cX6_next 46 = .ok (.aload_n 0, 1) := dk_42 hN_cX6_next rfl rfl
theorem dX6_next_47 : decode cX6_next 47 = .ok (.lconst 0, 1) := dk_9 hN_cX6_next rfl rfl
theorem dX6_next_48 : decode cX6_next 48 = .ok (.putfield 131, 3) := dk_181 hN_cX6_next rfl rfl rfl
theorem dX6_next_51 : decode cX6_next 51 = .ok (.aload_n 0, 1) := dk_42 hN_cX6_next rfl rfl
theorem dX6_next_52 : decode cX6_next 52 = .ok (.iconst 0, 1) := dk_3 hN_cX6_next rfl rfl
theorem dX6_next_53 : decode cX6_next 53 = .ok (.putfield 122, 3) := dk_181 hN_cX6_next rfl rfl rfl
theorem dX6_next_11 : decode cX6_next 11 = .ok (.aload_n 0, 1) := dk_42 hN_cX6_next rfl rfl
theorem dX6_next_12 : decode cX6_next 12 = .ok (.getfield 25, 3) := dk_180 hN_cX6_next rfl rfl rfl
theorem dX6_next_15 : decode cX6_next 15 = .ok (.aload_n 0, 1) := dk_42 hN_cX6_next rfl rfl
theorem dX6_next_16 : decode cX6_next 16 = .ok (.getfield 48, 3) := dk_180 hN_cX6_next rfl rfl rfl
theorem dX6_next_19 : decode cX6_next 19 = .ok (.iaload, 1) := dk_46 hN_cX6_next rfl rfl
theorem dX6_next_20 : decode cX6_next 20 = .ok (.bipush 32, 2) := dk_16 hN_cX6_next rfl rfl rfl
theorem dX6_next_22 : decode cX6_next 22 = .ok (.if_icmp .ne 16, 3) := dk_160 hN_cX6_next rfl rfl rfl
theorem dX6_next_25 : decode cX6_next 25 = .ok (.aload_n 0, 1) := dk_42 hN_cX6_next rfl rfl
theorem dX6_next_26 : decode cX6_next 26 = .ok (.dup, 1) := dk_89 hN_cX6_next rfl rfl
theorem dX6_next_27 : decode cX6_next 27 = .ok (.getfield 48, 3) := dk_180 hN_cX6_next rfl rfl rfl
theorem dX6_next_30 : decode cX6_next 30 = .ok (.iconst 1, 1) := dk_4 hN_cX6_next rfl rfl
theorem dX6_next_31 : decode cX6_next 31 = .ok (.iadd, 1) := dk_96 hN_cX6_next rfl rfl
theorem dX6_next_32 : decode cX6_next 32 = .ok (.putfield 48, 3) := dk_181 hN_cX6_next rfl rfl rfl
theorem dX6_next_35 : decode cX6_next 35 = .ok (.goto (-35), 3) := dk_167 hN_cX6_next rfl rfl rfl
theorem dX6_next_56 : decode cX6_next 56 = .ok (.aload_n 0, 1) := dk_42 hN_cX6_next rfl rfl
theorem dX6_next_57 : decode cX6_next 57 = .ok (.getfield 48, 3) := dk_180 hN_cX6_next rfl rfl rfl
theorem dX6_next_60 : decode cX6_next 60 = .ok (.aload_n 0, 1) := dk_42 hN_cX6_next rfl rfl
theorem dX6_next_61 : decode cX6_next 61 = .ok (.getfield 45, 3) := dk_180 hN_cX6_next rfl rfl rfl
theorem dX6_next_64 : decode cX6_next 64 = .ok (.if_icmp .ge 57, 3) := dk_162 hN_cX6_next rfl rfl rfl
theorem dX6_next_121 : decode cX6_next 121 = .ok (.aload_n 0, 1) := dk_42 hN_cX6_next rfl rfl
theorem dX6_next_122 : decode cX6_next 122 = .ok (.getfield 48, 3) := dk_180 hN_cX6_next rfl rfl rfl
theorem dX6_next_125 : decode cX6_next 125 = .ok (.aload_n 0, 1) := dk_42 hN_cX6_next rfl rfl
theorem dX6_next_126 : decode cX6_next 126 = .ok (.getfield 189, 3) := dk_180 hN_cX6_next rfl rfl rfl
theorem dX6_next_129 : decode cX6_next 129 = .ok (.if_icmp .le 27, 3) := dk_164 hN_cX6_next rfl rfl rfl
theorem dX6_next_132 : decode cX6_next 132 = .ok (.aload_n 0, 1) := dk_42 hN_cX6_next rfl rfl
theorem dX6_next_133 : decode cX6_next 133 = .ok (.aload_n 0, 1) := dk_42 hN_cX6_next rfl rfl
theorem dX6_next_134 : decode cX6_next 134 = .ok (.getfield 48, 3) := dk_180 hN_cX6_next rfl rfl rfl
theorem dX6_next_137 : decode cX6_next 137 = .ok (.aload_n 0, 1) := dk_42 hN_cX6_next rfl rfl
theorem dX6_next_138 : decode cX6_next 138 = .ok (.getfield 189, 3) := dk_180 hN_cX6_next rfl rfl rfl
theorem dX6_next_141 : decode cX6_next 141 = .ok (.isub, 1) := dk_100 hN_cX6_next rfl rfl
theorem dX6_next_142 : decode cX6_next 142 = .ok (.bipush 8, 2) := dk_16 hN_cX6_next rfl rfl rfl
theorem dX6_next_144 : decode cX6_next 144 = .ok (.if_icmp .gt 7, 3) := dk_163 hN_cX6_next rfl rfl rfl
theorem dX6_next_151 : decode cX6_next 151 = .ok (.iconst 1, 1) := dk_4 hN_cX6_next rfl rfl
theorem dX6_next_152 : decode cX6_next 152 = .ok (.putfield 61, 3) := dk_181 hN_cX6_next rfl rfl rfl
theorem dX6_next_155 : decode cX6_next 155 = .ok (.return_, 1) := dk_177 hN_cX6_next rfl rfl
theorem dX6_next_147 : decode cX6_next 147 = .ok (.iconst 2, 1) := dk_5 hN_cX6_next rfl rfl
theorem dX6_next_148 : decode cX6_next 148 = .ok (.goto 4, 3) := dk_167 hN_cX6_next rfl rfl rfl
theorem dX6_next_67 : decode cX6_next 67 = .ok (.aload_n 0, 1) := dk_42 hN_cX6_next rfl rfl
theorem dX6_next_68 : decode cX6_next 68 = .ok (.getfield 25, 3) := dk_180 hN_cX6_next rfl rfl rfl
theorem dX6_next_71 : decode cX6_next 71 = .ok (.aload_n 0, 1) := dk_42 hN_cX6_next rfl rfl
theorem dX6_next_72 : decode cX6_next 72 = .ok (.getfield 48, 3) := dk_180 hN_cX6_next rfl rfl rfl
theorem dX6_next_75 : decode cX6_next 75 = .ok (.iaload, 1) := dk_46 hN_cX6_next rfl rfl
theorem dX6_next_76 : decode cX6_next 76 = .ok (.invokestatic 208, 3) := dk_184 hN_cX6_next rfl rfl rfl
theorem dX6_next_79 : decode cX6_next 79 = .ok (.ifCond .eq 42, 3) := dk_153 hN_cX6_next rfl rfl rfl
theorem dX6_next_82 : decode cX6_next 82 = .ok (.aload_n 0, 1) := dk_42 hN_cX6_next rfl rfl
theorem dX6_next_83 : decode cX6_next 83 = .ok (.aload_n 0, 1) := dk_42 hN_cX6_next rfl rfl
theorem dX6_next_84 : decode cX6_next 84 = .ok (.getfield 131, 3) := dk_180 hN_cX6_next rfl rfl rfl
theorem dX6_next_87 : decode cX6_next 87 = .ok (.iconst 5, 1) := dk_8 hN_cX6_next rfl rfl
theorem dX6_next_88 : decode cX6_next 88 = .ok (.lshl, 1) := dk_121 hN_cX6_next rfl rfl
theorem dX6_next_89 : decode cX6_next 89 = .ok (.aload_n 0, 1) := dk_42 hN_cX6_next rfl rfl
theorem dX6_next_90 : decode cX6_next 90 = .ok (.getfield 25, 3) := dk_180 hN_cX6_next rfl rfl rfl
theorem dX6_next_93 : decode cX6_next 93 = .ok (.aload_n 0, 1) := dk_42 hN_cX6_next rfl rfl
theorem dX6_next_94 : decode cX6_next 94 = .ok (.getfield 48, 3) := dk_180 hN_cX6_next rfl rfl rfl
theorem dX6_next_97 : decode cX6_next 97 = .ok (.iaload, 1) := dk_46 hN_cX6_next rfl rfl
theorem dX6_next_98 : decode cX6_next 98 = .ok (.bipush 97, 2) := dk_16 hN_cX6_next rfl rfl rfl
theorem dX6_next_100 : decode cX6_next 100 = .ok (.isub, 1) := dk_100 hN_cX6_next rfl rfl
theorem dX6_next_101 : decode cX6_next 101 = .ok (.iconst 1, 1) := dk_4 hN_cX6_next rfl rfl
theorem dX6_next_102 : decode cX6_next 102 = .ok (.iadd, 1) := dk_96 hN_cX6_next rfl rfl
theorem dX6_next_103 : decode cX6_next 103 = .ok (.i2l, 1) := dk_133 hN_cX6_next rfl rfl
theorem dX6_next_104 : decode cX6_next 104 = .ok (.lor, 1) := dk_129 hN_cX6_next rfl rfl
theorem dX6_next_105 : decode cX6_next 105 = .ok (.putfield 131, 3) := dk_181 hN_cX6_next rfl rfl rfl
theorem dX6_next_108 : decode cX6_next 108 = .ok (.aload_n 0, 1) := dk_42 hN_cX6_next rfl rfl
theorem dX6_next_109 : decode cX6_next 109 = .ok (.dup, 1) := dk_89 hN_cX6_next rfl rfl
theorem dX6_next_110 : decode cX6_next 110 = .ok (.getfield 48, 3) := dk_180 hN_cX6_next rfl rfl rfl
theorem dX6_next_113 : decode cX6_next 113 = .ok (.iconst 1, 1) := dk_4 hN_cX6_next rfl rfl
theorem dX6_next_114 : decode cX6_next 114 = .ok (.iadd, 1) := dk_96 hN_cX6_next rfl rfl
theorem dX6_next_115 : decode cX6_next 115 = .ok (.putfield 48, 3) := dk_181 hN_cX6_next rfl rfl rfl
theorem dX6_next_118 : decode cX6_next 118 = .ok (.goto (-62), 3) := dk_167 hN_cX6_next rfl rfl rfl
theorem dX6_next_156 : decode cX6_next 156 = .ok (.aload_n 0, 1) := dk_42 hN_cX6_next rfl rfl
theorem dX6_next_157 : decode cX6_next 157 = .ok (.getfield 48, 3) := dk_180 hN_cX6_next rfl rfl rfl
theorem dX6_next_160 : decode cX6_next 160 = .ok (.aload_n 0, 1) := dk_42 hN_cX6_next rfl rfl
theorem dX6_next_161 : decode cX6_next 161 = .ok (.getfield 45, 3) := dk_180 hN_cX6_next rfl rfl rfl
theorem dX6_next_164 : decode cX6_next 164 = .ok (.if_icmp .ge 55, 3) := dk_162 hN_cX6_next rfl rfl rfl
theorem dX6_next_219 : decode cX6_next 219 = .ok (.aload_n 0, 1) := dk_42 hN_cX6_next rfl rfl
theorem dX6_next_220 : decode cX6_next 220 = .ok (.getfield 48, 3) := dk_180 hN_cX6_next rfl rfl rfl
theorem dX6_next_223 : decode cX6_next 223 = .ok (.aload_n 0, 1) := dk_42 hN_cX6_next rfl rfl
theorem dX6_next_224 : decode cX6_next 224 = .ok (.getfield 189, 3) := dk_180 hN_cX6_next rfl rfl rfl
theorem dX6_next_227 : decode cX6_next 227 = .ok (.if_icmp .le 26, 3) := dk_164 hN_cX6_next rfl rfl rfl
theorem dX6_next_253 : decode cX6_next 253 = .ok (.aload_n 0, 1) := dk_42 hN_cX6_next rfl rfl
theorem dX6_next_254 : decode cX6_next 254 = .ok (.invokevirtual 214, 3) := dk_182 hN_cX6_next rfl rfl rfl
theorem dX6_next_257 : decode cX6_next 257 = .ok (.return_, 1) := dk_177 hN_cX6_next rfl rfl
theorem dX6_next_230 : decode cX6_next 230 = .ok (.aload_n 0, 1) := dk_42 hN_cX6_next rfl rfl
theorem dX6_next_231 : decode cX6_next 231 = .ok (.aload_n 0, 1) := dk_42 hN_cX6_next rfl rfl
theorem dX6_next_232 : decode cX6_next 232 = .ok (.getfield 48, 3) := dk_180 hN_cX6_next rfl rfl rfl
theorem dX6_next_235 : decode cX6_next 235 = .ok (.aload_n 0, 1) := dk_42 hN_cX6_next rfl rfl
theorem dX6_next_236 : decode cX6_next 236 = .ok (.getfield 189, 3) := dk_180 hN_cX6_next rfl rfl rfl
theorem dX6_next_239 : decode cX6_next 239 = .ok (.isub, 1) := dk_100 hN_cX6_next rfl rfl
theorem dX6_next_240 : decode cX6_next 240 = .ok (.iconst 3, 1) := dk_6 hN_cX6_next rfl rfl
theorem dX6_next_241 : decode cX6_next 241 = .ok (.if_icmp .gt 7, 3) := dk_163 hN_cX6_next rfl rfl rfl
theorem dX6_next_248 : decode cX6_next 248 = .ok (.iconst 1, 1) := dk_4 hN_cX6_next rfl rfl
theorem dX6_next_249 : decode cX6_next 249 = .ok (.putfield 61, 3) := dk_181 hN_cX6_next rfl rfl rfl
theorem dX6_next_252 : decode cX6_next 252 = .ok (.return_, 1) := dk_177 hN_cX6_next rfl rfl
theorem dX6_next_244 : decode cX6_next 244 = .ok (.iconst 3, 1) := dk_6 hN_cX6_next rfl rfl
theorem dX6_next_245 : decode cX6_next 245 = .ok (.goto 4, 3) := dk_167 hN_cX6_next rfl rfl rfl
theorem dX6_next_167 : decode cX6_next 167 = .ok (.aload_n 0, 1) := dk_42 hN_cX6_next rfl rfl
theorem dX6_next_168 : decode cX6_next 168 = .ok (.getfield 25, 3) := dk_180 hN_cX6_next rfl rfl rfl
theorem dX6_next_171 : decode cX6_next 171 = .ok (.aload_n 0, 1) := dk_42 hN_cX6_next rfl rfl
theorem dX6_next_172 : decode cX6_next 172 = .ok (.getfield 48, 3) := dk_180 hN_cX6_next rfl rfl rfl
theorem dX6_next_175 : decode cX6_next 175 = .ok (.iaload, 1) := dk_46 hN_cX6_next rfl rfl
theorem dX6_next_176 : decode cX6_next 176 = .ok (.invokestatic 211, 3) := dk_184 hN_cX6_next rfl rfl rfl
theorem dX6_next_179 : decode cX6_next 179 = .ok (.ifCond .eq 40, 3) := dk_153 hN_cX6_next rfl rfl rfl
theorem dX6_next_182 : decode cX6_next 182 = .ok (.aload_n 0, 1) := dk_42 hN_cX6_next rfl rfl
theorem dX6_next_183 : decode cX6_next 183 = .ok (.bipush 10, 2) := dk_16 hN_cX6_next rfl rfl rfl
theorem dX6_next_185 : decode cX6_next 185 = .ok (.aload_n 0, 1) := dk_42 hN_cX6_next rfl rfl
theorem dX6_next_186 : decode cX6_next 186 = .ok (.getfield 122, 3) := dk_180 hN_cX6_next rfl rfl rfl
theorem dX6_next_189 : decode cX6_next 189 = .ok (.imul, 1) := dk_104 hN_cX6_next rfl rfl
theorem dX6_next_190 : decode cX6_next 190 = .ok (.aload_n 0, 1) := dk_42 hN_cX6_next rfl rfl
theorem dX6_next_191 : decode cX6_next 191 = .ok (.getfield 25, 3) := dk_180 hN_cX6_next rfl rfl rfl
theorem dX6_next_194 : decode cX6_next 194 = .ok (.aload_n 0, 1) := dk_42 hN_cX6_next rfl rfl
theorem dX6_next_195 : decode cX6_next 195 = .ok (.getfield 48, 3) := dk_180 hN_cX6_next rfl rfl rfl
theorem dX6_next_198 : decode cX6_next 198 = .ok (.iaload, 1) := dk_46 hN_cX6_next rfl rfl
theorem dX6_next_199 : decode cX6_next 199 = .ok (.iadd, 1) := dk_96 hN_cX6_next rfl rfl
theorem dX6_next_200 : decode cX6_next 200 = .ok (.bipush 48, 2) := dk_16 hN_cX6_next rfl rfl rfl
theorem dX6_next_202 : decode cX6_next 202 = .ok (.isub, 1) := dk_100 hN_cX6_next rfl rfl
theorem dX6_next_203 : decode cX6_next 203 = .ok (.putfield 122, 3) := dk_181 hN_cX6_next rfl rfl rfl
theorem dX6_next_206 : decode cX6_next 206 = .ok (.aload_n 0, 1) := dk_42 hN_cX6_next rfl rfl
theorem dX6_next_207 : decode cX6_next 207 = .ok (.dup, 1) := dk_89 hN_cX6_next rfl rfl
theorem dX6_next_208 : decode cX6_next 208 = .ok (.getfield 48, 3) := dk_180 hN_cX6_next rfl rfl rfl
theorem dX6_next_211 : decode cX6_next 211 = .ok (.iconst 1, 1) := dk_4 hN_cX6_next rfl rfl
theorem dX6_next_212 : decode cX6_next 212 = .ok (.iadd, 1) := dk_96 hN_cX6_next rfl rfl
theorem dX6_next_213 : decode cX6_next 213 = .ok (.putfield 48, 3) := dk_181 hN_cX6_next rfl rfl rfl
theorem dX6_next_216 : decode cX6_next 216 = .ok (.goto (-60), 3) := dk_167 hN_cX6_next rfl rfl rfl
theorem dX6_takeSign_0 : decode cX6_takeSign 0 = .ok (.aload_n 0, 1) := dk_42 hN_cX6_takeSign rfl rfl
theorem dX6_takeSign_1 : decode cX6_takeSign 1 = .ok (.iconst 0, 1) := dk_3 hN_cX6_takeSign rfl rfl
theorem dX6_takeSign_2 : decode cX6_takeSign 2 = .ok (.putfield 61, 3) := dk_181 hN_cX6_takeSign rfl rfl rfl
theorem dX6_takeSign_5 : decode cX6_takeSign 5 = .ok (.aload_n 0, 1) := dk_42 hN_cX6_takeSign rfl rfl
theorem dX6_takeSign_6 : decode cX6_takeSign 6 = .ok (.getfield 48, 3) := dk_180 hN_cX6_takeSign rfl rfl rfl
theorem dX6_takeSign_9 : decode cX6_takeSign 9 = .ok (.aload_n 0, 1) := dk_42 hN_cX6_takeSign rfl rfl
theorem dX6_takeSign_10 : decode cX6_takeSign 10 = .ok (.getfield 45, 3) := dk_180 hN_cX6_takeSign rfl rfl rfl
theorem dX6_takeSign_13 : decode cX6_takeSign 13 = .ok (.if_icmp .ge 50, 3) := dk_162 hN_cX6_takeSign rfl rfl rfl
theorem dX6_takeSign_63 : decode cX6_takeSign 63 = .ok (.return_, 1) := dk_177 hN_cX6_takeSign rfl rfl
theorem dX6_takeSign_16 : decode cX6_takeSign 16 = .ok (.aload_n 0, 1) := dk_42 hN_cX6_takeSign rfl rfl
theorem dX6_takeSign_17 : decode cX6_takeSign 17 = .ok (.getfield 25, 3) := dk_180 hN_cX6_takeSign rfl rfl rfl
theorem dX6_takeSign_20 : decode cX6_takeSign 20 = .ok (.aload_n 0, 1) := dk_42 hN_cX6_takeSign rfl rfl
theorem dX6_takeSign_21 : decode cX6_takeSign 21 = .ok (.getfield 48, 3) := dk_180 hN_cX6_takeSign rfl rfl rfl
theorem dX6_takeSign_24 : decode cX6_takeSign 24 = .ok (.iaload, 1) := dk_46 hN_cX6_takeSign rfl rfl
theorem dX6_takeSign_25 : decode cX6_takeSign 25 = .ok (.istore_n 1, 1) := dk_60 hN_cX6_takeSign rfl rfl
theorem dX6_takeSign_26 : decode cX6_takeSign 26 = .ok (.aload_n 0, 1) := dk_42 hN_cX6_takeSign rfl rfl
theorem dX6_takeSign_27 : decode cX6_takeSign 27 = .ok (.iload_n 1, 1) := dk_27 hN_cX6_takeSign rfl rfl
theorem dX6_takeSign_28 : decode cX6_takeSign 28 = .ok (.bipush 59, 2) := dk_16 hN_cX6_takeSign rfl rfl rfl
theorem dX6_takeSign_30 : decode cX6_takeSign 30 = .ok (.if_icmp .eq 15, 3) := dk_159 hN_cX6_takeSign rfl rfl rfl
theorem dX6_takeSign_45 : decode cX6_takeSign 45 = .ok (.iload_n 1, 1) := dk_27 hN_cX6_takeSign rfl rfl
theorem dX6_takeSign_46 : decode cX6_takeSign 46 = .ok (.goto 4, 3) := dk_167 hN_cX6_takeSign rfl rfl rfl
theorem dX6_takeSign_50 : decode cX6_takeSign 50 = .ok (.putfield 61, 3) := dk_181 hN_cX6_takeSign rfl rfl rfl
theorem dX6_takeSign_53 : decode cX6_takeSign 53 = .ok (.aload_n 0, 1) := dk_42 hN_cX6_takeSign rfl rfl
theorem dX6_takeSign_54 : decode cX6_takeSign 54 = .ok (.dup, 1) := dk_89 hN_cX6_takeSign rfl rfl
theorem dX6_takeSign_55 : decode cX6_takeSign 55 = .ok (.getfield 48, 3) := dk_180 hN_cX6_takeSign rfl rfl rfl
theorem dX6_takeSign_58 : decode cX6_takeSign 58 = .ok (.iconst 1, 1) := dk_4 hN_cX6_takeSign rfl rfl
theorem dX6_takeSign_59 : decode cX6_takeSign 59 = .ok (.iadd, 1) := dk_96 hN_cX6_takeSign rfl rfl
theorem dX6_takeSign_60 : decode cX6_takeSign 60 = .ok (.putfield 48, 3) := dk_181 hN_cX6_takeSign rfl rfl rfl
theorem dX6_takeSign_33 : decode cX6_takeSign 33 = .ok (.iload_n 1, 1) := dk_27 hN_cX6_takeSign rfl rfl
theorem dX6_takeSign_34 : decode cX6_takeSign 34 = .ok (.bipush 44, 2) := dk_16 hN_cX6_takeSign rfl rfl rfl
theorem dX6_takeSign_36 : decode cX6_takeSign 36 = .ok (.if_icmp .eq 9, 3) := dk_159 hN_cX6_takeSign rfl rfl rfl
theorem dX6_takeSign_39 : decode cX6_takeSign 39 = .ok (.iload_n 1, 1) := dk_27 hN_cX6_takeSign rfl rfl
theorem dX6_takeSign_40 : decode cX6_takeSign 40 = .ok (.bipush 45, 2) := dk_16 hN_cX6_takeSign rfl rfl rfl
theorem dX6_takeSign_42 : decode cX6_takeSign 42 = .ok (.if_icmp .ne 7, 3) := dk_160 hN_cX6_takeSign rfl rfl rfl
theorem dX6_takeSign_49 : decode cX6_takeSign 49 = .ok (.iconst 1, 1) := dk_4 hN_cX6_takeSign rfl rfl
theorem dX6_isLetter_0 : decode cX6_isLetter 0 = .ok (.iload_n 0, 1) := dk_26 hN_cX6_isLetter rfl rfl
theorem dX6_isLetter_1 : decode cX6_isLetter 1 = .ok (.bipush 97, 2) := dk_16 hN_cX6_isLetter rfl rfl rfl
theorem dX6_isLetter_3 : decode cX6_isLetter 3 = .ok (.if_icmp .lt 13, 3) := dk_161 hN_cX6_isLetter rfl rfl rfl
theorem dX6_isLetter_16 : decode cX6_isLetter 16 = .ok (.iconst 0, 1) := dk_3 hN_cX6_isLetter rfl rfl
theorem dX6_isLetter_17 : decode cX6_isLetter 17 = .ok (.ireturn, 1) := dk_172 hN_cX6_isLetter rfl rfl
theorem dX6_isLetter_6 : decode cX6_isLetter 6 = .ok (.iload_n 0, 1) := dk_26 hN_cX6_isLetter rfl rfl
theorem dX6_isLetter_7 : decode cX6_isLetter 7 = .ok (.bipush 122, 2) := dk_16 hN_cX6_isLetter rfl rfl rfl
theorem dX6_isLetter_9 : decode cX6_isLetter 9 = .ok (.if_icmp .gt 7, 3) := dk_163 hN_cX6_isLetter rfl rfl rfl
theorem dX6_isLetter_12 : decode cX6_isLetter 12 = .ok (.iconst 1, 1) := dk_4 hN_cX6_isLetter rfl rfl
theorem dX6_isLetter_13 : decode cX6_isLetter 13 = .ok (.goto 4, 3) := dk_167 hN_cX6_isLetter rfl rfl rfl
theorem dX6_isDigit_0 : decode cX6_isDigit 0 = .ok (.iload_n 0, 1) := dk_26 hN_cX6_isDigit rfl rfl
theorem dX6_isDigit_1 : decode cX6_isDigit 1 = .ok (.bipush 48, 2) := dk_16 hN_cX6_isDigit rfl rfl rfl
theorem dX6_isDigit_3 : decode cX6_isDigit 3 = .ok (.if_icmp .lt 13, 3) := dk_161 hN_cX6_isDigit rfl rfl rfl
theorem dX6_isDigit_16 : decode cX6_isDigit 16 = .ok (.iconst 0, 1) := dk_3 hN_cX6_isDigit rfl rfl
theorem dX6_isDigit_17 : decode cX6_isDigit 17 = .ok (.ireturn, 1) := dk_172 hN_cX6_isDigit rfl rfl
theorem dX6_isDigit_6 : decode cX6_isDigit 6 = .ok (.iload_n 0, 1) := dk_26 hN_cX6_isDigit rfl rfl
theorem dX6_isDigit_7 : decode cX6_isDigit 7 = .ok (.bipush 57, 2) := dk_16 hN_cX6_isDigit rfl rfl rfl
theorem dX6_isDigit_9 : decode cX6_isDigit 9 = .ok (.if_icmp .gt 7, 3) := dk_163 hN_cX6_isDigit rfl rfl rfl
theorem dX6_isDigit_12 : decode cX6_isDigit 12 = .ok (.iconst 1, 1) := dk_4 hN_cX6_isDigit rfl rfl
theorem dX6_isDigit_13 : decode cX6_isDigit 13 = .ok (.goto 4, 3) := dk_167 hN_cX6_isDigit rfl rfl rfl
theorem dX10_feed_0 : decode cX10_feed 0 = .ok (.aload_n 0, 1) := dk_42 hN_cX10_feed rfl rfl
theorem dX10_feed_1 : decode cX10_feed 1 = .ok (.getfield 82, 3) := dk_180 hN_cX10_feed rfl rfl rfl
theorem dX10_feed_4 : decode cX10_feed 4 = .ok (.bipush 20, 2) := dk_16 hN_cX10_feed rfl rfl rfl
theorem dX10_feed_6 : decode cX10_feed 6 = .ok (.iadd, 1) := dk_96 hN_cX10_feed rfl rfl
theorem dX10_feed_7 : decode cX10_feed 7 = .ok (.sipush 900, 3) := dk_17 hN_cX10_feed rfl rfl rfl
theorem dX10_feed_10 : decode cX10_feed 10 = .ok (.if_icmp .le 5, 3) := dk_164 hN_cX10_feed rfl rfl rfl
theorem dX10_feed_15 : decode cX10_feed 15 = .ok (.aload_n 0, 1) := dk_42 hN_cX10_feed rfl rfl
theorem dX10_feed_16 : decode cX10_feed 16 = .ok (.iload_n 1, 1) := dk_27 hN_cX10_feed rfl rfl
theorem dX10_feed_17 : decode cX10_feed 17 = .ok (.invokevirtual 86, 3) := dk_182 hN_cX10_feed rfl rfl rfl
theorem dX10_feed_20 : decode cX10_feed 20 = .ok (.aload_n 0, 1) := dk_42 hN_cX10_feed rfl rfl
theorem dX10_feed_21 : decode cX10_feed 21 = .ok (.iload_n 2, 1) := dk_28 hN_cX10_feed rfl rfl
theorem dX10_feed_22 : decode cX10_feed 22 = .ok (.invokevirtual 86, 3) := dk_182 hN_cX10_feed rfl rfl rfl
theorem dX10_feed_25 : decode cX10_feed 25 = .ok (.aload_n 0, 1) := dk_42 hN_cX10_feed rfl rfl
theorem dX10_feed_26 : decode cX10_feed 26 = .ok (.iload_n 3, 1) := dk_29 hN_cX10_feed rfl rfl
theorem dX10_feed_27 : decode cX10_feed 27 = .ok (.invokevirtual 86, 3) := dk_182 hN_cX10_feed rfl rfl rfl
theorem dX10_feed_30 : decode cX10_feed 30 = .ok (.aload_n 0, 1) := dk_42 hN_cX10_feed rfl rfl
theorem dX10_feed_31 : decode cX10_feed 31 = .ok (.iload 4, 2) := dk_21 hN_cX10_feed rfl rfl rfl
theorem dX10_feed_33 : decode cX10_feed 33 = .ok (.invokevirtual 86, 3) := dk_182 hN_cX10_feed rfl rfl rfl
theorem dX10_feed_36 : decode cX10_feed 36 = .ok (.aload_n 0, 1) := dk_42 hN_cX10_feed rfl rfl
theorem dX10_feed_37 : decode cX10_feed 37 = .ok (.iload 5, 2) := dk_21 hN_cX10_feed rfl rfl rfl
theorem dX10_feed_39 : decode cX10_feed 39 = .ok (.invokevirtual 86, 3) := dk_182 hN_cX10_feed rfl rfl rfl
theorem dX10_feed_42 : decode cX10_feed 42 = .ok (.aload_n 0, 1) := dk_42 hN_cX10_feed rfl rfl
theorem dX10_feed_43 : decode cX10_feed 43 = .ok (.getfield 82, 3) := dk_180 hN_cX10_feed rfl rfl rfl
theorem dX10_feed_46 : decode cX10_feed 46 = .ok (.ireturn, 1) := dk_172 hN_cX10_feed rfl rfl
theorem dX10_feed_13 : decode cX10_feed 13 = .ok (.iconst (-1), 1) := dk_2 hN_cX10_feed rfl rfl
theorem dX10_feed_14 : decode cX10_feed 14 = .ok (.ireturn, 1) := dk_172 hN_cX10_feed rfl rfl
theorem dX10_book_0 : decode cX10_book 0 = .ok (.iload_n 1, 1) := dk_27 hN_cX10_book rfl rfl
theorem dX10_book_1 : decode cX10_book 1 = .ok (.ifCond .lt 11, 3) := dk_155 hN_cX10_book rfl rfl rfl
theorem dX10_book_12 : decode cX10_book 12 = .ok (.aload_n 0, 1) := dk_42 hN_cX10_book rfl rfl
theorem dX10_book_13 : decode cX10_book 13 = .ok (.iconst 2, 1) := dk_5 hN_cX10_book rfl rfl
theorem dX10_book_14 : decode cX10_book 14 = .ok (.invokevirtual 90, 3) := dk_182 hN_cX10_book rfl rfl rfl
theorem dX10_book_17 : decode cX10_book 17 = .ok (.ireturn, 1) := dk_172 hN_cX10_book rfl rfl
theorem dX10_book_4 : decode cX10_book 4 = .ok (.iload_n 1, 1) := dk_27 hN_cX10_book rfl rfl
theorem dX10_book_5 : decode cX10_book 5 = .ok (.aload_n 0, 1) := dk_42 hN_cX10_book rfl rfl
theorem dX10_book_6 : decode cX10_book 6 = .ok (.getfield 82, 3) := dk_180 hN_cX10_book rfl rfl rfl
theorem dX10_book_9 : decode cX10_book 9 = .ok (.if_icmp .le 9, 3) := dk_164 hN_cX10_book rfl rfl rfl
theorem dX10_book_18 : decode cX10_book 18 = .ok (.aload_n 0, 1) := dk_42 hN_cX10_book rfl rfl
theorem dX10_book_19 : decode cX10_book 19 = .ok (.iconst 0, 1) := dk_3 hN_cX10_book rfl rfl
theorem dX10_book_20 : decode cX10_book 20 = .ok (.putfield 82, 3) := dk_181 hN_cX10_book rfl rfl rfl
theorem dX10_book_23 : decode cX10_book 23 = .ok (.aload_n 0, 1) := dk_42 hN_cX10_book rfl rfl
theorem dX10_book_24 : decode cX10_book 24 = .ok (.getfield 18, 3) := dk_180 hN_cX10_book rfl rfl rfl
theorem dX10_book_27 : decode cX10_book 27 = .ok (.iload_n 1, 1) := dk_27 hN_cX10_book rfl rfl
theorem dX10_book_28 : decode cX10_book 28 = .ok (.invokevirtual 94, 3) := dk_182 hN_cX10_book rfl rfl rfl
theorem dX10_book_31 : decode cX10_book 31 = .ok (.aload_n 0, 1) := dk_42 hN_cX10_book rfl rfl
theorem dX10_book_32 : decode cX10_book 32 = .ok (.aload_n 0, 1) := dk_42 hN_cX10_book rfl rfl
theorem dX10_book_33 : decode cX10_book 33 = .ok (.getfield 18, 3) := dk_180 hN_cX10_book rfl rfl rfl
theorem dX10_book_36 : decode cX10_book 36 = .ok (.getfield 97, 3) := dk_180 hN_cX10_book rfl rfl rfl
theorem dX10_book_39 : decode cX10_book 39 = .ok (.putfield 100, 3) := dk_181 hN_cX10_book rfl rfl rfl
theorem dX10_book_42 : decode cX10_book 42 = .ok (.aload_n 0, 1) := dk_42 hN_cX10_book rfl rfl
theorem dX10_book_43 : decode cX10_book 43 = .ok (.getfield 100, 3) := dk_180 hN_cX10_book rfl rfl rfl
theorem dX10_book_46 : decode cX10_book 46 = .ok (.ifCond .eq 20, 3) := dk_153 hN_cX10_book rfl rfl rfl
theorem dX10_book_66 : decode cX10_book 66 = .ok (.aload_n 0, 1) := dk_42 hN_cX10_book rfl rfl
theorem dX10_book_67 : decode cX10_book 67 = .ok (.getfield 25, 3) := dk_180 hN_cX10_book rfl rfl rfl
theorem dX10_book_70 : decode cX10_book 70 = .ok (.aload_n 0, 1) := dk_42 hN_cX10_book rfl rfl
theorem dX10_book_71 : decode cX10_book 71 = .ok (.getfield 18, 3) := dk_180 hN_cX10_book rfl rfl rfl
theorem dX10_book_74 : decode cX10_book 74 = .ok (.getfield 109, 3) := dk_180 hN_cX10_book rfl rfl rfl
theorem dX10_book_77 : decode cX10_book 77 = .ok (.invokevirtual 113, 3) := dk_182 hN_cX10_book rfl rfl rfl
theorem dX10_book_80 : decode cX10_book 80 = .ok (.aload_n 0, 1) := dk_42 hN_cX10_book rfl rfl
theorem dX10_book_81 : decode cX10_book 81 = .ok (.getfield 57, 3) := dk_180 hN_cX10_book rfl rfl rfl
theorem dX10_book_84 : decode cX10_book 84 = .ok (.aload_n 0, 1) := dk_42 hN_cX10_book rfl rfl
theorem dX10_book_85 : decode cX10_book 85 = .ok (.getfield 18, 3) := dk_180 hN_cX10_book rfl rfl rfl
theorem dX10_book_88 : decode cX10_book 88 = .ok (.getfield 109, 3) := dk_180 hN_cX10_book rfl rfl rfl
theorem dX10_book_91 : decode cX10_book 91 = .ok (.invokevirtual 117, 3) := dk_182 hN_cX10_book rfl rfl rfl
theorem dX10_book_94 : decode cX10_book 94 = .ok (.aload_n 0, 1) := dk_42 hN_cX10_book rfl rfl
theorem dX10_book_95 : decode cX10_book 95 = .ok (.getfield 64, 3) := dk_180 hN_cX10_book rfl rfl rfl
theorem dX10_book_98 : decode cX10_book 98 = .ok (.aload_n 0, 1) := dk_42 hN_cX10_book rfl rfl
theorem dX10_book_99 : decode cX10_book 99 = .ok (.getfield 18, 3) := dk_180 hN_cX10_book rfl rfl rfl
theorem dX10_book_102 : decode cX10_book 102 = .ok (.getfield 109, 3) := dk_180 hN_cX10_book rfl rfl rfl
theorem dX10_book_105 : decode cX10_book 105 = .ok (.invokevirtual 118, 3) := dk_182 hN_cX10_book rfl rfl rfl
theorem dX10_book_108 : decode cX10_book 108 = .ok (.aload_n 0, 1) := dk_42 hN_cX10_book rfl rfl
theorem dX10_book_109 : decode cX10_book 109 = .ok (.getfield 71, 3) := dk_180 hN_cX10_book rfl rfl rfl
theorem dX10_book_112 : decode cX10_book 112 = .ok (.aload_n 0, 1) := dk_42 hN_cX10_book rfl rfl
theorem dX10_book_113 : decode cX10_book 113 = .ok (.getfield 18, 3) := dk_180 hN_cX10_book rfl rfl rfl
theorem dX10_book_116 : decode cX10_book 116 = .ok (.getfield 109, 3) := dk_180 hN_cX10_book rfl rfl rfl
theorem dX10_book_119 : decode cX10_book 119 = .ok (.invokevirtual 119, 3) := dk_182 hN_cX10_book rfl rfl rfl
theorem dX10_book_122 : decode cX10_book 122 = .ok (.aload_n 0, 1) := dk_42 hN_cX10_book rfl rfl
theorem dX10_book_123 : decode cX10_book 123 = .ok (.getfield 78, 3) := dk_180 hN_cX10_book rfl rfl rfl
theorem dX10_book_126 : decode cX10_book 126 = .ok (.invokevirtual 120, 3) := dk_182 hN_cX10_book rfl rfl rfl
theorem dX10_book_129 : decode cX10_book 129 = .ok (.aload_n 0, 1) := dk_42 hN_cX10_book rfl rfl
theorem dX10_book_130 : decode cX10_book 130 = .ok (.aload_n 0, 1) := dk_42 hN_cX10_book rfl rfl
theorem dX10_book_131 : decode cX10_book 131 = .ok (.getfield 25, 3) := dk_180 hN_cX10_book rfl rfl rfl
theorem dX10_book_134 : decode cX10_book 134 = .ok (.getfield 122, 3) := dk_180 hN_cX10_book rfl rfl rfl
theorem dX10_book_137 : decode cX10_book 137 = .ok (.invokevirtual 125, 3) := dk_182 hN_cX10_book rfl rfl rfl
theorem dX10_book_140 : decode cX10_book 140 = .ok (.ireturn, 1) := dk_172 hN_cX10_book rfl rfl
theorem dX10_book_49 : decode cX10_book 49 = .ok (.aload_n 0, 1) := dk_42 hN_cX10_book rfl rfl
theorem dX10_book_50 : decode cX10_book 50 = .ok (.aload_n 0, 1) := dk_42 hN_cX10_book rfl rfl
theorem dX10_book_51 : decode cX10_book 51 = .ok (.getfield 18, 3) := dk_180 hN_cX10_book rfl rfl rfl
theorem dX10_book_54 : decode cX10_book 54 = .ok (.getfield 103, 3) := dk_180 hN_cX10_book rfl rfl rfl
theorem dX10_book_57 : decode cX10_book 57 = .ok (.putfield 106, 3) := dk_181 hN_cX10_book rfl rfl rfl
theorem dX10_book_60 : decode cX10_book 60 = .ok (.aload_n 0, 1) := dk_42 hN_cX10_book rfl rfl
theorem dX10_book_61 : decode cX10_book 61 = .ok (.iconst 4, 1) := dk_7 hN_cX10_book rfl rfl
theorem dX10_book_62 : decode cX10_book 62 = .ok (.invokevirtual 90, 3) := dk_182 hN_cX10_book rfl rfl rfl
theorem dX10_book_65 : decode cX10_book 65 = .ok (.ireturn, 1) := dk_172 hN_cX10_book rfl rfl
theorem dX10_fault_0 : decode cX10_fault 0 = .ok (.aload_n 0, 1) := dk_42 hN_cX10_fault rfl rfl
theorem dX10_fault_1 : decode cX10_fault 1 = .ok (.getfield 100, 3) := dk_180 hN_cX10_fault rfl rfl rfl
theorem dX10_fault_4 : decode cX10_fault 4 = .ok (.ireturn, 1) := dk_172 hN_cX10_fault rfl rfl
theorem dX10_where_0 : decode cX10_where 0 = .ok (.aload_n 0, 1) := dk_42 hN_cX10_where rfl rfl
theorem dX10_where_1 : decode cX10_where 1 = .ok (.getfield 128, 3) := dk_180 hN_cX10_where rfl rfl rfl
theorem dX10_where_4 : decode cX10_where 4 = .ok (.iconst 4, 1) := dk_7 hN_cX10_where rfl rfl
theorem dX10_where_5 : decode cX10_where 5 = .ok (.if_icmp .ne 10, 3) := dk_160 hN_cX10_where rfl rfl rfl
theorem dX10_where_15 : decode cX10_where 15 = .ok (.iconst (-1), 1) := dk_2 hN_cX10_where rfl rfl
theorem dX10_where_16 : decode cX10_where 16 = .ok (.ireturn, 1) := dk_172 hN_cX10_where rfl rfl
theorem dX10_where_8 : decode cX10_where 8 = .ok (.aload_n 0, 1) := dk_42 hN_cX10_where rfl rfl
theorem dX10_where_9 : decode cX10_where 9 = .ok (.getfield 106, 3) := dk_180 hN_cX10_where rfl rfl rfl
theorem dX10_where_12 : decode cX10_where 12 = .ok (.goto 4, 3) := dk_167 hN_cX10_where rfl rfl rfl
theorem dX10_share_0 : decode cX10_share 0 = .ok (.aload_n 0, 1) := dk_42 hN_cX10_share rfl rfl
theorem dX10_share_1 : decode cX10_share 1 = .ok (.invokevirtual 131, 3) := dk_182 hN_cX10_share rfl rfl rfl
theorem dX10_share_4 : decode cX10_share 4 = .ok (.ifCond .eq 9, 3) := dk_153 hN_cX10_share rfl rfl rfl
theorem dX10_share_13 : decode cX10_share 13 = .ok (.aload_n 0, 1) := dk_42 hN_cX10_share rfl rfl
theorem dX10_share_14 : decode cX10_share 14 = .ok (.getfield 50, 3) := dk_180 hN_cX10_share rfl rfl rfl
theorem dX10_share_17 : decode cX10_share 17 = .ok (.invokevirtual 135, 3) := dk_182 hN_cX10_share rfl rfl rfl
theorem dX10_share_20 : decode cX10_share 20 = .ok (.aload_n 0, 1) := dk_42 hN_cX10_share rfl rfl
theorem dX10_share_21 : decode cX10_share 21 = .ok (.aload_n 0, 1) := dk_42 hN_cX10_share rfl rfl
theorem dX10_share_22 : decode cX10_share 22 = .ok (.getfield 41, 3) := dk_180 hN_cX10_share rfl rfl rfl
theorem dX10_share_25 : decode cX10_share 25 = .ok (.iload_n 1, 1) := dk_27 hN_cX10_share rfl rfl
theorem dX10_share_26 : decode cX10_share 26 = .ok (.invokevirtual 138, 3) := dk_182 hN_cX10_share rfl rfl rfl
theorem dX10_share_29 : decode cX10_share 29 = .ok (.invokevirtual 125, 3) := dk_182 hN_cX10_share rfl rfl rfl
theorem dX10_share_32 : decode cX10_share 32 = .ok (.ireturn, 1) := dk_172 hN_cX10_share rfl rfl
theorem dX10_share_7 : decode cX10_share 7 = .ok (.aload_n 0, 1) := dk_42 hN_cX10_share rfl rfl
theorem dX10_share_8 : decode cX10_share 8 = .ok (.iconst 1, 1) := dk_4 hN_cX10_share rfl rfl
theorem dX10_share_9 : decode cX10_share 9 = .ok (.invokevirtual 90, 3) := dk_182 hN_cX10_share rfl rfl rfl
theorem dX10_share_12 : decode cX10_share 12 = .ok (.ireturn, 1) := dk_172 hN_cX10_share rfl rfl
theorem dX10_together_0 : decode cX10_together 0 = .ok (.aload_n 0, 1) := dk_42 hN_cX10_together rfl rfl
theorem dX10_together_1 : decode cX10_together 1 = .ok (.getfield 25, 3) := dk_180 hN_cX10_together rfl rfl rfl
theorem dX10_together_4 : decode cX10_together 4 = .ok (.iload_n 1, 1) := dk_27 hN_cX10_together rfl rfl
theorem dX10_together_5 : decode cX10_together 5 = .ok (.invokevirtual 142, 3) := dk_182 hN_cX10_together rfl rfl rfl
theorem dX10_together_8 : decode cX10_together 8 = .ok (.ifCond .eq 34, 3) := dk_153 hN_cX10_together rfl rfl rfl
theorem dX10_together_42 : decode cX10_together 42 = .ok (.aload_n 0, 1) := dk_42 hN_cX10_together rfl rfl
theorem dX10_together_43 : decode cX10_together 43 = .ok (.iconst 1, 1) := dk_4 hN_cX10_together rfl rfl
theorem dX10_together_44 : decode cX10_together 44 = .ok (.invokevirtual 90, 3) := dk_182 hN_cX10_together rfl rfl rfl
theorem dX10_together_47 : decode cX10_together 47 = .ok (.ireturn, 1) := dk_172 hN_cX10_together rfl rfl
theorem dX10_together_11 : decode cX10_together 11 = .ok (.aload_n 0, 1) := dk_42 hN_cX10_together rfl rfl
theorem dX10_together_12 : decode cX10_together 12 = .ok (.getfield 25, 3) := dk_180 hN_cX10_together rfl rfl rfl
theorem dX10_together_15 : decode cX10_together 15 = .ok (.iload_n 3, 1) := dk_29 hN_cX10_together rfl rfl
theorem dX10_together_16 : decode cX10_together 16 = .ok (.invokevirtual 142, 3) := dk_182 hN_cX10_together rfl rfl rfl
theorem dX10_together_19 : decode cX10_together 19 = .ok (.ifCond .eq 23, 3) := dk_153 hN_cX10_together rfl rfl rfl
theorem dX10_together_22 : decode cX10_together 22 = .ok (.iload_n 1, 1) := dk_27 hN_cX10_together rfl rfl
theorem dX10_together_23 : decode cX10_together 23 = .ok (.iload_n 3, 1) := dk_29 hN_cX10_together rfl rfl
theorem dX10_together_24 : decode cX10_together 24 = .ok (.if_icmp .eq 18, 3) := dk_159 hN_cX10_together rfl rfl rfl
theorem dX10_together_27 : decode cX10_together 27 = .ok (.iload_n 2, 1) := dk_28 hN_cX10_together rfl rfl
theorem dX10_together_28 : decode cX10_together 28 = .ok (.invokestatic 146, 3) := dk_184 hN_cX10_together rfl rfl rfl
theorem dX10_together_31 : decode cX10_together 31 = .ok (.ifCond .eq 11, 3) := dk_153 hN_cX10_together rfl rfl rfl
theorem dX10_together_34 : decode cX10_together 34 = .ok (.iload 4, 2) := dk_21 hN_cX10_together rfl rfl rfl
theorem dX10_together_36 : decode cX10_together 36 = .ok (.invokestatic 146, 3) := dk_184 hN_cX10_together rfl rfl rfl
theorem dX10_together_39 : decode cX10_together 39 = .ok (.ifCond .ne 9, 3) := dk_154 hN_cX10_together rfl rfl rfl
theorem dX10_together_48 : decode cX10_together 48 = .ok (.aload_n 0, 1) := dk_42 hN_cX10_together rfl rfl
theorem dX10_together_49 : decode cX10_together 49 = .ok (.getfield 50, 3) := dk_180 hN_cX10_together rfl rfl rfl
theorem dX10_together_52 : decode cX10_together 52 = .ok (.invokevirtual 149, 3) := dk_182 hN_cX10_together rfl rfl rfl
theorem dX10_together_55 : decode cX10_together 55 = .ok (.ifCond .ne 10, 3) := dk_154 hN_cX10_together rfl rfl rfl
theorem dX10_together_65 : decode cX10_together 65 = .ok (.aload_n 0, 1) := dk_42 hN_cX10_together rfl rfl
theorem dX10_together_66 : decode cX10_together 66 = .ok (.getfield 50, 3) := dk_180 hN_cX10_together rfl rfl rfl
theorem dX10_together_69 : decode cX10_together 69 = .ok (.iconst 1, 1) := dk_4 hN_cX10_together rfl rfl
theorem dX10_together_70 : decode cX10_together 70 = .ok (.iload_n 1, 1) := dk_27 hN_cX10_together rfl rfl
theorem dX10_together_71 : decode cX10_together 71 = .ok (.ishl, 1) := dk_120 hN_cX10_together rfl rfl
theorem dX10_together_72 : decode cX10_together 72 = .ok (.iconst 1, 1) := dk_4 hN_cX10_together rfl rfl
theorem dX10_together_73 : decode cX10_together 73 = .ok (.iload_n 3, 1) := dk_29 hN_cX10_together rfl rfl
theorem dX10_together_74 : decode cX10_together 74 = .ok (.ishl, 1) := dk_120 hN_cX10_together rfl rfl
theorem dX10_together_75 : decode cX10_together 75 = .ok (.ior, 1) := dk_128 hN_cX10_together rfl rfl
theorem dX10_together_76 : decode cX10_together 76 = .ok (.iload_n 2, 1) := dk_28 hN_cX10_together rfl rfl
theorem dX10_together_77 : decode cX10_together 77 = .ok (.iload_n 1, 1) := dk_27 hN_cX10_together rfl rfl
theorem dX10_together_78 : decode cX10_together 78 = .ok (.ishl, 1) := dk_120 hN_cX10_together rfl rfl
theorem dX10_together_79 : decode cX10_together 79 = .ok (.iload 4, 2) := dk_21 hN_cX10_together rfl rfl rfl
theorem dX10_together_81 : decode cX10_together 81 = .ok (.iload_n 3, 1) := dk_29 hN_cX10_together rfl rfl
theorem dX10_together_82 : decode cX10_together 82 = .ok (.ishl, 1) := dk_120 hN_cX10_together rfl rfl
theorem dX10_together_83 : decode cX10_together 83 = .ok (.ior, 1) := dk_128 hN_cX10_together rfl rfl
theorem dX10_together_84 : decode cX10_together 84 = .ok (.iload 5, 2) := dk_21 hN_cX10_together rfl rfl rfl
theorem dX10_together_86 : decode cX10_together 86 = .ok (.invokevirtual 152, 3) := dk_182 hN_cX10_together rfl rfl rfl
theorem dX10_together_89 : decode cX10_together 89 = .ok (.aload_n 0, 1) := dk_42 hN_cX10_together rfl rfl
theorem dX10_together_90 : decode cX10_together 90 = .ok (.aload_n 0, 1) := dk_42 hN_cX10_together rfl rfl
theorem dX10_together_91 : decode cX10_together 91 = .ok (.getfield 41, 3) := dk_180 hN_cX10_together rfl rfl rfl
theorem dX10_together_94 : decode cX10_together 94 = .ok (.iload 6, 2) := dk_21 hN_cX10_together rfl rfl rfl
theorem dX10_together_96 : decode cX10_together 96 = .ok (.invokevirtual 138, 3) := dk_182 hN_cX10_together rfl rfl rfl
theorem dX10_together_99 : decode cX10_together 99 = .ok (.invokevirtual 125, 3) := dk_182 hN_cX10_together rfl rfl rfl
theorem dX10_together_102 : decode cX10_together 102 = .ok (.ireturn, 1) := dk_172 hN_cX10_together rfl rfl
theorem dX10_together_58 : decode cX10_together 58 = .ok (.aload_n 0, 1) := dk_42 hN_cX10_together rfl rfl
theorem dX10_together_59 : decode cX10_together 59 = .ok (.bipush 6, 2) := dk_16 hN_cX10_together rfl rfl rfl
theorem dX10_together_61 : decode cX10_together 61 = .ok (.invokevirtual 90, 3) := dk_182 hN_cX10_together rfl rfl rfl
theorem dX10_together_64 : decode cX10_together 64 = .ok (.ireturn, 1) := dk_172 hN_cX10_together rfl rfl
theorem dX10_extend_0 : decode cX10_extend 0 = .ok (.aload_n 0, 1) := dk_42 hN_cX10_extend rfl rfl
theorem dX10_extend_1 : decode cX10_extend 1 = .ok (.getfield 25, 3) := dk_180 hN_cX10_extend rfl rfl rfl
theorem dX10_extend_4 : decode cX10_extend 4 = .ok (.iload_n 1, 1) := dk_27 hN_cX10_extend rfl rfl
theorem dX10_extend_5 : decode cX10_extend 5 = .ok (.iload_n 2, 1) := dk_28 hN_cX10_extend rfl rfl
theorem dX10_extend_6 : decode cX10_extend 6 = .ok (.invokevirtual 156, 3) := dk_182 hN_cX10_extend rfl rfl rfl
theorem dX10_extend_9 : decode cX10_extend 9 = .ok (.ifCond .ne 9, 3) := dk_154 hN_cX10_extend rfl rfl rfl
theorem dX10_extend_18 : decode cX10_extend 18 = .ok (.aload_n 0, 1) := dk_42 hN_cX10_extend rfl rfl
theorem dX10_extend_19 : decode cX10_extend 19 = .ok (.aload_n 0, 1) := dk_42 hN_cX10_extend rfl rfl
theorem dX10_extend_20 : decode cX10_extend 20 = .ok (.getfield 25, 3) := dk_180 hN_cX10_extend rfl rfl rfl
theorem dX10_extend_23 : decode cX10_extend 23 = .ok (.invokevirtual 160, 3) := dk_182 hN_cX10_extend rfl rfl rfl
theorem dX10_extend_26 : decode cX10_extend 26 = .ok (.iconst 4, 1) := dk_7 hN_cX10_extend rfl rfl
theorem dX10_extend_27 : decode cX10_extend 27 = .ok (.iload_n 1, 1) := dk_27 hN_cX10_extend rfl rfl
theorem dX10_extend_28 : decode cX10_extend 28 = .ok (.imul, 1) := dk_104 hN_cX10_extend rfl rfl
theorem dX10_extend_29 : decode cX10_extend 29 = .ok (.iload_n 2, 1) := dk_28 hN_cX10_extend rfl rfl
theorem dX10_extend_30 : decode cX10_extend 30 = .ok (.iadd, 1) := dk_96 hN_cX10_extend rfl rfl
theorem dX10_extend_31 : decode cX10_extend 31 = .ok (.iushr, 1) := dk_124 hN_cX10_extend rfl rfl
theorem dX10_extend_32 : decode cX10_extend 32 = .ok (.iconst 1, 1) := dk_4 hN_cX10_extend rfl rfl
theorem dX10_extend_33 : decode cX10_extend 33 = .ok (.iand, 1) := dk_126 hN_cX10_extend rfl rfl
theorem dX10_extend_34 : decode cX10_extend 34 = .ok (.invokevirtual 125, 3) := dk_182 hN_cX10_extend rfl rfl rfl
theorem dX10_extend_37 : decode cX10_extend 37 = .ok (.ireturn, 1) := dk_172 hN_cX10_extend rfl rfl
theorem dX10_extend_12 : decode cX10_extend 12 = .ok (.aload_n 0, 1) := dk_42 hN_cX10_extend rfl rfl
theorem dX10_extend_13 : decode cX10_extend 13 = .ok (.iconst 1, 1) := dk_4 hN_cX10_extend rfl rfl
theorem dX10_extend_14 : decode cX10_extend 14 = .ok (.invokevirtual 90, 3) := dk_182 hN_cX10_extend rfl rfl rfl
theorem dX10_extend_17 : decode cX10_extend 17 = .ok (.ireturn, 1) := dk_172 hN_cX10_extend rfl rfl
theorem dX10_level_0 : decode cX10_level 0 = .ok (.aload_n 0, 1) := dk_42 hN_cX10_level rfl rfl
theorem dX10_level_1 : decode cX10_level 1 = .ok (.invokevirtual 131, 3) := dk_182 hN_cX10_level rfl rfl rfl
theorem dX10_level_4 : decode cX10_level 4 = .ok (.ifCond .eq 9, 3) := dk_153 hN_cX10_level rfl rfl rfl
theorem dX10_level_13 : decode cX10_level 13 = .ok (.aload_n 0, 1) := dk_42 hN_cX10_level rfl rfl
theorem dX10_level_14 : decode cX10_level 14 = .ok (.getfield 50, 3) := dk_180 hN_cX10_level rfl rfl rfl
theorem dX10_level_17 : decode cX10_level 17 = .ok (.invokevirtual 149, 3) := dk_182 hN_cX10_level rfl rfl rfl
theorem dX10_level_20 : decode cX10_level 20 = .ok (.ifCond .eq 9, 3) := dk_153 hN_cX10_level rfl rfl rfl
theorem dX10_level_29 : decode cX10_level 29 = .ok (.aload_n 0, 1) := dk_42 hN_cX10_level rfl rfl
theorem dX10_level_30 : decode cX10_level 30 = .ok (.getfield 25, 3) := dk_180 hN_cX10_level rfl rfl rfl
theorem dX10_level_33 : decode cX10_level 33 = .ok (.invokevirtual 164, 3) := dk_182 hN_cX10_level rfl rfl rfl
theorem dX10_level_36 : decode cX10_level 36 = .ok (.istore_n 1, 1) := dk_60 hN_cX10_level rfl rfl
theorem dX10_level_37 : decode cX10_level 37 = .ok (.iload_n 1, 1) := dk_27 hN_cX10_level rfl rfl
theorem dX10_level_38 : decode cX10_level 38 = .ok (.aload_n 0, 1) := dk_42 hN_cX10_level rfl rfl
theorem dX10_level_39 : decode cX10_level 39 = .ok (.getfield 25, 3) := dk_180 hN_cX10_level rfl rfl rfl
theorem dX10_level_42 : decode cX10_level 42 = .ok (.invokevirtual 160, 3) := dk_182 hN_cX10_level rfl rfl rfl
theorem dX10_level_45 : decode cX10_level 45 = .ok (.iand, 1) := dk_126 hN_cX10_level rfl rfl
theorem dX10_level_46 : decode cX10_level 46 = .ok (.istore_n 2, 1) := dk_61 hN_cX10_level rfl rfl
theorem dX10_level_47 : decode cX10_level 47 = .ok (.iload_n 2, 1) := dk_28 hN_cX10_level rfl rfl
theorem dX10_level_48 : decode cX10_level 48 = .ok (.iload_n 1, 1) := dk_27 hN_cX10_level rfl rfl
theorem dX10_level_49 : decode cX10_level 49 = .ok (.if_icmp .ne 9, 3) := dk_160 hN_cX10_level rfl rfl rfl
theorem dX10_level_58 : decode cX10_level 58 = .ok (.aload_n 0, 1) := dk_42 hN_cX10_level rfl rfl
theorem dX10_level_59 : decode cX10_level 59 = .ok (.iload_n 2, 1) := dk_28 hN_cX10_level rfl rfl
theorem dX10_level_60 : decode cX10_level 60 = .ok (.ifCond .eq 7, 3) := dk_153 hN_cX10_level rfl rfl rfl
theorem dX10_level_67 : decode cX10_level 67 = .ok (.iconst 3, 1) := dk_6 hN_cX10_level rfl rfl
theorem dX10_level_68 : decode cX10_level 68 = .ok (.invokevirtual 125, 3) := dk_182 hN_cX10_level rfl rfl rfl
theorem dX10_level_71 : decode cX10_level 71 = .ok (.ireturn, 1) := dk_172 hN_cX10_level rfl rfl
theorem dX10_level_63 : decode cX10_level 63 = .ok (.iconst 2, 1) := dk_5 hN_cX10_level rfl rfl
theorem dX10_level_64 : decode cX10_level 64 = .ok (.goto 4, 3) := dk_167 hN_cX10_level rfl rfl rfl
theorem dX10_level_52 : decode cX10_level 52 = .ok (.aload_n 0, 1) := dk_42 hN_cX10_level rfl rfl
theorem dX10_level_53 : decode cX10_level 53 = .ok (.iconst 1, 1) := dk_4 hN_cX10_level rfl rfl
theorem dX10_level_54 : decode cX10_level 54 = .ok (.invokevirtual 125, 3) := dk_182 hN_cX10_level rfl rfl rfl
theorem dX10_level_57 : decode cX10_level 57 = .ok (.ireturn, 1) := dk_172 hN_cX10_level rfl rfl
theorem dX10_level_23 : decode cX10_level 23 = .ok (.aload_n 0, 1) := dk_42 hN_cX10_level rfl rfl
theorem dX10_level_24 : decode cX10_level 24 = .ok (.iconst 0, 1) := dk_3 hN_cX10_level rfl rfl
theorem dX10_level_25 : decode cX10_level 25 = .ok (.invokevirtual 125, 3) := dk_182 hN_cX10_level rfl rfl rfl
theorem dX10_level_28 : decode cX10_level 28 = .ok (.ireturn, 1) := dk_172 hN_cX10_level rfl rfl
theorem dX10_level_7 : decode cX10_level 7 = .ok (.aload_n 0, 1) := dk_42 hN_cX10_level rfl rfl
theorem dX10_level_8 : decode cX10_level 8 = .ok (.iconst 1, 1) := dk_4 hN_cX10_level rfl rfl
theorem dX10_level_9 : decode cX10_level 9 = .ok (.invokevirtual 90, 3) := dk_182 hN_cX10_level rfl rfl rfl
theorem dX10_level_12 : decode cX10_level 12 = .ok (.ireturn, 1) := dk_172 hN_cX10_level rfl rfl
theorem dX10_hidden_0 : decode cX10_hidden 0 = .ok (.aload_n 0, 1) := dk_42 hN_cX10_hidden rfl rfl
theorem dX10_hidden_1 : decode cX10_hidden 1 = .ok (.invokevirtual 131, 3) := dk_182 hN_cX10_hidden rfl rfl rfl
theorem dX10_hidden_4 : decode cX10_hidden 4 = .ok (.ifCond .eq 9, 3) := dk_153 hN_cX10_hidden rfl rfl rfl
theorem dX10_hidden_13 : decode cX10_hidden 13 = .ok (.aload_n 0, 1) := dk_42 hN_cX10_hidden rfl rfl
theorem dX10_hidden_14 : decode cX10_hidden 14 = .ok (.aload_n 0, 1) := dk_42 hN_cX10_hidden rfl rfl
theorem dX10_hidden_15 : decode cX10_hidden 15 = .ok (.getfield 25, 3) := dk_180 hN_cX10_hidden rfl rfl rfl
theorem dX10_hidden_18 : decode cX10_hidden 18 = .ok (.invokevirtual 167, 3) := dk_182 hN_cX10_hidden rfl rfl rfl
theorem dX10_hidden_21 : decode cX10_hidden 21 = .ok (.invokevirtual 125, 3) := dk_182 hN_cX10_hidden rfl rfl rfl
theorem dX10_hidden_24 : decode cX10_hidden 24 = .ok (.ireturn, 1) := dk_172 hN_cX10_hidden rfl rfl
theorem dX10_hidden_7 : decode cX10_hidden 7 = .ok (.aload_n 0, 1) := dk_42 hN_cX10_hidden rfl rfl
theorem dX10_hidden_8 : decode cX10_hidden 8 = .ok (.iconst 1, 1) := dk_4 hN_cX10_hidden rfl rfl
theorem dX10_hidden_9 : decode cX10_hidden 9 = .ok (.invokevirtual 90, 3) := dk_182 hN_cX10_hidden rfl rfl rfl
theorem dX10_hidden_12 : decode cX10_hidden 12 = .ok (.ireturn, 1) := dk_172 hN_cX10_hidden rfl rfl
theorem dX10_answer_0 : decode cX10_answer 0 = .ok (.aload_n 0, 1) := dk_42 hN_cX10_answer rfl rfl
theorem dX10_answer_1 : decode cX10_answer 1 = .ok (.invokevirtual 131, 3) := dk_182 hN_cX10_answer rfl rfl rfl
theorem dX10_answer_4 : decode cX10_answer 4 = .ok (.ifCond .eq 7, 3) := dk_153 hN_cX10_answer rfl rfl rfl
theorem dX10_answer_11 : decode cX10_answer 11 = .ok (.aload_n 0, 1) := dk_42 hN_cX10_answer rfl rfl
theorem dX10_answer_12 : decode cX10_answer 12 = .ok (.getfield 25, 3) := dk_180 hN_cX10_answer rfl rfl rfl
theorem dX10_answer_15 : decode cX10_answer 15 = .ok (.iload_n 1, 1) := dk_27 hN_cX10_answer rfl rfl
theorem dX10_answer_16 : decode cX10_answer 16 = .ok (.invokevirtual 170, 3) := dk_182 hN_cX10_answer rfl rfl rfl
theorem dX10_answer_19 : decode cX10_answer 19 = .ok (.istore_n 2, 1) := dk_61 hN_cX10_answer rfl rfl
theorem dX10_answer_20 : decode cX10_answer 20 = .ok (.iload_n 2, 1) := dk_28 hN_cX10_answer rfl rfl
theorem dX10_answer_21 : decode cX10_answer 21 = .ok (.ifCond .ge 11, 3) := dk_156 hN_cX10_answer rfl rfl rfl
theorem dX10_answer_32 : decode cX10_answer 32 = .ok (.aload_n 0, 1) := dk_42 hN_cX10_answer rfl rfl
theorem dX10_answer_33 : decode cX10_answer 33 = .ok (.iload_n 2, 1) := dk_28 hN_cX10_answer rfl rfl
theorem dX10_answer_34 : decode cX10_answer 34 = .ok (.invokevirtual 125, 3) := dk_182 hN_cX10_answer rfl rfl rfl
theorem dX10_answer_37 : decode cX10_answer 37 = .ok (.ireturn, 1) := dk_172 hN_cX10_answer rfl rfl
theorem dX10_answer_24 : decode cX10_answer 24 = .ok (.aload_n 0, 1) := dk_42 hN_cX10_answer rfl rfl
theorem dX10_answer_25 : decode cX10_answer 25 = .ok (.iconst 1, 1) := dk_4 hN_cX10_answer rfl rfl
theorem dX10_answer_26 : decode cX10_answer 26 = .ok (.invokevirtual 90, 3) := dk_182 hN_cX10_answer rfl rfl rfl
theorem dX10_answer_29 : decode cX10_answer 29 = .ok (.goto 8, 3) := dk_167 hN_cX10_answer rfl rfl rfl
theorem dX10_answer_7 : decode cX10_answer 7 = .ok (.iconst (-1), 1) := dk_2 hN_cX10_answer rfl rfl
theorem dX10_answer_8 : decode cX10_answer 8 = .ok (.goto 11, 3) := dk_167 hN_cX10_answer rfl rfl rfl
theorem dX10_disturbed_0 : decode cX10_disturbed 0 = .ok (.aload_n 0, 1) := dk_42 hN_cX10_disturbed rfl rfl
theorem dX10_disturbed_1 : decode cX10_disturbed 1 = .ok (.invokevirtual 131, 3) := dk_182 hN_cX10_disturbed rfl rfl rfl
theorem dX10_disturbed_4 : decode cX10_disturbed 4 = .ok (.ifCond .eq 9, 3) := dk_153 hN_cX10_disturbed rfl rfl rfl
theorem dX10_disturbed_13 : decode cX10_disturbed 13 = .ok (.aload_n 0, 1) := dk_42 hN_cX10_disturbed rfl rfl
theorem dX10_disturbed_14 : decode cX10_disturbed 14 = .ok (.aload_n 0, 1) := dk_42 hN_cX10_disturbed rfl rfl
theorem dX10_disturbed_15 : decode cX10_disturbed 15 = .ok (.getfield 25, 3) := dk_180 hN_cX10_disturbed rfl rfl rfl
theorem dX10_disturbed_18 : decode cX10_disturbed 18 = .ok (.invokevirtual 173, 3) := dk_182 hN_cX10_disturbed rfl rfl rfl
theorem dX10_disturbed_21 : decode cX10_disturbed 21 = .ok (.invokevirtual 125, 3) := dk_182 hN_cX10_disturbed rfl rfl rfl
theorem dX10_disturbed_24 : decode cX10_disturbed 24 = .ok (.ireturn, 1) := dk_172 hN_cX10_disturbed rfl rfl
theorem dX10_disturbed_7 : decode cX10_disturbed 7 = .ok (.aload_n 0, 1) := dk_42 hN_cX10_disturbed rfl rfl
theorem dX10_disturbed_8 : decode cX10_disturbed 8 = .ok (.iconst 1, 1) := dk_4 hN_cX10_disturbed rfl rfl
theorem dX10_disturbed_9 : decode cX10_disturbed 9 = .ok (.invokevirtual 90, 3) := dk_182 hN_cX10_disturbed rfl rfl rfl
theorem dX10_disturbed_12 : decode cX10_disturbed 12 = .ok (.ireturn, 1) := dk_172 hN_cX10_disturbed rfl rfl
theorem dX10_same_0 : decode cX10_same 0 = .ok (.aload_n 0, 1) := dk_42 hN_cX10_same rfl rfl
theorem dX10_same_1 : decode cX10_same 1 = .ok (.getfield 25, 3) := dk_180 hN_cX10_same rfl rfl rfl
theorem dX10_same_4 : decode cX10_same 4 = .ok (.iload_n 1, 1) := dk_27 hN_cX10_same rfl rfl
theorem dX10_same_5 : decode cX10_same 5 = .ok (.invokevirtual 176, 3) := dk_182 hN_cX10_same rfl rfl rfl
theorem dX10_same_8 : decode cX10_same 8 = .ok (.ifCond .ne 12, 3) := dk_154 hN_cX10_same rfl rfl rfl
theorem dX10_same_20 : decode cX10_same 20 = .ok (.aload_n 0, 1) := dk_42 hN_cX10_same rfl rfl
theorem dX10_same_21 : decode cX10_same 21 = .ok (.aload_n 0, 1) := dk_42 hN_cX10_same rfl rfl
theorem dX10_same_22 : decode cX10_same 22 = .ok (.getfield 25, 3) := dk_180 hN_cX10_same rfl rfl rfl
theorem dX10_same_25 : decode cX10_same 25 = .ok (.iload_n 1, 1) := dk_27 hN_cX10_same rfl rfl
theorem dX10_same_26 : decode cX10_same 26 = .ok (.invokevirtual 179, 3) := dk_182 hN_cX10_same rfl rfl rfl
theorem dX10_same_29 : decode cX10_same 29 = .ok (.invokevirtual 125, 3) := dk_182 hN_cX10_same rfl rfl rfl
theorem dX10_same_32 : decode cX10_same 32 = .ok (.ireturn, 1) := dk_172 hN_cX10_same rfl rfl
theorem dX10_same_11 : decode cX10_same 11 = .ok (.aload_n 0, 1) := dk_42 hN_cX10_same rfl rfl
theorem dX10_same_12 : decode cX10_same 12 = .ok (.iconst 1, 1) := dk_4 hN_cX10_same rfl rfl
theorem dX10_same_13 : decode cX10_same 13 = .ok (.putfield 128, 3) := dk_181 hN_cX10_same rfl rfl rfl
theorem dX10_same_16 : decode cX10_same 16 = .ok (.sipush (-1000), 3) := dk_17 hN_cX10_same rfl rfl rfl
theorem dX10_same_19 : decode cX10_same 19 = .ok (.ireturn, 1) := dk_172 hN_cX10_same rfl rfl
theorem dX10_cycles_0 : decode cX10_cycles 0 = .ok (.aload_n 0, 1) := dk_42 hN_cX10_cycles rfl rfl
theorem dX10_cycles_1 : decode cX10_cycles 1 = .ok (.invokevirtual 131, 3) := dk_182 hN_cX10_cycles rfl rfl rfl
theorem dX10_cycles_4 : decode cX10_cycles 4 = .ok (.ifCond .eq 9, 3) := dk_153 hN_cX10_cycles rfl rfl rfl
theorem dX10_cycles_13 : decode cX10_cycles 13 = .ok (.aload_n 0, 1) := dk_42 hN_cX10_cycles rfl rfl
theorem dX10_cycles_14 : decode cX10_cycles 14 = .ok (.aload_n 0, 1) := dk_42 hN_cX10_cycles rfl rfl
theorem dX10_cycles_15 : decode cX10_cycles 15 = .ok (.getfield 34, 3) := dk_180 hN_cX10_cycles rfl rfl rfl
theorem dX10_cycles_18 : decode cX10_cycles 18 = .ok (.invokevirtual 182, 3) := dk_182 hN_cX10_cycles rfl rfl rfl
theorem dX10_cycles_21 : decode cX10_cycles 21 = .ok (.invokevirtual 125, 3) := dk_182 hN_cX10_cycles rfl rfl rfl
theorem dX10_cycles_24 : decode cX10_cycles 24 = .ok (.ireturn, 1) := dk_172 hN_cX10_cycles rfl rfl
theorem dX10_cycles_7 : decode cX10_cycles 7 = .ok (.aload_n 0, 1) := dk_42 hN_cX10_cycles rfl rfl
theorem dX10_cycles_8 : decode cX10_cycles 8 = .ok (.iconst 1, 1) := dk_4 hN_cX10_cycles rfl rfl
theorem dX10_cycles_9 : decode cX10_cycles 9 = .ok (.invokevirtual 90, 3) := dk_182 hN_cX10_cycles rfl rfl rfl
theorem dX10_cycles_12 : decode cX10_cycles 12 = .ok (.ireturn, 1) := dk_172 hN_cX10_cycles rfl rfl
theorem dX10_cycle_0 : decode cX10_cycle 0 = .ok (.aload_n 0, 1) := dk_42 hN_cX10_cycle rfl rfl
theorem dX10_cycle_1 : decode cX10_cycle 1 = .ok (.invokevirtual 131, 3) := dk_182 hN_cX10_cycle rfl rfl rfl
theorem dX10_cycle_4 : decode cX10_cycle 4 = .ok (.ifCond .eq 7, 3) := dk_153 hN_cX10_cycle rfl rfl rfl
theorem dX10_cycle_11 : decode cX10_cycle 11 = .ok (.aload_n 0, 1) := dk_42 hN_cX10_cycle rfl rfl
theorem dX10_cycle_12 : decode cX10_cycle 12 = .ok (.getfield 34, 3) := dk_180 hN_cX10_cycle rfl rfl rfl
theorem dX10_cycle_15 : decode cX10_cycle 15 = .ok (.iload_n 1, 1) := dk_27 hN_cX10_cycle rfl rfl
theorem dX10_cycle_16 : decode cX10_cycle 16 = .ok (.invokevirtual 185, 3) := dk_182 hN_cX10_cycle rfl rfl rfl
theorem dX10_cycle_19 : decode cX10_cycle 19 = .ok (.istore_n 2, 1) := dk_61 hN_cX10_cycle rfl rfl
theorem dX10_cycle_20 : decode cX10_cycle 20 = .ok (.iload_n 2, 1) := dk_28 hN_cX10_cycle rfl rfl
theorem dX10_cycle_21 : decode cX10_cycle 21 = .ok (.ifCond .ge 11, 3) := dk_156 hN_cX10_cycle rfl rfl rfl
theorem dX10_cycle_32 : decode cX10_cycle 32 = .ok (.aload_n 0, 1) := dk_42 hN_cX10_cycle rfl rfl
theorem dX10_cycle_33 : decode cX10_cycle 33 = .ok (.iload_n 2, 1) := dk_28 hN_cX10_cycle rfl rfl
theorem dX10_cycle_34 : decode cX10_cycle 34 = .ok (.invokevirtual 125, 3) := dk_182 hN_cX10_cycle rfl rfl rfl
theorem dX10_cycle_37 : decode cX10_cycle 37 = .ok (.ireturn, 1) := dk_172 hN_cX10_cycle rfl rfl
theorem dX10_cycle_24 : decode cX10_cycle 24 = .ok (.aload_n 0, 1) := dk_42 hN_cX10_cycle rfl rfl
theorem dX10_cycle_25 : decode cX10_cycle 25 = .ok (.iconst 1, 1) := dk_4 hN_cX10_cycle rfl rfl
theorem dX10_cycle_26 : decode cX10_cycle 26 = .ok (.invokevirtual 90, 3) := dk_182 hN_cX10_cycle rfl rfl rfl
theorem dX10_cycle_29 : decode cX10_cycle 29 = .ok (.goto 8, 3) := dk_167 hN_cX10_cycle rfl rfl rfl
theorem dX10_cycle_7 : decode cX10_cycle 7 = .ok (.iconst (-1), 1) := dk_2 hN_cX10_cycle rfl rfl
theorem dX10_cycle_8 : decode cX10_cycle 8 = .ok (.goto 11, 3) := dk_167 hN_cX10_cycle rfl rfl rfl
theorem dX10_excess_0 : decode cX10_excess 0 = .ok (.aload_n 0, 1) := dk_42 hN_cX10_excess rfl rfl
theorem dX10_excess_1 : decode cX10_excess 1 = .ok (.invokevirtual 131, 3) := dk_182 hN_cX10_excess rfl rfl rfl
theorem dX10_excess_4 : decode cX10_excess 4 = .ok (.ifCond .eq 12, 3) := dk_153 hN_cX10_excess rfl rfl rfl
theorem dX10_excess_16 : decode cX10_excess 16 = .ok (.aload_n 0, 1) := dk_42 hN_cX10_excess rfl rfl
theorem dX10_excess_17 : decode cX10_excess 17 = .ok (.getfield 34, 3) := dk_180 hN_cX10_excess rfl rfl rfl
theorem dX10_excess_20 : decode cX10_excess 20 = .ok (.iload_n 1, 1) := dk_27 hN_cX10_excess rfl rfl
theorem dX10_excess_21 : decode cX10_excess 21 = .ok (.invokevirtual 188, 3) := dk_182 hN_cX10_excess rfl rfl rfl
theorem dX10_excess_24 : decode cX10_excess 24 = .ok (.ifCond .ne 12, 3) := dk_154 hN_cX10_excess rfl rfl rfl
theorem dX10_excess_36 : decode cX10_excess 36 = .ok (.aload_n 0, 1) := dk_42 hN_cX10_excess rfl rfl
theorem dX10_excess_37 : decode cX10_excess 37 = .ok (.aload_n 0, 1) := dk_42 hN_cX10_excess rfl rfl
theorem dX10_excess_38 : decode cX10_excess 38 = .ok (.getfield 34, 3) := dk_180 hN_cX10_excess rfl rfl rfl
theorem dX10_excess_41 : decode cX10_excess 41 = .ok (.iload_n 1, 1) := dk_27 hN_cX10_excess rfl rfl
theorem dX10_excess_42 : decode cX10_excess 42 = .ok (.invokevirtual 191, 3) := dk_182 hN_cX10_excess rfl rfl rfl
theorem dX10_excess_45 : decode cX10_excess 45 = .ok (.invokevirtual 125, 3) := dk_182 hN_cX10_excess rfl rfl rfl
theorem dX10_excess_48 : decode cX10_excess 48 = .ok (.ireturn, 1) := dk_172 hN_cX10_excess rfl rfl
theorem dX10_excess_27 : decode cX10_excess 27 = .ok (.aload_n 0, 1) := dk_42 hN_cX10_excess rfl rfl
theorem dX10_excess_28 : decode cX10_excess 28 = .ok (.iconst 5, 1) := dk_8 hN_cX10_excess rfl rfl
theorem dX10_excess_29 : decode cX10_excess 29 = .ok (.putfield 128, 3) := dk_181 hN_cX10_excess rfl rfl rfl
theorem dX10_excess_32 : decode cX10_excess 32 = .ok (.sipush (-1000), 3) := dk_17 hN_cX10_excess rfl rfl rfl
theorem dX10_excess_35 : decode cX10_excess 35 = .ok (.ireturn, 1) := dk_172 hN_cX10_excess rfl rfl
theorem dX10_excess_7 : decode cX10_excess 7 = .ok (.aload_n 0, 1) := dk_42 hN_cX10_excess rfl rfl
theorem dX10_excess_8 : decode cX10_excess 8 = .ok (.iconst 1, 1) := dk_4 hN_cX10_excess rfl rfl
theorem dX10_excess_9 : decode cX10_excess 9 = .ok (.putfield 128, 3) := dk_181 hN_cX10_excess rfl rfl rfl
theorem dX10_excess_12 : decode cX10_excess 12 = .ok (.sipush (-1000), 3) := dk_17 hN_cX10_excess rfl rfl rfl
theorem dX10_excess_15 : decode cX10_excess 15 = .ok (.ireturn, 1) := dk_172 hN_cX10_excess rfl rfl
theorem dX10_widest_0 : decode cX10_widest 0 = .ok (.aload_n 0, 1) := dk_42 hN_cX10_widest rfl rfl
theorem dX10_widest_1 : decode cX10_widest 1 = .ok (.invokevirtual 131, 3) := dk_182 hN_cX10_widest rfl rfl rfl
theorem dX10_widest_4 : decode cX10_widest 4 = .ok (.ifCond .eq 9, 3) := dk_153 hN_cX10_widest rfl rfl rfl
theorem dX10_widest_13 : decode cX10_widest 13 = .ok (.aload_n 0, 1) := dk_42 hN_cX10_widest rfl rfl
theorem dX10_widest_14 : decode cX10_widest 14 = .ok (.aload_n 0, 1) := dk_42 hN_cX10_widest rfl rfl
theorem dX10_widest_15 : decode cX10_widest 15 = .ok (.getfield 34, 3) := dk_180 hN_cX10_widest rfl rfl rfl
theorem dX10_widest_18 : decode cX10_widest 18 = .ok (.invokevirtual 194, 3) := dk_182 hN_cX10_widest rfl rfl rfl
theorem dX10_widest_21 : decode cX10_widest 21 = .ok (.invokevirtual 125, 3) := dk_182 hN_cX10_widest rfl rfl rfl
theorem dX10_widest_24 : decode cX10_widest 24 = .ok (.ireturn, 1) := dk_172 hN_cX10_widest rfl rfl
theorem dX10_widest_7 : decode cX10_widest 7 = .ok (.aload_n 0, 1) := dk_42 hN_cX10_widest rfl rfl
theorem dX10_widest_8 : decode cX10_widest 8 = .ok (.iconst 1, 1) := dk_4 hN_cX10_widest rfl rfl
theorem dX10_widest_9 : decode cX10_widest 9 = .ok (.invokevirtual 90, 3) := dk_182 hN_cX10_widest rfl rfl rfl
theorem dX10_widest_12 : decode cX10_widest 12 = .ok (.ireturn, 1) := dk_172 hN_cX10_widest rfl rfl
theorem dX10_stake_0 : decode cX10_stake 0 = .ok (.aload_n 0, 1) := dk_42 hN_cX10_stake rfl rfl
theorem dX10_stake_1 : decode cX10_stake 1 = .ok (.getfield 25, 3) := dk_180 hN_cX10_stake rfl rfl rfl
theorem dX10_stake_4 : decode cX10_stake 4 = .ok (.iload_n 1, 1) := dk_27 hN_cX10_stake rfl rfl
theorem dX10_stake_5 : decode cX10_stake 5 = .ok (.iload_n 2, 1) := dk_28 hN_cX10_stake rfl rfl
theorem dX10_stake_6 : decode cX10_stake 6 = .ok (.invokevirtual 156, 3) := dk_182 hN_cX10_stake rfl rfl rfl
theorem dX10_stake_9 : decode cX10_stake 9 = .ok (.ifCond .ne 9, 3) := dk_154 hN_cX10_stake rfl rfl rfl
theorem dX10_stake_18 : decode cX10_stake 18 = .ok (.iload_n 3, 1) := dk_29 hN_cX10_stake rfl rfl
theorem dX10_stake_19 : decode cX10_stake 19 = .ok (.ifCond .lt 9, 3) := dk_155 hN_cX10_stake rfl rfl rfl
theorem dX10_stake_28 : decode cX10_stake 28 = .ok (.aload_n 0, 1) := dk_42 hN_cX10_stake rfl rfl
theorem dX10_stake_29 : decode cX10_stake 29 = .ok (.iconst 2, 1) := dk_5 hN_cX10_stake rfl rfl
theorem dX10_stake_30 : decode cX10_stake 30 = .ok (.invokevirtual 197, 3) := dk_182 hN_cX10_stake rfl rfl rfl
theorem dX10_stake_33 : decode cX10_stake 33 = .ok (.ireturn, 1) := dk_172 hN_cX10_stake rfl rfl
theorem dX10_stake_22 : decode cX10_stake 22 = .ok (.iload_n 3, 1) := dk_29 hN_cX10_stake rfl rfl
theorem dX10_stake_23 : decode cX10_stake 23 = .ok (.bipush 99, 2) := dk_16 hN_cX10_stake rfl rfl rfl
theorem dX10_stake_25 : decode cX10_stake 25 = .ok (.if_icmp .le 9, 3) := dk_164 hN_cX10_stake rfl rfl rfl
theorem dX10_stake_34 : decode cX10_stake 34 = .ok (.aload_n 0, 1) := dk_42 hN_cX10_stake rfl rfl
theorem dX10_stake_35 : decode cX10_stake 35 = .ok (.getfield 25, 3) := dk_180 hN_cX10_stake rfl rfl rfl
theorem dX10_stake_38 : decode cX10_stake 38 = .ok (.getfield 200, 3) := dk_180 hN_cX10_stake rfl rfl rfl
theorem dX10_stake_41 : decode cX10_stake 41 = .ok (.iconst 4, 1) := dk_7 hN_cX10_stake rfl rfl
theorem dX10_stake_42 : decode cX10_stake 42 = .ok (.iload_n 1, 1) := dk_27 hN_cX10_stake rfl rfl
theorem dX10_stake_43 : decode cX10_stake 43 = .ok (.imul, 1) := dk_104 hN_cX10_stake rfl rfl
theorem dX10_stake_44 : decode cX10_stake 44 = .ok (.iload_n 2, 1) := dk_28 hN_cX10_stake rfl rfl
theorem dX10_stake_45 : decode cX10_stake 45 = .ok (.iadd, 1) := dk_96 hN_cX10_stake rfl rfl
theorem dX10_stake_46 : decode cX10_stake 46 = .ok (.iload_n 3, 1) := dk_29 hN_cX10_stake rfl rfl
theorem dX10_stake_47 : decode cX10_stake 47 = .ok (.iastore, 1) := dk_79 hN_cX10_stake rfl rfl
theorem dX10_stake_48 : decode cX10_stake 48 = .ok (.aload_n 0, 1) := dk_42 hN_cX10_stake rfl rfl
theorem dX10_stake_49 : decode cX10_stake 49 = .ok (.invokevirtual 203, 3) := dk_182 hN_cX10_stake rfl rfl rfl
theorem dX10_stake_52 : decode cX10_stake 52 = .ok (.ireturn, 1) := dk_172 hN_cX10_stake rfl rfl
theorem dX10_stake_12 : decode cX10_stake 12 = .ok (.aload_n 0, 1) := dk_42 hN_cX10_stake rfl rfl
theorem dX10_stake_13 : decode cX10_stake 13 = .ok (.iconst 1, 1) := dk_4 hN_cX10_stake rfl rfl
theorem dX10_stake_14 : decode cX10_stake 14 = .ok (.invokevirtual 197, 3) := dk_182 hN_cX10_stake rfl rfl rfl
theorem dX10_stake_17 : decode cX10_stake 17 = .ok (.ireturn, 1) := dk_172 hN_cX10_stake rfl rfl
theorem dX10_wins_0 : decode cX10_wins 0 = .ok (.aload_n 0, 1) := dk_42 hN_cX10_wins rfl rfl
theorem dX10_wins_1 : decode cX10_wins 1 = .ok (.invokevirtual 131, 3) := dk_182 hN_cX10_wins rfl rfl rfl
theorem dX10_wins_4 : decode cX10_wins 4 = .ok (.ifCond .eq 9, 3) := dk_153 hN_cX10_wins rfl rfl rfl
theorem dX10_wins_13 : decode cX10_wins 13 = .ok (.aload_n 0, 1) := dk_42 hN_cX10_wins rfl rfl
theorem dX10_wins_14 : decode cX10_wins 14 = .ok (.aload_n 0, 1) := dk_42 hN_cX10_wins rfl rfl
theorem dX10_wins_15 : decode cX10_wins 15 = .ok (.getfield 25, 3) := dk_180 hN_cX10_wins rfl rfl rfl
theorem dX10_wins_18 : decode cX10_wins 18 = .ok (.invokevirtual 206, 3) := dk_182 hN_cX10_wins rfl rfl rfl
theorem dX10_wins_21 : decode cX10_wins 21 = .ok (.invokevirtual 125, 3) := dk_182 hN_cX10_wins rfl rfl rfl
theorem dX10_wins_24 : decode cX10_wins 24 = .ok (.ireturn, 1) := dk_172 hN_cX10_wins rfl rfl
theorem dX10_wins_7 : decode cX10_wins 7 = .ok (.aload_n 0, 1) := dk_42 hN_cX10_wins rfl rfl
theorem dX10_wins_8 : decode cX10_wins 8 = .ok (.iconst 1, 1) := dk_4 hN_cX10_wins rfl rfl
theorem dX10_wins_9 : decode cX10_wins 9 = .ok (.invokevirtual 90, 3) := dk_182 hN_cX10_wins rfl rfl rfl
theorem dX10_wins_12 : decode cX10_wins 12 = .ok (.ireturn, 1) := dk_172 hN_cX10_wins rfl rfl
theorem dX10_worst_0 : decode cX10_worst 0 = .ok (.aload_n 0, 1) := dk_42 hN_cX10_worst rfl rfl
theorem dX10_worst_1 : decode cX10_worst 1 = .ok (.invokevirtual 131, 3) := dk_182 hN_cX10_worst rfl rfl rfl
theorem dX10_worst_4 : decode cX10_worst 4 = .ok (.ifCond .eq 9, 3) := dk_153 hN_cX10_worst rfl rfl rfl
theorem dX10_worst_13 : decode cX10_worst 13 = .ok (.aload_n 0, 1) := dk_42 hN_cX10_worst rfl rfl
theorem dX10_worst_14 : decode cX10_worst 14 = .ok (.aload_n 0, 1) := dk_42 hN_cX10_worst rfl rfl
theorem dX10_worst_15 : decode cX10_worst 15 = .ok (.getfield 25, 3) := dk_180 hN_cX10_worst rfl rfl rfl
theorem dX10_worst_18 : decode cX10_worst 18 = .ok (.aload_n 0, 1) := dk_42 hN_cX10_worst rfl rfl
theorem dX10_worst_19 : decode cX10_worst 19 = .ok (.getfield 25, 3) := dk_180 hN_cX10_worst rfl rfl rfl
theorem dX10_worst_22 : decode cX10_worst 22 = .ok (.invokevirtual 209, 3) := dk_182 hN_cX10_worst rfl rfl rfl
theorem dX10_worst_25 : decode cX10_worst 25 = .ok (.invokevirtual 212, 3) := dk_182 hN_cX10_worst rfl rfl rfl
theorem dX10_worst_28 : decode cX10_worst 28 = .ok (.invokevirtual 125, 3) := dk_182 hN_cX10_worst rfl rfl rfl
theorem dX10_worst_31 : decode cX10_worst 31 = .ok (.ireturn, 1) := dk_172 hN_cX10_worst rfl rfl
theorem dX10_worst_7 : decode cX10_worst 7 = .ok (.aload_n 0, 1) := dk_42 hN_cX10_worst rfl rfl
theorem dX10_worst_8 : decode cX10_worst 8 = .ok (.iconst 1, 1) := dk_4 hN_cX10_worst rfl rfl
theorem dX10_worst_9 : decode cX10_worst 9 = .ok (.invokevirtual 90, 3) := dk_182 hN_cX10_worst rfl rfl rfl
theorem dX10_worst_12 : decode cX10_worst 12 = .ok (.ireturn, 1) := dk_172 hN_cX10_worst rfl rfl
theorem dX10_worstAt_0 : decode cX10_worstAt 0 = .ok (.aload_n 0, 1) := dk_42 hN_cX10_worstAt rfl rfl
theorem dX10_worstAt_1 : decode cX10_worstAt 1 = .ok (.invokevirtual 131, 3) := dk_182 hN_cX10_worstAt rfl rfl rfl
theorem dX10_worstAt_4 : decode cX10_worstAt 4 = .ok (.ifCond .eq 9, 3) := dk_153 hN_cX10_worstAt rfl rfl rfl
theorem dX10_worstAt_13 : decode cX10_worstAt 13 = .ok (.aload_n 0, 1) := dk_42 hN_cX10_worstAt rfl rfl
theorem dX10_worstAt_14 : decode cX10_worstAt 14 = .ok (.aload_n 0, 1) := dk_42 hN_cX10_worstAt rfl rfl
theorem dX10_worstAt_15 : decode cX10_worstAt 15 = .ok (.getfield 25, 3) := dk_180 hN_cX10_worstAt rfl rfl rfl
theorem dX10_worstAt_18 : decode cX10_worstAt 18 = .ok (.invokevirtual 209, 3) := dk_182 hN_cX10_worstAt rfl rfl rfl
theorem dX10_worstAt_21 : decode cX10_worstAt 21 = .ok (.invokevirtual 125, 3) := dk_182 hN_cX10_worstAt rfl rfl rfl
theorem dX10_worstAt_24 : decode cX10_worstAt 24 = .ok (.ireturn, 1) := dk_172 hN_cX10_worstAt rfl rfl
theorem dX10_worstAt_7 : decode cX10_worstAt 7 = .ok (.aload_n 0, 1) := dk_42 hN_cX10_worstAt rfl rfl
theorem dX10_worstAt_8 : decode cX10_worstAt 8 = .ok (.iconst 1, 1) := dk_4 hN_cX10_worstAt rfl rfl
theorem dX10_worstAt_9 : decode cX10_worstAt 9 = .ok (.invokevirtual 90, 3) := dk_182 hN_cX10_worstAt rfl rfl rfl
theorem dX10_worstAt_12 : decode cX10_worstAt 12 = .ok (.ireturn, 1) := dk_172 hN_cX10_worstAt rfl rfl
theorem dX10_bars_0 : decode cX10_bars 0 = .ok (.aload_n 0, 1) := dk_42 hN_cX10_bars rfl rfl
theorem dX10_bars_1 : decode cX10_bars 1 = .ok (.invokevirtual 131, 3) := dk_182 hN_cX10_bars rfl rfl rfl
theorem dX10_bars_4 : decode cX10_bars 4 = .ok (.ifCond .eq 9, 3) := dk_153 hN_cX10_bars rfl rfl rfl
theorem dX10_bars_13 : decode cX10_bars 13 = .ok (.aload_n 0, 1) := dk_42 hN_cX10_bars rfl rfl
theorem dX10_bars_14 : decode cX10_bars 14 = .ok (.aload_n 0, 1) := dk_42 hN_cX10_bars rfl rfl
theorem dX10_bars_15 : decode cX10_bars 15 = .ok (.getfield 25, 3) := dk_180 hN_cX10_bars rfl rfl rfl
theorem dX10_bars_18 : decode cX10_bars 18 = .ok (.invokevirtual 206, 3) := dk_182 hN_cX10_bars rfl rfl rfl
theorem dX10_bars_21 : decode cX10_bars 21 = .ok (.aload_n 0, 1) := dk_42 hN_cX10_bars rfl rfl
theorem dX10_bars_22 : decode cX10_bars 22 = .ok (.getfield 25, 3) := dk_180 hN_cX10_bars rfl rfl rfl
theorem dX10_bars_25 : decode cX10_bars 25 = .ok (.aload_n 0, 1) := dk_42 hN_cX10_bars rfl rfl
theorem dX10_bars_26 : decode cX10_bars 26 = .ok (.getfield 25, 3) := dk_180 hN_cX10_bars rfl rfl rfl
theorem dX10_bars_29 : decode cX10_bars 29 = .ok (.invokevirtual 209, 3) := dk_182 hN_cX10_bars rfl rfl rfl
theorem dX10_bars_32 : decode cX10_bars 32 = .ok (.invokevirtual 212, 3) := dk_182 hN_cX10_bars rfl rfl rfl
theorem dX10_bars_35 : decode cX10_bars 35 = .ok (.aload_n 0, 1) := dk_42 hN_cX10_bars rfl rfl
theorem dX10_bars_36 : decode cX10_bars 36 = .ok (.getfield 25, 3) := dk_180 hN_cX10_bars rfl rfl rfl
theorem dX10_bars_39 : decode cX10_bars 39 = .ok (.getfield 215, 3) := dk_180 hN_cX10_bars rfl rfl rfl
theorem dX10_bars_42 : decode cX10_bars 42 = .ok (.imul, 1) := dk_104 hN_cX10_bars rfl rfl
theorem dX10_bars_43 : decode cX10_bars 43 = .ok (.if_icmp .ge 7, 3) := dk_162 hN_cX10_bars rfl rfl rfl
theorem dX10_bars_50 : decode cX10_bars 50 = .ok (.iconst 0, 1) := dk_3 hN_cX10_bars rfl rfl
theorem dX10_bars_51 : decode cX10_bars 51 = .ok (.invokevirtual 125, 3) := dk_182 hN_cX10_bars rfl rfl rfl
theorem dX10_bars_54 : decode cX10_bars 54 = .ok (.ireturn, 1) := dk_172 hN_cX10_bars rfl rfl
theorem dX10_bars_46 : decode cX10_bars 46 = .ok (.iconst 1, 1) := dk_4 hN_cX10_bars rfl rfl
theorem dX10_bars_47 : decode cX10_bars 47 = .ok (.goto 4, 3) := dk_167 hN_cX10_bars rfl rfl rfl
theorem dX10_bars_7 : decode cX10_bars 7 = .ok (.aload_n 0, 1) := dk_42 hN_cX10_bars rfl rfl
theorem dX10_bars_8 : decode cX10_bars 8 = .ok (.iconst 1, 1) := dk_4 hN_cX10_bars rfl rfl
theorem dX10_bars_9 : decode cX10_bars 9 = .ok (.invokevirtual 90, 3) := dk_182 hN_cX10_bars rfl rfl rfl
theorem dX10_bars_12 : decode cX10_bars 12 = .ok (.ireturn, 1) := dk_172 hN_cX10_bars rfl rfl
theorem dX10_fair_0 : decode cX10_fair 0 = .ok (.aload_n 0, 1) := dk_42 hN_cX10_fair rfl rfl
theorem dX10_fair_1 : decode cX10_fair 1 = .ok (.invokevirtual 131, 3) := dk_182 hN_cX10_fair rfl rfl rfl
theorem dX10_fair_4 : decode cX10_fair 4 = .ok (.ifCond .eq 9, 3) := dk_153 hN_cX10_fair rfl rfl rfl
theorem dX10_fair_13 : decode cX10_fair 13 = .ok (.aload_n 0, 1) := dk_42 hN_cX10_fair rfl rfl
theorem dX10_fair_14 : decode cX10_fair 14 = .ok (.getfield 25, 3) := dk_180 hN_cX10_fair rfl rfl rfl
theorem dX10_fair_17 : decode cX10_fair 17 = .ok (.invokevirtual 206, 3) := dk_182 hN_cX10_fair rfl rfl rfl
theorem dX10_fair_20 : decode cX10_fair 20 = .ok (.istore_n 2, 1) := dk_61 hN_cX10_fair rfl rfl
theorem dX10_fair_21 : decode cX10_fair 21 = .ok (.aload_n 0, 1) := dk_42 hN_cX10_fair rfl rfl
theorem dX10_fair_22 : decode cX10_fair 22 = .ok (.getfield 25, 3) := dk_180 hN_cX10_fair rfl rfl rfl
theorem dX10_fair_25 : decode cX10_fair 25 = .ok (.aload_n 0, 1) := dk_42 hN_cX10_fair rfl rfl
theorem dX10_fair_26 : decode cX10_fair 26 = .ok (.getfield 25, 3) := dk_180 hN_cX10_fair rfl rfl rfl
theorem dX10_fair_29 : decode cX10_fair 29 = .ok (.invokevirtual 209, 3) := dk_182 hN_cX10_fair rfl rfl rfl
theorem dX10_fair_32 : decode cX10_fair 32 = .ok (.invokevirtual 212, 3) := dk_182 hN_cX10_fair rfl rfl rfl
theorem dX10_fair_35 : decode cX10_fair 35 = .ok (.aload_n 0, 1) := dk_42 hN_cX10_fair rfl rfl
theorem dX10_fair_36 : decode cX10_fair 36 = .ok (.getfield 25, 3) := dk_180 hN_cX10_fair rfl rfl rfl
theorem dX10_fair_39 : decode cX10_fair 39 = .ok (.getfield 215, 3) := dk_180 hN_cX10_fair rfl rfl rfl
theorem dX10_fair_42 : decode cX10_fair 42 = .ok (.imul, 1) := dk_104 hN_cX10_fair rfl rfl
theorem dX10_fair_43 : decode cX10_fair 43 = .ok (.istore_n 3, 1) := dk_62 hN_cX10_fair rfl rfl
theorem dX10_fair_44 : decode cX10_fair 44 = .ok (.iload_n 3, 1) := dk_29 hN_cX10_fair rfl rfl
theorem dX10_fair_45 : decode cX10_fair 45 = .ok (.ifCond .eq 8, 3) := dk_153 hN_cX10_fair rfl rfl rfl
theorem dX10_fair_53 : decode cX10_fair 53 = .ok (.aload_n 0, 1) := dk_42 hN_cX10_fair rfl rfl
theorem dX10_fair_54 : decode cX10_fair 54 = .ok (.getfield 41, 3) := dk_180 hN_cX10_fair rfl rfl rfl
theorem dX10_fair_57 : decode cX10_fair 57 = .ok (.lconst 1, 1) := dk_10 hN_cX10_fair rfl rfl
theorem dX10_fair_58 : decode cX10_fair 58 = .ok (.lconst 1, 1) := dk_10 hN_cX10_fair rfl rfl
theorem dX10_fair_59 : decode cX10_fair 59 = .ok (.invokevirtual 218, 3) := dk_182 hN_cX10_fair rfl rfl rfl
theorem dX10_fair_62 : decode cX10_fair 62 = .ok (.goto 14, 3) := dk_167 hN_cX10_fair rfl rfl rfl
theorem dX10_fair_76 : decode cX10_fair 76 = .ok (.aload_n 0, 1) := dk_42 hN_cX10_fair rfl rfl
theorem dX10_fair_77 : decode cX10_fair 77 = .ok (.aload_n 0, 1) := dk_42 hN_cX10_fair rfl rfl
theorem dX10_fair_78 : decode cX10_fair 78 = .ok (.getfield 41, 3) := dk_180 hN_cX10_fair rfl rfl rfl
theorem dX10_fair_81 : decode cX10_fair 81 = .ok (.iload_n 1, 1) := dk_27 hN_cX10_fair rfl rfl
theorem dX10_fair_82 : decode cX10_fair 82 = .ok (.invokevirtual 138, 3) := dk_182 hN_cX10_fair rfl rfl rfl
theorem dX10_fair_85 : decode cX10_fair 85 = .ok (.invokevirtual 125, 3) := dk_182 hN_cX10_fair rfl rfl rfl
theorem dX10_fair_88 : decode cX10_fair 88 = .ok (.ireturn, 1) := dk_172 hN_cX10_fair rfl rfl
theorem dX10_fair_48 : decode cX10_fair 48 = .ok (.iload_n 2, 1) := dk_28 hN_cX10_fair rfl rfl
theorem dX10_fair_49 : decode cX10_fair 49 = .ok (.iload_n 3, 1) := dk_29 hN_cX10_fair rfl rfl
theorem dX10_fair_50 : decode cX10_fair 50 = .ok (.if_icmp .le 15, 3) := dk_164 hN_cX10_fair rfl rfl rfl
theorem dX10_fair_65 : decode cX10_fair 65 = .ok (.aload_n 0, 1) := dk_42 hN_cX10_fair rfl rfl
theorem dX10_fair_66 : decode cX10_fair 66 = .ok (.getfield 41, 3) := dk_180 hN_cX10_fair rfl rfl rfl
theorem dX10_fair_69 : decode cX10_fair 69 = .ok (.iload_n 2, 1) := dk_28 hN_cX10_fair rfl rfl
theorem dX10_fair_70 : decode cX10_fair 70 = .ok (.i2l, 1) := dk_133 hN_cX10_fair rfl rfl
theorem dX10_fair_71 : decode cX10_fair 71 = .ok (.iload_n 3, 1) := dk_29 hN_cX10_fair rfl rfl
theorem dX10_fair_72 : decode cX10_fair 72 = .ok (.i2l, 1) := dk_133 hN_cX10_fair rfl rfl
theorem dX10_fair_73 : decode cX10_fair 73 = .ok (.invokevirtual 218, 3) := dk_182 hN_cX10_fair rfl rfl rfl
theorem dX10_fair_7 : decode cX10_fair 7 = .ok (.aload_n 0, 1) := dk_42 hN_cX10_fair rfl rfl
theorem dX10_fair_8 : decode cX10_fair 8 = .ok (.iconst 1, 1) := dk_4 hN_cX10_fair rfl rfl
theorem dX10_fair_9 : decode cX10_fair 9 = .ok (.invokevirtual 90, 3) := dk_182 hN_cX10_fair rfl rfl rfl
theorem dX10_fair_12 : decode cX10_fair 12 = .ok (.ireturn, 1) := dk_172 hN_cX10_fair rfl rfl
theorem dX10_ways_0 : decode cX10_ways 0 = .ok (.aload_n 0, 1) := dk_42 hN_cX10_ways rfl rfl
theorem dX10_ways_1 : decode cX10_ways 1 = .ok (.invokevirtual 131, 3) := dk_182 hN_cX10_ways rfl rfl rfl
theorem dX10_ways_4 : decode cX10_ways 4 = .ok (.ifCond .eq 9, 3) := dk_153 hN_cX10_ways rfl rfl rfl
theorem dX10_ways_13 : decode cX10_ways 13 = .ok (.aload_n 0, 1) := dk_42 hN_cX10_ways rfl rfl
theorem dX10_ways_14 : decode cX10_ways 14 = .ok (.aload_n 0, 1) := dk_42 hN_cX10_ways rfl rfl
theorem dX10_ways_15 : decode cX10_ways 15 = .ok (.getfield 57, 3) := dk_180 hN_cX10_ways rfl rfl rfl
theorem dX10_ways_18 : decode cX10_ways 18 = .ok (.getfield 222, 3) := dk_180 hN_cX10_ways rfl rfl rfl
theorem dX10_ways_21 : decode cX10_ways 21 = .ok (.invokevirtual 125, 3) := dk_182 hN_cX10_ways rfl rfl rfl
theorem dX10_ways_24 : decode cX10_ways 24 = .ok (.ireturn, 1) := dk_172 hN_cX10_ways rfl rfl
theorem dX10_ways_7 : decode cX10_ways 7 = .ok (.aload_n 0, 1) := dk_42 hN_cX10_ways rfl rfl
theorem dX10_ways_8 : decode cX10_ways 8 = .ok (.iconst 1, 1) := dk_4 hN_cX10_ways rfl rfl
theorem dX10_ways_9 : decode cX10_ways 9 = .ok (.invokevirtual 90, 3) := dk_182 hN_cX10_ways rfl rfl rfl
theorem dX10_ways_12 : decode cX10_ways 12 = .ok (.ireturn, 1) := dk_172 hN_cX10_ways rfl rfl
theorem dX10_forced_0 : decode cX10_forced 0 = .ok (.iload_n 1, 1) := dk_27 hN_cX10_forced rfl rfl
theorem dX10_forced_1 : decode cX10_forced 1 = .ok (.ifCond .lt 14, 3) := dk_155 hN_cX10_forced rfl rfl rfl
theorem dX10_forced_15 : decode cX10_forced 15 = .ok (.aload_n 0, 1) := dk_42 hN_cX10_forced rfl rfl
theorem dX10_forced_16 : decode cX10_forced 16 = .ok (.iconst 1, 1) := dk_4 hN_cX10_forced rfl rfl
theorem dX10_forced_17 : decode cX10_forced 17 = .ok (.invokevirtual 90, 3) := dk_182 hN_cX10_forced rfl rfl rfl
theorem dX10_forced_20 : decode cX10_forced 20 = .ok (.ireturn, 1) := dk_172 hN_cX10_forced rfl rfl
theorem dX10_forced_4 : decode cX10_forced 4 = .ok (.iload_n 1, 1) := dk_27 hN_cX10_forced rfl rfl
theorem dX10_forced_5 : decode cX10_forced 5 = .ok (.aload_n 0, 1) := dk_42 hN_cX10_forced rfl rfl
theorem dX10_forced_6 : decode cX10_forced 6 = .ok (.getfield 57, 3) := dk_180 hN_cX10_forced rfl rfl rfl
theorem dX10_forced_9 : decode cX10_forced 9 = .ok (.getfield 225, 3) := dk_180 hN_cX10_forced rfl rfl rfl
theorem dX10_forced_12 : decode cX10_forced 12 = .ok (.if_icmp .lt 9, 3) := dk_161 hN_cX10_forced rfl rfl rfl
theorem dX10_forced_21 : decode cX10_forced 21 = .ok (.aload_n 0, 1) := dk_42 hN_cX10_forced rfl rfl
theorem dX10_forced_22 : decode cX10_forced 22 = .ok (.getfield 57, 3) := dk_180 hN_cX10_forced rfl rfl rfl
theorem dX10_forced_25 : decode cX10_forced 25 = .ok (.getfield 222, 3) := dk_180 hN_cX10_forced rfl rfl rfl
theorem dX10_forced_28 : decode cX10_forced 28 = .ok (.ifCond .ne 10, 3) := dk_154 hN_cX10_forced rfl rfl rfl
theorem dX10_forced_38 : decode cX10_forced 38 = .ok (.aload_n 0, 1) := dk_42 hN_cX10_forced rfl rfl
theorem dX10_forced_39 : decode cX10_forced 39 = .ok (.aload_n 0, 1) := dk_42 hN_cX10_forced rfl rfl
theorem dX10_forced_40 : decode cX10_forced 40 = .ok (.getfield 57, 3) := dk_180 hN_cX10_forced rfl rfl rfl
theorem dX10_forced_43 : decode cX10_forced 43 = .ok (.iload_n 1, 1) := dk_27 hN_cX10_forced rfl rfl
theorem dX10_forced_44 : decode cX10_forced 44 = .ok (.invokevirtual 228, 3) := dk_182 hN_cX10_forced rfl rfl rfl
theorem dX10_forced_47 : decode cX10_forced 47 = .ok (.invokevirtual 125, 3) := dk_182 hN_cX10_forced rfl rfl rfl
theorem dX10_forced_50 : decode cX10_forced 50 = .ok (.ireturn, 1) := dk_172 hN_cX10_forced rfl rfl
theorem dX10_forced_31 : decode cX10_forced 31 = .ok (.aload_n 0, 1) := dk_42 hN_cX10_forced rfl rfl
theorem dX10_forced_32 : decode cX10_forced 32 = .ok (.bipush 6, 2) := dk_16 hN_cX10_forced rfl rfl rfl
theorem dX10_forced_34 : decode cX10_forced 34 = .ok (.invokevirtual 90, 3) := dk_182 hN_cX10_forced rfl rfl rfl
theorem dX10_forced_37 : decode cX10_forced 37 = .ok (.ireturn, 1) := dk_172 hN_cX10_forced rfl rfl
theorem dX10_core_0 : decode cX10_core 0 = .ok (.aload_n 0, 1) := dk_42 hN_cX10_core rfl rfl
theorem dX10_core_1 : decode cX10_core 1 = .ok (.invokevirtual 131, 3) := dk_182 hN_cX10_core rfl rfl rfl
theorem dX10_core_4 : decode cX10_core 4 = .ok (.ifCond .eq 9, 3) := dk_153 hN_cX10_core rfl rfl rfl
theorem dX10_core_13 : decode cX10_core 13 = .ok (.aload_n 0, 1) := dk_42 hN_cX10_core rfl rfl
theorem dX10_core_14 : decode cX10_core 14 = .ok (.aload_n 0, 1) := dk_42 hN_cX10_core rfl rfl
theorem dX10_core_15 : decode cX10_core 15 = .ok (.getfield 57, 3) := dk_180 hN_cX10_core rfl rfl rfl
theorem dX10_core_18 : decode cX10_core 18 = .ok (.invokevirtual 231, 3) := dk_182 hN_cX10_core rfl rfl rfl
theorem dX10_core_21 : decode cX10_core 21 = .ok (.invokevirtual 125, 3) := dk_182 hN_cX10_core rfl rfl rfl
theorem dX10_core_24 : decode cX10_core 24 = .ok (.ireturn, 1) := dk_172 hN_cX10_core rfl rfl
theorem dX10_core_7 : decode cX10_core 7 = .ok (.aload_n 0, 1) := dk_42 hN_cX10_core rfl rfl
theorem dX10_core_8 : decode cX10_core 8 = .ok (.iconst 1, 1) := dk_4 hN_cX10_core rfl rfl
theorem dX10_core_9 : decode cX10_core 9 = .ok (.invokevirtual 90, 3) := dk_182 hN_cX10_core rfl rfl rfl
theorem dX10_core_12 : decode cX10_core 12 = .ok (.ireturn, 1) := dk_172 hN_cX10_core rfl rfl
theorem dX10_can_0 : decode cX10_can 0 = .ok (.aload_n 0, 1) := dk_42 hN_cX10_can rfl rfl
theorem dX10_can_1 : decode cX10_can 1 = .ok (.invokevirtual 131, 3) := dk_182 hN_cX10_can rfl rfl rfl
theorem dX10_can_4 : decode cX10_can 4 = .ok (.ifCond .eq 9, 3) := dk_153 hN_cX10_can rfl rfl rfl
theorem dX10_can_13 : decode cX10_can 13 = .ok (.iload_n 1, 1) := dk_27 hN_cX10_can rfl rfl
theorem dX10_can_14 : decode cX10_can 14 = .ok (.ifCond .lt 16, 3) := dk_155 hN_cX10_can rfl rfl rfl
theorem dX10_can_30 : decode cX10_can 30 = .ok (.aload_n 0, 1) := dk_42 hN_cX10_can rfl rfl
theorem dX10_can_31 : decode cX10_can 31 = .ok (.iconst 2, 1) := dk_5 hN_cX10_can rfl rfl
theorem dX10_can_32 : decode cX10_can 32 = .ok (.invokevirtual 90, 3) := dk_182 hN_cX10_can rfl rfl rfl
theorem dX10_can_35 : decode cX10_can 35 = .ok (.ireturn, 1) := dk_172 hN_cX10_can rfl rfl
theorem dX10_can_17 : decode cX10_can 17 = .ok (.iload_n 1, 1) := dk_27 hN_cX10_can rfl rfl
theorem dX10_can_18 : decode cX10_can 18 = .ok (.iconst 1, 1) := dk_4 hN_cX10_can rfl rfl
theorem dX10_can_19 : decode cX10_can 19 = .ok (.aload_n 0, 1) := dk_42 hN_cX10_can rfl rfl
theorem dX10_can_20 : decode cX10_can 20 = .ok (.getfield 57, 3) := dk_180 hN_cX10_can rfl rfl rfl
theorem dX10_can_23 : decode cX10_can 23 = .ok (.getfield 234, 3) := dk_180 hN_cX10_can rfl rfl rfl
theorem dX10_can_26 : decode cX10_can 26 = .ok (.ishl, 1) := dk_120 hN_cX10_can rfl rfl
theorem dX10_can_27 : decode cX10_can 27 = .ok (.if_icmp .lt 9, 3) := dk_161 hN_cX10_can rfl rfl rfl
theorem dX10_can_36 : decode cX10_can 36 = .ok (.aload_n 0, 1) := dk_42 hN_cX10_can rfl rfl
theorem dX10_can_37 : decode cX10_can 37 = .ok (.aload_n 0, 1) := dk_42 hN_cX10_can rfl rfl
theorem dX10_can_38 : decode cX10_can 38 = .ok (.getfield 57, 3) := dk_180 hN_cX10_can rfl rfl rfl
theorem dX10_can_41 : decode cX10_can 41 = .ok (.iload_n 1, 1) := dk_27 hN_cX10_can rfl rfl
theorem dX10_can_42 : decode cX10_can 42 = .ok (.invokevirtual 237, 3) := dk_182 hN_cX10_can rfl rfl rfl
theorem dX10_can_45 : decode cX10_can 45 = .ok (.ifCond .eq 7, 3) := dk_153 hN_cX10_can rfl rfl rfl
theorem dX10_can_52 : decode cX10_can 52 = .ok (.iconst 0, 1) := dk_3 hN_cX10_can rfl rfl
theorem dX10_can_53 : decode cX10_can 53 = .ok (.invokevirtual 125, 3) := dk_182 hN_cX10_can rfl rfl rfl
theorem dX10_can_56 : decode cX10_can 56 = .ok (.ireturn, 1) := dk_172 hN_cX10_can rfl rfl
theorem dX10_can_48 : decode cX10_can 48 = .ok (.iconst 1, 1) := dk_4 hN_cX10_can rfl rfl
theorem dX10_can_49 : decode cX10_can 49 = .ok (.goto 4, 3) := dk_167 hN_cX10_can rfl rfl rfl
theorem dX10_can_7 : decode cX10_can 7 = .ok (.aload_n 0, 1) := dk_42 hN_cX10_can rfl rfl
theorem dX10_can_8 : decode cX10_can 8 = .ok (.iconst 1, 1) := dk_4 hN_cX10_can rfl rfl
theorem dX10_can_9 : decode cX10_can 9 = .ok (.invokevirtual 90, 3) := dk_182 hN_cX10_can rfl rfl rfl
theorem dX10_can_12 : decode cX10_can 12 = .ok (.ireturn, 1) := dk_172 hN_cX10_can rfl rfl
theorem dX10_game_0 : decode cX10_game 0 = .ok (.aload_n 0, 1) := dk_42 hN_cX10_game rfl rfl
theorem dX10_game_1 : decode cX10_game 1 = .ok (.invokevirtual 131, 3) := dk_182 hN_cX10_game rfl rfl rfl
theorem dX10_game_4 : decode cX10_game 4 = .ok (.ifCond .eq 9, 3) := dk_153 hN_cX10_game rfl rfl rfl
theorem dX10_game_13 : decode cX10_game 13 = .ok (.aload_n 0, 1) := dk_42 hN_cX10_game rfl rfl
theorem dX10_game_14 : decode cX10_game 14 = .ok (.aload_n 0, 1) := dk_42 hN_cX10_game rfl rfl
theorem dX10_game_15 : decode cX10_game 15 = .ok (.getfield 57, 3) := dk_180 hN_cX10_game rfl rfl rfl
theorem dX10_game_18 : decode cX10_game 18 = .ok (.invokevirtual 240, 3) := dk_182 hN_cX10_game rfl rfl rfl
theorem dX10_game_21 : decode cX10_game 21 = .ok (.invokevirtual 125, 3) := dk_182 hN_cX10_game rfl rfl rfl
theorem dX10_game_24 : decode cX10_game 24 = .ok (.ireturn, 1) := dk_172 hN_cX10_game rfl rfl
theorem dX10_game_7 : decode cX10_game 7 = .ok (.aload_n 0, 1) := dk_42 hN_cX10_game rfl rfl
theorem dX10_game_8 : decode cX10_game 8 = .ok (.iconst 1, 1) := dk_4 hN_cX10_game rfl rfl
theorem dX10_game_9 : decode cX10_game 9 = .ok (.invokevirtual 90, 3) := dk_182 hN_cX10_game rfl rfl rfl
theorem dX10_game_12 : decode cX10_game 12 = .ok (.ireturn, 1) := dk_172 hN_cX10_game rfl rfl
theorem dX10_square_0 : decode cX10_square 0 = .ok (.aload_n 0, 1) := dk_42 hN_cX10_square rfl rfl
theorem dX10_square_1 : decode cX10_square 1 = .ok (.getfield 64, 3) := dk_180 hN_cX10_square rfl rfl rfl
theorem dX10_square_4 : decode cX10_square 4 = .ok (.iload_n 1, 1) := dk_27 hN_cX10_square rfl rfl
theorem dX10_square_5 : decode cX10_square 5 = .ok (.invokevirtual 243, 3) := dk_182 hN_cX10_square rfl rfl rfl
theorem dX10_square_8 : decode cX10_square 8 = .ok (.ifCond .eq 19, 3) := dk_153 hN_cX10_square rfl rfl rfl
theorem dX10_square_27 : decode cX10_square 27 = .ok (.aload_n 0, 1) := dk_42 hN_cX10_square rfl rfl
theorem dX10_square_28 : decode cX10_square 28 = .ok (.iconst 1, 1) := dk_4 hN_cX10_square rfl rfl
theorem dX10_square_29 : decode cX10_square 29 = .ok (.invokevirtual 90, 3) := dk_182 hN_cX10_square rfl rfl rfl
theorem dX10_square_32 : decode cX10_square 32 = .ok (.ireturn, 1) := dk_172 hN_cX10_square rfl rfl
theorem dX10_square_11 : decode cX10_square 11 = .ok (.aload_n 0, 1) := dk_42 hN_cX10_square rfl rfl
theorem dX10_square_12 : decode cX10_square 12 = .ok (.getfield 64, 3) := dk_180 hN_cX10_square rfl rfl rfl
theorem dX10_square_15 : decode cX10_square 15 = .ok (.iload_n 2, 1) := dk_28 hN_cX10_square rfl rfl
theorem dX10_square_16 : decode cX10_square 16 = .ok (.invokevirtual 243, 3) := dk_182 hN_cX10_square rfl rfl rfl
theorem dX10_square_19 : decode cX10_square 19 = .ok (.ifCond .eq 8, 3) := dk_153 hN_cX10_square rfl rfl rfl
theorem dX10_square_22 : decode cX10_square 22 = .ok (.iload_n 1, 1) := dk_27 hN_cX10_square rfl rfl
theorem dX10_square_23 : decode cX10_square 23 = .ok (.iload_n 2, 1) := dk_28 hN_cX10_square rfl rfl
theorem dX10_square_24 : decode cX10_square 24 = .ok (.if_icmp .ne 9, 3) := dk_160 hN_cX10_square rfl rfl rfl
theorem dX10_square_33 : decode cX10_square 33 = .ok (.aload_n 0, 1) := dk_42 hN_cX10_square rfl rfl
theorem dX10_square_34 : decode cX10_square 34 = .ok (.aload_n 0, 1) := dk_42 hN_cX10_square rfl rfl
theorem dX10_square_35 : decode cX10_square 35 = .ok (.getfield 64, 3) := dk_180 hN_cX10_square rfl rfl rfl
theorem dX10_square_38 : decode cX10_square 38 = .ok (.getfield 246, 3) := dk_180 hN_cX10_square rfl rfl rfl
theorem dX10_square_41 : decode cX10_square 41 = .ok (.iload_n 1, 1) := dk_27 hN_cX10_square rfl rfl
theorem dX10_square_42 : decode cX10_square 42 = .ok (.iaload, 1) := dk_46 hN_cX10_square rfl rfl
theorem dX10_square_43 : decode cX10_square 43 = .ok (.iload_n 2, 1) := dk_28 hN_cX10_square rfl rfl
theorem dX10_square_44 : decode cX10_square 44 = .ok (.ishr, 1) := dk_122 hN_cX10_square rfl rfl
theorem dX10_square_45 : decode cX10_square 45 = .ok (.iconst 1, 1) := dk_4 hN_cX10_square rfl rfl
theorem dX10_square_46 : decode cX10_square 46 = .ok (.iand, 1) := dk_126 hN_cX10_square rfl rfl
theorem dX10_square_47 : decode cX10_square 47 = .ok (.invokevirtual 125, 3) := dk_182 hN_cX10_square rfl rfl rfl
theorem dX10_square_50 : decode cX10_square 50 = .ok (.ireturn, 1) := dk_172 hN_cX10_square rfl rfl
theorem dX10_corners_0 : decode cX10_corners 0 = .ok (.aload_n 0, 1) := dk_42 hN_cX10_corners rfl rfl
theorem dX10_corners_1 : decode cX10_corners 1 = .ok (.invokevirtual 131, 3) := dk_182 hN_cX10_corners rfl rfl rfl
theorem dX10_corners_4 : decode cX10_corners 4 = .ok (.ifCond .eq 9, 3) := dk_153 hN_cX10_corners rfl rfl rfl
theorem dX10_corners_13 : decode cX10_corners 13 = .ok (.aload_n 0, 1) := dk_42 hN_cX10_corners rfl rfl
theorem dX10_corners_14 : decode cX10_corners 14 = .ok (.aload_n 0, 1) := dk_42 hN_cX10_corners rfl rfl
theorem dX10_corners_15 : decode cX10_corners 15 = .ok (.getfield 64, 3) := dk_180 hN_cX10_corners rfl rfl rfl
theorem dX10_corners_18 : decode cX10_corners 18 = .ok (.getfield 249, 3) := dk_180 hN_cX10_corners rfl rfl rfl
theorem dX10_corners_21 : decode cX10_corners 21 = .ok (.invokevirtual 125, 3) := dk_182 hN_cX10_corners rfl rfl rfl
theorem dX10_corners_24 : decode cX10_corners 24 = .ok (.ireturn, 1) := dk_172 hN_cX10_corners rfl rfl
theorem dX10_corners_7 : decode cX10_corners 7 = .ok (.aload_n 0, 1) := dk_42 hN_cX10_corners rfl rfl
theorem dX10_corners_8 : decode cX10_corners 8 = .ok (.iconst 1, 1) := dk_4 hN_cX10_corners rfl rfl
theorem dX10_corners_9 : decode cX10_corners 9 = .ok (.invokevirtual 90, 3) := dk_182 hN_cX10_corners rfl rfl rfl
theorem dX10_corners_12 : decode cX10_corners 12 = .ok (.ireturn, 1) := dk_172 hN_cX10_corners rfl rfl
theorem dX10_colours_0 : decode cX10_colours 0 = .ok (.aload_n 0, 1) := dk_42 hN_cX10_colours rfl rfl
theorem dX10_colours_1 : decode cX10_colours 1 = .ok (.invokevirtual 131, 3) := dk_182 hN_cX10_colours rfl rfl rfl
theorem dX10_colours_4 : decode cX10_colours 4 = .ok (.ifCond .eq 9, 3) := dk_153 hN_cX10_colours rfl rfl rfl
theorem dX10_colours_13 : decode cX10_colours 13 = .ok (.aload_n 0, 1) := dk_42 hN_cX10_colours rfl rfl
theorem dX10_colours_14 : decode cX10_colours 14 = .ok (.getfield 64, 3) := dk_180 hN_cX10_colours rfl rfl rfl
theorem dX10_colours_17 : decode cX10_colours 17 = .ok (.invokevirtual 252, 3) := dk_182 hN_cX10_colours rfl rfl rfl
theorem dX10_colours_20 : decode cX10_colours 20 = .ok (.aload_n 0, 1) := dk_42 hN_cX10_colours rfl rfl
theorem dX10_colours_21 : decode cX10_colours 21 = .ok (.aload_n 0, 1) := dk_42 hN_cX10_colours rfl rfl
theorem dX10_colours_22 : decode cX10_colours 22 = .ok (.getfield 64, 3) := dk_180 hN_cX10_colours rfl rfl rfl
theorem dX10_colours_25 : decode cX10_colours 25 = .ok (.getfield 255, 3) := dk_180 hN_cX10_colours rfl rfl rfl
theorem dX10_colours_28 : decode cX10_colours 28 = .ok (.invokevirtual 125, 3) := dk_182 hN_cX10_colours rfl rfl rfl
theorem dX10_colours_31 : decode cX10_colours 31 = .ok (.ireturn, 1) := dk_172 hN_cX10_colours rfl rfl
theorem dX10_colours_7 : decode cX10_colours 7 = .ok (.aload_n 0, 1) := dk_42 hN_cX10_colours rfl rfl
theorem dX10_colours_8 : decode cX10_colours 8 = .ok (.iconst 1, 1) := dk_4 hN_cX10_colours rfl rfl
theorem dX10_colours_9 : decode cX10_colours 9 = .ok (.invokevirtual 90, 3) := dk_182 hN_cX10_colours rfl rfl rfl
theorem dX10_colours_12 : decode cX10_colours 12 = .ok (.ireturn, 1) := dk_172 hN_cX10_colours rfl rfl
theorem dX10_ones_0 : decode cX10_ones 0 = .ok (.aload_n 0, 1) := dk_42 hN_cX10_ones rfl rfl
theorem dX10_ones_1 : decode cX10_ones 1 = .ok (.invokevirtual 131, 3) := dk_182 hN_cX10_ones rfl rfl rfl
theorem dX10_ones_4 : decode cX10_ones 4 = .ok (.ifCond .eq 9, 3) := dk_153 hN_cX10_ones rfl rfl rfl
theorem dX10_ones_13 : decode cX10_ones 13 = .ok (.aload_n 0, 1) := dk_42 hN_cX10_ones rfl rfl
theorem dX10_ones_14 : decode cX10_ones 14 = .ok (.getfield 64, 3) := dk_180 hN_cX10_ones rfl rfl rfl
theorem dX10_ones_17 : decode cX10_ones 17 = .ok (.invokevirtual 252, 3) := dk_182 hN_cX10_ones rfl rfl rfl
theorem dX10_ones_20 : decode cX10_ones 20 = .ok (.aload_n 0, 1) := dk_42 hN_cX10_ones rfl rfl
theorem dX10_ones_21 : decode cX10_ones 21 = .ok (.getfield 64, 3) := dk_180 hN_cX10_ones rfl rfl rfl
theorem dX10_ones_24 : decode cX10_ones 24 = .ok (.getfield 255, 3) := dk_180 hN_cX10_ones rfl rfl rfl
theorem dX10_ones_27 : decode cX10_ones 27 = .ok (.ifCond .ne 12, 3) := dk_154 hN_cX10_ones rfl rfl rfl
theorem dX10_ones_39 : decode cX10_ones 39 = .ok (.aload_n 0, 1) := dk_42 hN_cX10_ones rfl rfl
theorem dX10_ones_40 : decode cX10_ones 40 = .ok (.aload_n 0, 1) := dk_42 hN_cX10_ones rfl rfl
theorem dX10_ones_41 : decode cX10_ones 41 = .ok (.getfield 64, 3) := dk_180 hN_cX10_ones rfl rfl rfl
theorem dX10_ones_44 : decode cX10_ones 44 = .ok (.getfield 258, 3) := dk_180 hN_cX10_ones rfl rfl rfl
theorem dX10_ones_47 : decode cX10_ones 47 = .ok (.invokevirtual 125, 3) := dk_182 hN_cX10_ones rfl rfl rfl
theorem dX10_ones_50 : decode cX10_ones 50 = .ok (.ireturn, 1) := dk_172 hN_cX10_ones rfl rfl
theorem dX10_ones_30 : decode cX10_ones 30 = .ok (.aload_n 0, 1) := dk_42 hN_cX10_ones rfl rfl
theorem dX10_ones_31 : decode cX10_ones 31 = .ok (.bipush 6, 2) := dk_16 hN_cX10_ones rfl rfl rfl
theorem dX10_ones_33 : decode cX10_ones 33 = .ok (.invokevirtual 90, 3) := dk_182 hN_cX10_ones rfl rfl rfl
theorem dX10_ones_36 : decode cX10_ones 36 = .ok (.goto 14, 3) := dk_167 hN_cX10_ones rfl rfl rfl
theorem dX10_ones_7 : decode cX10_ones 7 = .ok (.aload_n 0, 1) := dk_42 hN_cX10_ones rfl rfl
theorem dX10_ones_8 : decode cX10_ones 8 = .ok (.iconst 1, 1) := dk_4 hN_cX10_ones rfl rfl
theorem dX10_ones_9 : decode cX10_ones 9 = .ok (.invokevirtual 90, 3) := dk_182 hN_cX10_ones rfl rfl rfl
theorem dX10_ones_12 : decode cX10_ones 12 = .ok (.ireturn, 1) := dk_172 hN_cX10_ones rfl rfl
theorem dX10_spare_0 : decode cX10_spare 0 = .ok (.aload_n 0, 1) := dk_42 hN_cX10_spare rfl rfl
theorem dX10_spare_1 : decode cX10_spare 1 = .ok (.invokevirtual 131, 3) := dk_182 hN_cX10_spare rfl rfl rfl
theorem dX10_spare_4 : decode cX10_spare 4 = .ok (.ifCond .eq 9, 3) := dk_153 hN_cX10_spare rfl rfl rfl
theorem dX10_spare_13 : decode cX10_spare 13 = .ok (.aload_n 0, 1) := dk_42 hN_cX10_spare rfl rfl
theorem dX10_spare_14 : decode cX10_spare 14 = .ok (.getfield 64, 3) := dk_180 hN_cX10_spare rfl rfl rfl
theorem dX10_spare_17 : decode cX10_spare 17 = .ok (.invokevirtual 252, 3) := dk_182 hN_cX10_spare rfl rfl rfl
theorem dX10_spare_20 : decode cX10_spare 20 = .ok (.aload_n 0, 1) := dk_42 hN_cX10_spare rfl rfl
theorem dX10_spare_21 : decode cX10_spare 21 = .ok (.aload_n 0, 1) := dk_42 hN_cX10_spare rfl rfl
theorem dX10_spare_22 : decode cX10_spare 22 = .ok (.getfield 64, 3) := dk_180 hN_cX10_spare rfl rfl rfl
theorem dX10_spare_25 : decode cX10_spare 25 = .ok (.getfield 261, 3) := dk_180 hN_cX10_spare rfl rfl rfl
theorem dX10_spare_28 : decode cX10_spare 28 = .ok (.invokevirtual 125, 3) := dk_182 hN_cX10_spare rfl rfl rfl
theorem dX10_spare_31 : decode cX10_spare 31 = .ok (.ireturn, 1) := dk_172 hN_cX10_spare rfl rfl
theorem dX10_spare_7 : decode cX10_spare 7 = .ok (.aload_n 0, 1) := dk_42 hN_cX10_spare rfl rfl
theorem dX10_spare_8 : decode cX10_spare 8 = .ok (.iconst 1, 1) := dk_4 hN_cX10_spare rfl rfl
theorem dX10_spare_9 : decode cX10_spare 9 = .ok (.invokevirtual 90, 3) := dk_182 hN_cX10_spare rfl rfl rfl
theorem dX10_spare_12 : decode cX10_spare 12 = .ok (.ireturn, 1) := dk_172 hN_cX10_spare rfl rfl
theorem dX10_critical_0 : decode cX10_critical 0 = .ok (.aload_n 0, 1) := dk_42 hN_cX10_critical rfl rfl
theorem dX10_critical_1 : decode cX10_critical 1 = .ok (.invokevirtual 131, 3) := dk_182 hN_cX10_critical rfl rfl rfl
theorem dX10_critical_4 : decode cX10_critical 4 = .ok (.ifCond .eq 9, 3) := dk_153 hN_cX10_critical rfl rfl rfl
theorem dX10_critical_13 : decode cX10_critical 13 = .ok (.aload_n 0, 1) := dk_42 hN_cX10_critical rfl rfl
theorem dX10_critical_14 : decode cX10_critical 14 = .ok (.getfield 64, 3) := dk_180 hN_cX10_critical rfl rfl rfl
theorem dX10_critical_17 : decode cX10_critical 17 = .ok (.invokevirtual 252, 3) := dk_182 hN_cX10_critical rfl rfl rfl
theorem dX10_critical_20 : decode cX10_critical 20 = .ok (.aload_n 0, 1) := dk_42 hN_cX10_critical rfl rfl
theorem dX10_critical_21 : decode cX10_critical 21 = .ok (.getfield 64, 3) := dk_180 hN_cX10_critical rfl rfl rfl
theorem dX10_critical_24 : decode cX10_critical 24 = .ok (.getfield 255, 3) := dk_180 hN_cX10_critical rfl rfl rfl
theorem dX10_critical_27 : decode cX10_critical 27 = .ok (.ifCond .eq 12, 3) := dk_153 hN_cX10_critical rfl rfl rfl
theorem dX10_critical_39 : decode cX10_critical 39 = .ok (.aload_n 0, 1) := dk_42 hN_cX10_critical rfl rfl
theorem dX10_critical_40 : decode cX10_critical 40 = .ok (.aload_n 0, 1) := dk_42 hN_cX10_critical rfl rfl
theorem dX10_critical_41 : decode cX10_critical 41 = .ok (.getfield 64, 3) := dk_180 hN_cX10_critical rfl rfl rfl
theorem dX10_critical_44 : decode cX10_critical 44 = .ok (.getfield 264, 3) := dk_180 hN_cX10_critical rfl rfl rfl
theorem dX10_critical_47 : decode cX10_critical 47 = .ok (.invokevirtual 125, 3) := dk_182 hN_cX10_critical rfl rfl rfl
theorem dX10_critical_50 : decode cX10_critical 50 = .ok (.ireturn, 1) := dk_172 hN_cX10_critical rfl rfl
theorem dX10_critical_30 : decode cX10_critical 30 = .ok (.aload_n 0, 1) := dk_42 hN_cX10_critical rfl rfl
theorem dX10_critical_31 : decode cX10_critical 31 = .ok (.bipush 6, 2) := dk_16 hN_cX10_critical rfl rfl rfl
theorem dX10_critical_33 : decode cX10_critical 33 = .ok (.invokevirtual 90, 3) := dk_182 hN_cX10_critical rfl rfl rfl
theorem dX10_critical_36 : decode cX10_critical 36 = .ok (.goto 14, 3) := dk_167 hN_cX10_critical rfl rfl rfl
theorem dX10_critical_7 : decode cX10_critical 7 = .ok (.aload_n 0, 1) := dk_42 hN_cX10_critical rfl rfl
theorem dX10_critical_8 : decode cX10_critical 8 = .ok (.iconst 1, 1) := dk_4 hN_cX10_critical rfl rfl
theorem dX10_critical_9 : decode cX10_critical 9 = .ok (.invokevirtual 90, 3) := dk_182 hN_cX10_critical rfl rfl rfl
theorem dX10_critical_12 : decode cX10_critical 12 = .ok (.ireturn, 1) := dk_172 hN_cX10_critical rfl rfl
theorem dX10_memory_0 : decode cX10_memory 0 = .ok (.aload_n 0, 1) := dk_42 hN_cX10_memory rfl rfl
theorem dX10_memory_1 : decode cX10_memory 1 = .ok (.invokevirtual 131, 3) := dk_182 hN_cX10_memory rfl rfl rfl
theorem dX10_memory_4 : decode cX10_memory 4 = .ok (.ifCond .eq 9, 3) := dk_153 hN_cX10_memory rfl rfl rfl
theorem dX10_memory_13 : decode cX10_memory 13 = .ok (.aload_n 0, 1) := dk_42 hN_cX10_memory rfl rfl
theorem dX10_memory_14 : decode cX10_memory 14 = .ok (.getfield 71, 3) := dk_180 hN_cX10_memory rfl rfl rfl
theorem dX10_memory_17 : decode cX10_memory 17 = .ok (.invokevirtual 267, 3) := dk_182 hN_cX10_memory rfl rfl rfl
theorem dX10_memory_20 : decode cX10_memory 20 = .ok (.aload_n 0, 1) := dk_42 hN_cX10_memory rfl rfl
theorem dX10_memory_21 : decode cX10_memory 21 = .ok (.aload_n 0, 1) := dk_42 hN_cX10_memory rfl rfl
theorem dX10_memory_22 : decode cX10_memory 22 = .ok (.getfield 71, 3) := dk_180 hN_cX10_memory rfl rfl rfl
theorem dX10_memory_25 : decode cX10_memory 25 = .ok (.getfield 268, 3) := dk_180 hN_cX10_memory rfl rfl rfl
theorem dX10_memory_28 : decode cX10_memory 28 = .ok (.ifCond .ne 8, 3) := dk_154 hN_cX10_memory rfl rfl rfl
theorem dX10_memory_36 : decode cX10_memory 36 = .ok (.aload_n 0, 1) := dk_42 hN_cX10_memory rfl rfl
theorem dX10_memory_37 : decode cX10_memory 37 = .ok (.getfield 71, 3) := dk_180 hN_cX10_memory rfl rfl rfl
theorem dX10_memory_40 : decode cX10_memory 40 = .ok (.getfield 268, 3) := dk_180 hN_cX10_memory rfl rfl rfl
theorem dX10_memory_43 : decode cX10_memory 43 = .ok (.invokevirtual 125, 3) := dk_182 hN_cX10_memory rfl rfl rfl
theorem dX10_memory_46 : decode cX10_memory 46 = .ok (.ireturn, 1) := dk_172 hN_cX10_memory rfl rfl
theorem dX10_memory_31 : decode cX10_memory 31 = .ok (.bipush (-2), 2) := dk_16 hN_cX10_memory rfl rfl rfl
theorem dX10_memory_33 : decode cX10_memory 33 = .ok (.goto 10, 3) := dk_167 hN_cX10_memory rfl rfl rfl
theorem dX10_memory_7 : decode cX10_memory 7 = .ok (.aload_n 0, 1) := dk_42 hN_cX10_memory rfl rfl
theorem dX10_memory_8 : decode cX10_memory 8 = .ok (.iconst 1, 1) := dk_4 hN_cX10_memory rfl rfl
theorem dX10_memory_9 : decode cX10_memory 9 = .ok (.invokevirtual 90, 3) := dk_182 hN_cX10_memory rfl rfl rfl
theorem dX10_memory_12 : decode cX10_memory 12 = .ok (.ireturn, 1) := dk_172 hN_cX10_memory rfl rfl
theorem dX10_machine_0 : decode cX10_machine 0 = .ok (.iload_n 1, 1) := dk_27 hN_cX10_machine rfl rfl
theorem dX10_machine_1 : decode cX10_machine 1 = .ok (.ifCond .lt 19, 3) := dk_155 hN_cX10_machine rfl rfl rfl
theorem dX10_machine_20 : decode cX10_machine 20 = .ok (.aload_n 0, 1) := dk_42 hN_cX10_machine rfl rfl
theorem dX10_machine_21 : decode cX10_machine 21 = .ok (.iconst 1, 1) := dk_4 hN_cX10_machine rfl rfl
theorem dX10_machine_22 : decode cX10_machine 22 = .ok (.invokevirtual 90, 3) := dk_182 hN_cX10_machine rfl rfl rfl
theorem dX10_machine_25 : decode cX10_machine 25 = .ok (.ireturn, 1) := dk_172 hN_cX10_machine rfl rfl
theorem dX10_machine_4 : decode cX10_machine 4 = .ok (.iload_n 1, 1) := dk_27 hN_cX10_machine rfl rfl
theorem dX10_machine_5 : decode cX10_machine 5 = .ok (.iconst 3, 1) := dk_6 hN_cX10_machine rfl rfl
theorem dX10_machine_6 : decode cX10_machine 6 = .ok (.if_icmp .ge 14, 3) := dk_162 hN_cX10_machine rfl rfl rfl
theorem dX10_machine_9 : decode cX10_machine 9 = .ok (.aload_n 0, 1) := dk_42 hN_cX10_machine rfl rfl
theorem dX10_machine_10 : decode cX10_machine 10 = .ok (.getfield 25, 3) := dk_180 hN_cX10_machine rfl rfl rfl
theorem dX10_machine_13 : decode cX10_machine 13 = .ok (.iload_n 2, 1) := dk_28 hN_cX10_machine rfl rfl
theorem dX10_machine_14 : decode cX10_machine 14 = .ok (.invokevirtual 142, 3) := dk_182 hN_cX10_machine rfl rfl rfl
theorem dX10_machine_17 : decode cX10_machine 17 = .ok (.ifCond .ne 9, 3) := dk_154 hN_cX10_machine rfl rfl rfl
theorem dX10_machine_26 : decode cX10_machine 26 = .ok (.aload_n 0, 1) := dk_42 hN_cX10_machine rfl rfl
theorem dX10_machine_27 : decode cX10_machine 27 = .ok (.getfield 71, 3) := dk_180 hN_cX10_machine rfl rfl rfl
theorem dX10_machine_30 : decode cX10_machine 30 = .ok (.invokevirtual 267, 3) := dk_182 hN_cX10_machine rfl rfl rfl
theorem dX10_machine_33 : decode cX10_machine 33 = .ok (.aload_n 0, 1) := dk_42 hN_cX10_machine rfl rfl
theorem dX10_machine_34 : decode cX10_machine 34 = .ok (.getfield 71, 3) := dk_180 hN_cX10_machine rfl rfl rfl
theorem dX10_machine_37 : decode cX10_machine 37 = .ok (.getfield 268, 3) := dk_180 hN_cX10_machine rfl rfl rfl
theorem dX10_machine_40 : decode cX10_machine 40 = .ok (.ifCond .ne 10, 3) := dk_154 hN_cX10_machine rfl rfl rfl
theorem dX10_machine_50 : decode cX10_machine 50 = .ok (.aload_n 0, 1) := dk_42 hN_cX10_machine rfl rfl
theorem dX10_machine_51 : decode cX10_machine 51 = .ok (.aload_n 0, 1) := dk_42 hN_cX10_machine rfl rfl
theorem dX10_machine_52 : decode cX10_machine 52 = .ok (.getfield 71, 3) := dk_180 hN_cX10_machine rfl rfl rfl
theorem dX10_machine_55 : decode cX10_machine 55 = .ok (.iload_n 1, 1) := dk_27 hN_cX10_machine rfl rfl
theorem dX10_machine_56 : decode cX10_machine 56 = .ok (.iload_n 2, 1) := dk_28 hN_cX10_machine rfl rfl
theorem dX10_machine_57 : decode cX10_machine 57 = .ok (.iload_n 3, 1) := dk_29 hN_cX10_machine rfl rfl
theorem dX10_machine_58 : decode cX10_machine 58 = .ok (.invokevirtual 271, 3) := dk_182 hN_cX10_machine rfl rfl rfl
theorem dX10_machine_61 : decode cX10_machine 61 = .ok (.invokevirtual 125, 3) := dk_182 hN_cX10_machine rfl rfl rfl
theorem dX10_machine_64 : decode cX10_machine 64 = .ok (.ireturn, 1) := dk_172 hN_cX10_machine rfl rfl
theorem dX10_machine_43 : decode cX10_machine 43 = .ok (.aload_n 0, 1) := dk_42 hN_cX10_machine rfl rfl
theorem dX10_machine_44 : decode cX10_machine 44 = .ok (.bipush 6, 2) := dk_16 hN_cX10_machine rfl rfl rfl
theorem dX10_machine_46 : decode cX10_machine 46 = .ok (.invokevirtual 90, 3) := dk_182 hN_cX10_machine rfl rfl rfl
theorem dX10_machine_49 : decode cX10_machine 49 = .ok (.ireturn, 1) := dk_172 hN_cX10_machine rfl rfl
theorem dX10_flip_0 : decode cX10_flip 0 = .ok (.aload_n 0, 1) := dk_42 hN_cX10_flip rfl rfl
theorem dX10_flip_1 : decode cX10_flip 1 = .ok (.getfield 25, 3) := dk_180 hN_cX10_flip rfl rfl rfl
theorem dX10_flip_4 : decode cX10_flip 4 = .ok (.iload_n 1, 1) := dk_27 hN_cX10_flip rfl rfl
theorem dX10_flip_5 : decode cX10_flip 5 = .ok (.invokevirtual 142, 3) := dk_182 hN_cX10_flip rfl rfl rfl
theorem dX10_flip_8 : decode cX10_flip 8 = .ok (.ifCond .ne 9, 3) := dk_154 hN_cX10_flip rfl rfl rfl
theorem dX10_flip_17 : decode cX10_flip 17 = .ok (.aload_n 0, 1) := dk_42 hN_cX10_flip rfl rfl
theorem dX10_flip_18 : decode cX10_flip 18 = .ok (.getfield 78, 3) := dk_180 hN_cX10_flip rfl rfl rfl
theorem dX10_flip_21 : decode cX10_flip 21 = .ok (.iconst 0, 1) := dk_3 hN_cX10_flip rfl rfl
theorem dX10_flip_22 : decode cX10_flip 22 = .ok (.iload_n 1, 1) := dk_27 hN_cX10_flip rfl rfl
theorem dX10_flip_23 : decode cX10_flip 23 = .ok (.invokevirtual 275, 3) := dk_182 hN_cX10_flip rfl rfl rfl
theorem dX10_flip_26 : decode cX10_flip 26 = .ok (.aload_n 0, 1) := dk_42 hN_cX10_flip rfl rfl
theorem dX10_flip_27 : decode cX10_flip 27 = .ok (.getfield 25, 3) := dk_180 hN_cX10_flip rfl rfl rfl
theorem dX10_flip_30 : decode cX10_flip 30 = .ok (.iload_n 1, 1) := dk_27 hN_cX10_flip rfl rfl
theorem dX10_flip_31 : decode cX10_flip 31 = .ok (.invokevirtual 279, 3) := dk_182 hN_cX10_flip rfl rfl rfl
theorem dX10_flip_34 : decode cX10_flip 34 = .ok (.aload_n 0, 1) := dk_42 hN_cX10_flip rfl rfl
theorem dX10_flip_35 : decode cX10_flip 35 = .ok (.invokevirtual 203, 3) := dk_182 hN_cX10_flip rfl rfl rfl
theorem dX10_flip_38 : decode cX10_flip 38 = .ok (.ireturn, 1) := dk_172 hN_cX10_flip rfl rfl
theorem dX10_flip_11 : decode cX10_flip 11 = .ok (.aload_n 0, 1) := dk_42 hN_cX10_flip rfl rfl
theorem dX10_flip_12 : decode cX10_flip 12 = .ok (.iconst 1, 1) := dk_4 hN_cX10_flip rfl rfl
theorem dX10_flip_13 : decode cX10_flip 13 = .ok (.invokevirtual 197, 3) := dk_182 hN_cX10_flip rfl rfl rfl
theorem dX10_flip_16 : decode cX10_flip 16 = .ok (.ireturn, 1) := dk_172 hN_cX10_flip rfl rfl
theorem dX10_drop_0 : decode cX10_drop 0 = .ok (.aload_n 0, 1) := dk_42 hN_cX10_drop rfl rfl
theorem dX10_drop_1 : decode cX10_drop 1 = .ok (.getfield 25, 3) := dk_180 hN_cX10_drop rfl rfl rfl
theorem dX10_drop_4 : decode cX10_drop 4 = .ok (.iload_n 1, 1) := dk_27 hN_cX10_drop rfl rfl
theorem dX10_drop_5 : decode cX10_drop 5 = .ok (.invokevirtual 282, 3) := dk_182 hN_cX10_drop rfl rfl rfl
theorem dX10_drop_8 : decode cX10_drop 8 = .ok (.ifCond .ne 9, 3) := dk_154 hN_cX10_drop rfl rfl rfl
theorem dX10_drop_17 : decode cX10_drop 17 = .ok (.aload_n 0, 1) := dk_42 hN_cX10_drop rfl rfl
theorem dX10_drop_18 : decode cX10_drop 18 = .ok (.getfield 78, 3) := dk_180 hN_cX10_drop rfl rfl rfl
theorem dX10_drop_21 : decode cX10_drop 21 = .ok (.iconst 1, 1) := dk_4 hN_cX10_drop rfl rfl
theorem dX10_drop_22 : decode cX10_drop 22 = .ok (.iload_n 1, 1) := dk_27 hN_cX10_drop rfl rfl
theorem dX10_drop_23 : decode cX10_drop 23 = .ok (.invokevirtual 275, 3) := dk_182 hN_cX10_drop rfl rfl rfl
theorem dX10_drop_26 : decode cX10_drop 26 = .ok (.aload_n 0, 1) := dk_42 hN_cX10_drop rfl rfl
theorem dX10_drop_27 : decode cX10_drop 27 = .ok (.getfield 25, 3) := dk_180 hN_cX10_drop rfl rfl rfl
theorem dX10_drop_30 : decode cX10_drop 30 = .ok (.iload_n 1, 1) := dk_27 hN_cX10_drop rfl rfl
theorem dX10_drop_31 : decode cX10_drop 31 = .ok (.invokevirtual 285, 3) := dk_182 hN_cX10_drop rfl rfl rfl
theorem dX10_drop_34 : decode cX10_drop 34 = .ok (.aload_n 0, 1) := dk_42 hN_cX10_drop rfl rfl
theorem dX10_drop_35 : decode cX10_drop 35 = .ok (.invokevirtual 203, 3) := dk_182 hN_cX10_drop rfl rfl rfl
theorem dX10_drop_38 : decode cX10_drop 38 = .ok (.ireturn, 1) := dk_172 hN_cX10_drop rfl rfl
theorem dX10_drop_11 : decode cX10_drop 11 = .ok (.aload_n 0, 1) := dk_42 hN_cX10_drop rfl rfl
theorem dX10_drop_12 : decode cX10_drop 12 = .ok (.iconst 1, 1) := dk_4 hN_cX10_drop rfl rfl
theorem dX10_drop_13 : decode cX10_drop 13 = .ok (.invokevirtual 197, 3) := dk_182 hN_cX10_drop rfl rfl rfl
theorem dX10_drop_16 : decode cX10_drop 16 = .ok (.ireturn, 1) := dk_172 hN_cX10_drop rfl rfl
theorem dX10_forget_0 : decode cX10_forget 0 = .ok (.aload_n 0, 1) := dk_42 hN_cX10_forget rfl rfl
theorem dX10_forget_1 : decode cX10_forget 1 = .ok (.getfield 25, 3) := dk_180 hN_cX10_forget rfl rfl rfl
theorem dX10_forget_4 : decode cX10_forget 4 = .ok (.iload_n 1, 1) := dk_27 hN_cX10_forget rfl rfl
theorem dX10_forget_5 : decode cX10_forget 5 = .ok (.invokevirtual 142, 3) := dk_182 hN_cX10_forget rfl rfl rfl
theorem dX10_forget_8 : decode cX10_forget 8 = .ok (.ifCond .ne 9, 3) := dk_154 hN_cX10_forget rfl rfl rfl
theorem dX10_forget_17 : decode cX10_forget 17 = .ok (.aload_n 0, 1) := dk_42 hN_cX10_forget rfl rfl
theorem dX10_forget_18 : decode cX10_forget 18 = .ok (.getfield 25, 3) := dk_180 hN_cX10_forget rfl rfl rfl
theorem dX10_forget_21 : decode cX10_forget 21 = .ok (.iload_n 1, 1) := dk_27 hN_cX10_forget rfl rfl
theorem dX10_forget_22 : decode cX10_forget 22 = .ok (.invokevirtual 288, 3) := dk_182 hN_cX10_forget rfl rfl rfl
theorem dX10_forget_25 : decode cX10_forget 25 = .ok (.ifCond .ne 9, 3) := dk_154 hN_cX10_forget rfl rfl rfl
theorem dX10_forget_34 : decode cX10_forget 34 = .ok (.aload_n 0, 1) := dk_42 hN_cX10_forget rfl rfl
theorem dX10_forget_35 : decode cX10_forget 35 = .ok (.getfield 78, 3) := dk_180 hN_cX10_forget rfl rfl rfl
theorem dX10_forget_38 : decode cX10_forget 38 = .ok (.iconst 2, 1) := dk_5 hN_cX10_forget rfl rfl
theorem dX10_forget_39 : decode cX10_forget 39 = .ok (.iload_n 1, 1) := dk_27 hN_cX10_forget rfl rfl
theorem dX10_forget_40 : decode cX10_forget 40 = .ok (.invokevirtual 275, 3) := dk_182 hN_cX10_forget rfl rfl rfl
theorem dX10_forget_43 : decode cX10_forget 43 = .ok (.aload_n 0, 1) := dk_42 hN_cX10_forget rfl rfl
theorem dX10_forget_44 : decode cX10_forget 44 = .ok (.getfield 25, 3) := dk_180 hN_cX10_forget rfl rfl rfl
theorem dX10_forget_47 : decode cX10_forget 47 = .ok (.iload_n 1, 1) := dk_27 hN_cX10_forget rfl rfl
theorem dX10_forget_48 : decode cX10_forget 48 = .ok (.invokevirtual 291, 3) := dk_182 hN_cX10_forget rfl rfl rfl
theorem dX10_forget_51 : decode cX10_forget 51 = .ok (.aload_n 0, 1) := dk_42 hN_cX10_forget rfl rfl
theorem dX10_forget_52 : decode cX10_forget 52 = .ok (.invokevirtual 203, 3) := dk_182 hN_cX10_forget rfl rfl rfl
theorem dX10_forget_55 : decode cX10_forget 55 = .ok (.ireturn, 1) := dk_172 hN_cX10_forget rfl rfl
theorem dX10_forget_28 : decode cX10_forget 28 = .ok (.aload_n 0, 1) := dk_42 hN_cX10_forget rfl rfl
theorem dX10_forget_29 : decode cX10_forget 29 = .ok (.iconst 5, 1) := dk_8 hN_cX10_forget rfl rfl
theorem dX10_forget_30 : decode cX10_forget 30 = .ok (.invokevirtual 197, 3) := dk_182 hN_cX10_forget rfl rfl rfl
theorem dX10_forget_33 : decode cX10_forget 33 = .ok (.ireturn, 1) := dk_172 hN_cX10_forget rfl rfl
theorem dX10_forget_11 : decode cX10_forget 11 = .ok (.aload_n 0, 1) := dk_42 hN_cX10_forget rfl rfl
theorem dX10_forget_12 : decode cX10_forget 12 = .ok (.iconst 1, 1) := dk_4 hN_cX10_forget rfl rfl
theorem dX10_forget_13 : decode cX10_forget 13 = .ok (.invokevirtual 197, 3) := dk_182 hN_cX10_forget rfl rfl rfl
theorem dX10_forget_16 : decode cX10_forget 16 = .ok (.ireturn, 1) := dk_172 hN_cX10_forget rfl rfl
theorem dX10_shift_0 : decode cX10_shift 0 = .ok (.aload_n 0, 1) := dk_42 hN_cX10_shift rfl rfl
theorem dX10_shift_1 : decode cX10_shift 1 = .ok (.getfield 25, 3) := dk_180 hN_cX10_shift rfl rfl rfl
theorem dX10_shift_4 : decode cX10_shift 4 = .ok (.iload_n 1, 1) := dk_27 hN_cX10_shift rfl rfl
theorem dX10_shift_5 : decode cX10_shift 5 = .ok (.iload_n 2, 1) := dk_28 hN_cX10_shift rfl rfl
theorem dX10_shift_6 : decode cX10_shift 6 = .ok (.invokevirtual 156, 3) := dk_182 hN_cX10_shift rfl rfl rfl
theorem dX10_shift_9 : decode cX10_shift 9 = .ok (.ifCond .eq 20, 3) := dk_153 hN_cX10_shift rfl rfl rfl
theorem dX10_shift_29 : decode cX10_shift 29 = .ok (.aload_n 0, 1) := dk_42 hN_cX10_shift rfl rfl
theorem dX10_shift_30 : decode cX10_shift 30 = .ok (.iconst 1, 1) := dk_4 hN_cX10_shift rfl rfl
theorem dX10_shift_31 : decode cX10_shift 31 = .ok (.invokevirtual 197, 3) := dk_182 hN_cX10_shift rfl rfl rfl
theorem dX10_shift_34 : decode cX10_shift 34 = .ok (.ireturn, 1) := dk_172 hN_cX10_shift rfl rfl
theorem dX10_shift_12 : decode cX10_shift 12 = .ok (.aload_n 0, 1) := dk_42 hN_cX10_shift rfl rfl
theorem dX10_shift_13 : decode cX10_shift 13 = .ok (.getfield 25, 3) := dk_180 hN_cX10_shift rfl rfl rfl
theorem dX10_shift_16 : decode cX10_shift 16 = .ok (.iload_n 1, 1) := dk_27 hN_cX10_shift rfl rfl
theorem dX10_shift_17 : decode cX10_shift 17 = .ok (.iload_n 3, 1) := dk_29 hN_cX10_shift rfl rfl
theorem dX10_shift_18 : decode cX10_shift 18 = .ok (.invokevirtual 156, 3) := dk_182 hN_cX10_shift rfl rfl rfl
theorem dX10_shift_21 : decode cX10_shift 21 = .ok (.ifCond .eq 8, 3) := dk_153 hN_cX10_shift rfl rfl rfl
theorem dX10_shift_24 : decode cX10_shift 24 = .ok (.iload_n 2, 1) := dk_28 hN_cX10_shift rfl rfl
theorem dX10_shift_25 : decode cX10_shift 25 = .ok (.iload_n 3, 1) := dk_29 hN_cX10_shift rfl rfl
theorem dX10_shift_26 : decode cX10_shift 26 = .ok (.if_icmp .ne 9, 3) := dk_160 hN_cX10_shift rfl rfl rfl
theorem dX10_shift_35 : decode cX10_shift 35 = .ok (.iload 4, 2) := dk_21 hN_cX10_shift rfl rfl rfl
theorem dX10_shift_37 : decode cX10_shift 37 = .ok (.iconst 1, 1) := dk_4 hN_cX10_shift rfl rfl
theorem dX10_shift_38 : decode cX10_shift 38 = .ok (.if_icmp .lt 10, 3) := dk_161 hN_cX10_shift rfl rfl rfl
theorem dX10_shift_48 : decode cX10_shift 48 = .ok (.aload_n 0, 1) := dk_42 hN_cX10_shift rfl rfl
theorem dX10_shift_49 : decode cX10_shift 49 = .ok (.iconst 2, 1) := dk_5 hN_cX10_shift rfl rfl
theorem dX10_shift_50 : decode cX10_shift 50 = .ok (.invokevirtual 197, 3) := dk_182 hN_cX10_shift rfl rfl rfl
theorem dX10_shift_53 : decode cX10_shift 53 = .ok (.ireturn, 1) := dk_172 hN_cX10_shift rfl rfl
theorem dX10_shift_41 : decode cX10_shift 41 = .ok (.iload 4, 2) := dk_21 hN_cX10_shift rfl rfl rfl
theorem dX10_shift_43 : decode cX10_shift 43 = .ok (.bipush 60, 2) := dk_16 hN_cX10_shift rfl rfl rfl
theorem dX10_shift_45 : decode cX10_shift 45 = .ok (.if_icmp .le 9, 3) := dk_164 hN_cX10_shift rfl rfl rfl
theorem dX10_shift_54 : decode cX10_shift 54 = .ok (.aload_n 0, 1) := dk_42 hN_cX10_shift rfl rfl
theorem dX10_shift_55 : decode cX10_shift 55 = .ok (.getfield 25, 3) := dk_180 hN_cX10_shift rfl rfl rfl
theorem dX10_shift_58 : decode cX10_shift 58 = .ok (.getfield 294, 3) := dk_180 hN_cX10_shift rfl rfl rfl
theorem dX10_shift_61 : decode cX10_shift 61 = .ok (.iconst 4, 1) := dk_7 hN_cX10_shift rfl rfl
theorem dX10_shift_62 : decode cX10_shift 62 = .ok (.iload_n 1, 1) := dk_27 hN_cX10_shift rfl rfl
theorem dX10_shift_63 : decode cX10_shift 63 = .ok (.imul, 1) := dk_104 hN_cX10_shift rfl rfl
theorem dX10_shift_64 : decode cX10_shift 64 = .ok (.iload_n 2, 1) := dk_28 hN_cX10_shift rfl rfl
theorem dX10_shift_65 : decode cX10_shift 65 = .ok (.iadd, 1) := dk_96 hN_cX10_shift rfl rfl
theorem dX10_shift_66 : decode cX10_shift 66 = .ok (.iaload, 1) := dk_46 hN_cX10_shift rfl rfl
theorem dX10_shift_67 : decode cX10_shift 67 = .ok (.iload 4, 2) := dk_21 hN_cX10_shift rfl rfl rfl
theorem dX10_shift_69 : decode cX10_shift 69 = .ok (.if_icmp .ge 9, 3) := dk_162 hN_cX10_shift rfl rfl rfl
theorem dX10_shift_78 : decode cX10_shift 78 = .ok (.aload_n 0, 1) := dk_42 hN_cX10_shift rfl rfl
theorem dX10_shift_79 : decode cX10_shift 79 = .ok (.getfield 78, 3) := dk_180 hN_cX10_shift rfl rfl rfl
theorem dX10_shift_82 : decode cX10_shift 82 = .ok (.iconst 3, 1) := dk_6 hN_cX10_shift rfl rfl
theorem dX10_shift_83 : decode cX10_shift 83 = .ok (.iload_n 1, 1) := dk_27 hN_cX10_shift rfl rfl
theorem dX10_shift_84 : decode cX10_shift 84 = .ok (.invokevirtual 275, 3) := dk_182 hN_cX10_shift rfl rfl rfl
theorem dX10_shift_87 : decode cX10_shift 87 = .ok (.aload_n 0, 1) := dk_42 hN_cX10_shift rfl rfl
theorem dX10_shift_88 : decode cX10_shift 88 = .ok (.getfield 78, 3) := dk_180 hN_cX10_shift rfl rfl rfl
theorem dX10_shift_91 : decode cX10_shift 91 = .ok (.iload_n 2, 1) := dk_28 hN_cX10_shift rfl rfl
theorem dX10_shift_92 : decode cX10_shift 92 = .ok (.iload_n 3, 1) := dk_29 hN_cX10_shift rfl rfl
theorem dX10_shift_93 : decode cX10_shift 93 = .ok (.iload 4, 2) := dk_21 hN_cX10_shift rfl rfl rfl
theorem dX10_shift_95 : decode cX10_shift 95 = .ok (.invokevirtual 297, 3) := dk_182 hN_cX10_shift rfl rfl rfl
theorem dX10_shift_98 : decode cX10_shift 98 = .ok (.aload_n 0, 1) := dk_42 hN_cX10_shift rfl rfl
theorem dX10_shift_99 : decode cX10_shift 99 = .ok (.getfield 25, 3) := dk_180 hN_cX10_shift rfl rfl rfl
theorem dX10_shift_102 : decode cX10_shift 102 = .ok (.iconst 4, 1) := dk_7 hN_cX10_shift rfl rfl
theorem dX10_shift_103 : decode cX10_shift 103 = .ok (.iload_n 1, 1) := dk_27 hN_cX10_shift rfl rfl
theorem dX10_shift_104 : decode cX10_shift 104 = .ok (.imul, 1) := dk_104 hN_cX10_shift rfl rfl
theorem dX10_shift_105 : decode cX10_shift 105 = .ok (.iload_n 2, 1) := dk_28 hN_cX10_shift rfl rfl
theorem dX10_shift_106 : decode cX10_shift 106 = .ok (.iadd, 1) := dk_96 hN_cX10_shift rfl rfl
theorem dX10_shift_107 : decode cX10_shift 107 = .ok (.iconst 4, 1) := dk_7 hN_cX10_shift rfl rfl
theorem dX10_shift_108 : decode cX10_shift 108 = .ok (.iload_n 1, 1) := dk_27 hN_cX10_shift rfl rfl
theorem dX10_shift_109 : decode cX10_shift 109 = .ok (.imul, 1) := dk_104 hN_cX10_shift rfl rfl
theorem dX10_shift_110 : decode cX10_shift 110 = .ok (.iload_n 3, 1) := dk_29 hN_cX10_shift rfl rfl
theorem dX10_shift_111 : decode cX10_shift 111 = .ok (.iadd, 1) := dk_96 hN_cX10_shift rfl rfl
theorem dX10_shift_112 : decode cX10_shift 112 = .ok (.iload 4, 2) := dk_21 hN_cX10_shift rfl rfl rfl
theorem dX10_shift_114 : decode cX10_shift 114 = .ok (.invokevirtual 301, 3) := dk_182 hN_cX10_shift rfl rfl rfl
theorem dX10_shift_117 : decode cX10_shift 117 = .ok (.aload_n 0, 1) := dk_42 hN_cX10_shift rfl rfl
theorem dX10_shift_118 : decode cX10_shift 118 = .ok (.invokevirtual 203, 3) := dk_182 hN_cX10_shift rfl rfl rfl
theorem dX10_shift_121 : decode cX10_shift 121 = .ok (.ireturn, 1) := dk_172 hN_cX10_shift rfl rfl
theorem dX10_shift_72 : decode cX10_shift 72 = .ok (.aload_n 0, 1) := dk_42 hN_cX10_shift rfl rfl
theorem dX10_shift_73 : decode cX10_shift 73 = .ok (.iconst 5, 1) := dk_8 hN_cX10_shift rfl rfl
theorem dX10_shift_74 : decode cX10_shift 74 = .ok (.invokevirtual 197, 3) := dk_182 hN_cX10_shift rfl rfl rfl
theorem dX10_shift_77 : decode cX10_shift 77 = .ok (.ireturn, 1) := dk_172 hN_cX10_shift rfl rfl
theorem dX10_undo_0 : decode cX10_undo 0 = .ok (.aload_n 0, 1) := dk_42 hN_cX10_undo rfl rfl
theorem dX10_undo_1 : decode cX10_undo 1 = .ok (.getfield 78, 3) := dk_180 hN_cX10_undo rfl rfl rfl
theorem dX10_undo_4 : decode cX10_undo 4 = .ok (.invokevirtual 304, 3) := dk_182 hN_cX10_undo rfl rfl rfl
theorem dX10_undo_7 : decode cX10_undo 7 = .ok (.ifCond .eq 10, 3) := dk_153 hN_cX10_undo rfl rfl rfl
theorem dX10_undo_17 : decode cX10_undo 17 = .ok (.aload_n 0, 1) := dk_42 hN_cX10_undo rfl rfl
theorem dX10_undo_18 : decode cX10_undo 18 = .ok (.bipush 6, 2) := dk_16 hN_cX10_undo rfl rfl rfl
theorem dX10_undo_20 : decode cX10_undo 20 = .ok (.invokevirtual 197, 3) := dk_182 hN_cX10_undo rfl rfl rfl
theorem dX10_undo_23 : decode cX10_undo 23 = .ok (.ireturn, 1) := dk_172 hN_cX10_undo rfl rfl
theorem dX10_undo_10 : decode cX10_undo 10 = .ok (.aload_n 0, 1) := dk_42 hN_cX10_undo rfl rfl
theorem dX10_undo_11 : decode cX10_undo 11 = .ok (.invokevirtual 203, 3) := dk_182 hN_cX10_undo rfl rfl rfl
theorem dX10_undo_14 : decode cX10_undo 14 = .ok (.goto 9, 3) := dk_167 hN_cX10_undo rfl rfl rfl
theorem dX10_redo_0 : decode cX10_redo 0 = .ok (.aload_n 0, 1) := dk_42 hN_cX10_redo rfl rfl
theorem dX10_redo_1 : decode cX10_redo 1 = .ok (.getfield 78, 3) := dk_180 hN_cX10_redo rfl rfl rfl
theorem dX10_redo_4 : decode cX10_redo 4 = .ok (.invokevirtual 307, 3) := dk_182 hN_cX10_redo rfl rfl rfl
theorem dX10_redo_7 : decode cX10_redo 7 = .ok (.ifCond .eq 10, 3) := dk_153 hN_cX10_redo rfl rfl rfl
theorem dX10_redo_17 : decode cX10_redo 17 = .ok (.aload_n 0, 1) := dk_42 hN_cX10_redo rfl rfl
theorem dX10_redo_18 : decode cX10_redo 18 = .ok (.bipush 6, 2) := dk_16 hN_cX10_redo rfl rfl rfl
theorem dX10_redo_20 : decode cX10_redo 20 = .ok (.invokevirtual 197, 3) := dk_182 hN_cX10_redo rfl rfl rfl
theorem dX10_redo_23 : decode cX10_redo 23 = .ok (.ireturn, 1) := dk_172 hN_cX10_redo rfl rfl
theorem dX10_redo_10 : decode cX10_redo 10 = .ok (.aload_n 0, 1) := dk_42 hN_cX10_redo rfl rfl
theorem dX10_redo_11 : decode cX10_redo 11 = .ok (.invokevirtual 203, 3) := dk_182 hN_cX10_redo rfl rfl rfl
theorem dX10_redo_14 : decode cX10_redo 14 = .ok (.goto 9, 3) := dk_167 hN_cX10_redo rfl rfl rfl
theorem dX10_mark_0 : decode cX10_mark 0 = .ok (.aload_n 0, 1) := dk_42 hN_cX10_mark rfl rfl
theorem dX10_mark_1 : decode cX10_mark 1 = .ok (.invokevirtual 131, 3) := dk_182 hN_cX10_mark rfl rfl rfl
theorem dX10_mark_4 : decode cX10_mark 4 = .ok (.ifCond .eq 9, 3) := dk_153 hN_cX10_mark rfl rfl rfl
theorem dX10_mark_13 : decode cX10_mark 13 = .ok (.aload_n 0, 1) := dk_42 hN_cX10_mark rfl rfl
theorem dX10_mark_14 : decode cX10_mark 14 = .ok (.getfield 78, 3) := dk_180 hN_cX10_mark rfl rfl rfl
theorem dX10_mark_17 : decode cX10_mark 17 = .ok (.getfield 310, 3) := dk_180 hN_cX10_mark rfl rfl rfl
theorem dX10_mark_20 : decode cX10_mark 20 = .ok (.iconst 4, 1) := dk_7 hN_cX10_mark rfl rfl
theorem dX10_mark_21 : decode cX10_mark 21 = .ok (.if_icmp .lt 9, 3) := dk_161 hN_cX10_mark rfl rfl rfl
theorem dX10_mark_30 : decode cX10_mark 30 = .ok (.aload_n 0, 1) := dk_42 hN_cX10_mark rfl rfl
theorem dX10_mark_31 : decode cX10_mark 31 = .ok (.aload_n 0, 1) := dk_42 hN_cX10_mark rfl rfl
theorem dX10_mark_32 : decode cX10_mark 32 = .ok (.getfield 78, 3) := dk_180 hN_cX10_mark rfl rfl rfl
theorem dX10_mark_35 : decode cX10_mark 35 = .ok (.invokevirtual 313, 3) := dk_182 hN_cX10_mark rfl rfl rfl
theorem dX10_mark_38 : decode cX10_mark 38 = .ok (.invokevirtual 125, 3) := dk_182 hN_cX10_mark rfl rfl rfl
theorem dX10_mark_41 : decode cX10_mark 41 = .ok (.ireturn, 1) := dk_172 hN_cX10_mark rfl rfl
theorem dX10_mark_24 : decode cX10_mark 24 = .ok (.aload_n 0, 1) := dk_42 hN_cX10_mark rfl rfl
theorem dX10_mark_25 : decode cX10_mark 25 = .ok (.iconst 3, 1) := dk_6 hN_cX10_mark rfl rfl
theorem dX10_mark_26 : decode cX10_mark 26 = .ok (.invokevirtual 90, 3) := dk_182 hN_cX10_mark rfl rfl rfl
theorem dX10_mark_29 : decode cX10_mark 29 = .ok (.ireturn, 1) := dk_172 hN_cX10_mark rfl rfl
theorem dX10_mark_7 : decode cX10_mark 7 = .ok (.aload_n 0, 1) := dk_42 hN_cX10_mark rfl rfl
theorem dX10_mark_8 : decode cX10_mark 8 = .ok (.iconst 1, 1) := dk_4 hN_cX10_mark rfl rfl
theorem dX10_mark_9 : decode cX10_mark 9 = .ok (.invokevirtual 90, 3) := dk_182 hN_cX10_mark rfl rfl rfl
theorem dX10_mark_12 : decode cX10_mark 12 = .ok (.ireturn, 1) := dk_172 hN_cX10_mark rfl rfl
theorem dX10_back_0 : decode cX10_back 0 = .ok (.aload_n 0, 1) := dk_42 hN_cX10_back rfl rfl
theorem dX10_back_1 : decode cX10_back 1 = .ok (.getfield 78, 3) := dk_180 hN_cX10_back rfl rfl rfl
theorem dX10_back_4 : decode cX10_back 4 = .ok (.iload_n 1, 1) := dk_27 hN_cX10_back rfl rfl
theorem dX10_back_5 : decode cX10_back 5 = .ok (.invokevirtual 316, 3) := dk_182 hN_cX10_back rfl rfl rfl
theorem dX10_back_8 : decode cX10_back 8 = .ok (.ifCond .eq 10, 3) := dk_153 hN_cX10_back rfl rfl rfl
theorem dX10_back_18 : decode cX10_back 18 = .ok (.aload_n 0, 1) := dk_42 hN_cX10_back rfl rfl
theorem dX10_back_19 : decode cX10_back 19 = .ok (.iconst 1, 1) := dk_4 hN_cX10_back rfl rfl
theorem dX10_back_20 : decode cX10_back 20 = .ok (.invokevirtual 197, 3) := dk_182 hN_cX10_back rfl rfl rfl
theorem dX10_back_23 : decode cX10_back 23 = .ok (.ireturn, 1) := dk_172 hN_cX10_back rfl rfl
theorem dX10_back_11 : decode cX10_back 11 = .ok (.aload_n 0, 1) := dk_42 hN_cX10_back rfl rfl
theorem dX10_back_12 : decode cX10_back 12 = .ok (.invokevirtual 203, 3) := dk_182 hN_cX10_back rfl rfl rfl
theorem dX10_back_15 : decode cX10_back 15 = .ok (.goto 8, 3) := dk_167 hN_cX10_back rfl rfl rfl
theorem dX10_act_0 : decode cX10_act 0 = .ok (.iload_n 1, 1) := dk_27 hN_cX10_act rfl rfl
theorem dX10_act_1 : decode cX10_act 1 = .ok (.ifCond .lt 23, 3) := dk_155 hN_cX10_act rfl rfl rfl
theorem dX10_act_24 : decode cX10_act 24 = .ok (.aload_n 0, 1) := dk_42 hN_cX10_act rfl rfl
theorem dX10_act_25 : decode cX10_act 25 = .ok (.iconst 1, 1) := dk_4 hN_cX10_act rfl rfl
theorem dX10_act_26 : decode cX10_act 26 = .ok (.invokevirtual 90, 3) := dk_182 hN_cX10_act rfl rfl rfl
theorem dX10_act_29 : decode cX10_act 29 = .ok (.ireturn, 1) := dk_172 hN_cX10_act rfl rfl
theorem dX10_act_4 : decode cX10_act 4 = .ok (.iload_n 1, 1) := dk_27 hN_cX10_act rfl rfl
theorem dX10_act_5 : decode cX10_act 5 = .ok (.aload_n 0, 1) := dk_42 hN_cX10_act rfl rfl
theorem dX10_act_6 : decode cX10_act 6 = .ok (.getfield 78, 3) := dk_180 hN_cX10_act rfl rfl rfl
theorem dX10_act_9 : decode cX10_act 9 = .ok (.getfield 319, 3) := dk_180 hN_cX10_act rfl rfl rfl
theorem dX10_act_12 : decode cX10_act 12 = .ok (.if_icmp .ge 12, 3) := dk_162 hN_cX10_act rfl rfl rfl
theorem dX10_act_15 : decode cX10_act 15 = .ok (.iload_n 2, 1) := dk_28 hN_cX10_act rfl rfl
theorem dX10_act_16 : decode cX10_act 16 = .ok (.ifCond .lt 8, 3) := dk_155 hN_cX10_act rfl rfl rfl
theorem dX10_act_19 : decode cX10_act 19 = .ok (.iload_n 2, 1) := dk_28 hN_cX10_act rfl rfl
theorem dX10_act_20 : decode cX10_act 20 = .ok (.iconst 5, 1) := dk_8 hN_cX10_act rfl rfl
theorem dX10_act_21 : decode cX10_act 21 = .ok (.if_icmp .lt 9, 3) := dk_161 hN_cX10_act rfl rfl rfl
theorem dX10_act_30 : decode cX10_act 30 = .ok (.aload_n 0, 1) := dk_42 hN_cX10_act rfl rfl
theorem dX10_act_31 : decode cX10_act 31 = .ok (.aload_n 0, 1) := dk_42 hN_cX10_act rfl rfl
theorem dX10_act_32 : decode cX10_act 32 = .ok (.getfield 78, 3) := dk_180 hN_cX10_act rfl rfl rfl
theorem dX10_act_35 : decode cX10_act 35 = .ok (.getfield 322, 3) := dk_180 hN_cX10_act rfl rfl rfl
theorem dX10_act_38 : decode cX10_act 38 = .ok (.iload_n 1, 1) := dk_27 hN_cX10_act rfl rfl
theorem dX10_act_39 : decode cX10_act 39 = .ok (.aaload, 1) := dk_50 hN_cX10_act rfl rfl
theorem dX10_act_40 : decode cX10_act 40 = .ok (.iload_n 2, 1) := dk_28 hN_cX10_act rfl rfl
theorem dX10_act_41 : decode cX10_act 41 = .ok (.iaload, 1) := dk_46 hN_cX10_act rfl rfl
theorem dX10_act_42 : decode cX10_act 42 = .ok (.invokevirtual 125, 3) := dk_182 hN_cX10_act rfl rfl rfl
theorem dX10_act_45 : decode cX10_act 45 = .ok (.ireturn, 1) := dk_172 hN_cX10_act rfl rfl
theorem dX10_times_0 : decode cX10_times 0 = .ok (.aload_n 0, 1) := dk_42 hN_cX10_times rfl rfl
theorem dX10_times_1 : decode cX10_times 1 = .ok (.getfield 25, 3) := dk_180 hN_cX10_times rfl rfl rfl
theorem dX10_times_4 : decode cX10_times 4 = .ok (.iload_n 1, 1) := dk_27 hN_cX10_times rfl rfl
theorem dX10_times_5 : decode cX10_times 5 = .ok (.iload_n 2, 1) := dk_28 hN_cX10_times rfl rfl
theorem dX10_times_6 : decode cX10_times 6 = .ok (.invokevirtual 156, 3) := dk_182 hN_cX10_times rfl rfl rfl
theorem dX10_times_9 : decode cX10_times 9 = .ok (.ifCond .ne 9, 3) := dk_154 hN_cX10_times rfl rfl rfl
theorem dX10_times_18 : decode cX10_times 18 = .ok (.aload_n 0, 1) := dk_42 hN_cX10_times rfl rfl
theorem dX10_times_19 : decode cX10_times 19 = .ok (.aload_n 0, 1) := dk_42 hN_cX10_times rfl rfl
theorem dX10_times_20 : decode cX10_times 20 = .ok (.getfield 25, 3) := dk_180 hN_cX10_times rfl rfl rfl
theorem dX10_times_23 : decode cX10_times 23 = .ok (.getfield 294, 3) := dk_180 hN_cX10_times rfl rfl rfl
theorem dX10_times_26 : decode cX10_times 26 = .ok (.iconst 4, 1) := dk_7 hN_cX10_times rfl rfl
theorem dX10_times_27 : decode cX10_times 27 = .ok (.iload_n 1, 1) := dk_27 hN_cX10_times rfl rfl
theorem dX10_times_28 : decode cX10_times 28 = .ok (.imul, 1) := dk_104 hN_cX10_times rfl rfl
theorem dX10_times_29 : decode cX10_times 29 = .ok (.iload_n 2, 1) := dk_28 hN_cX10_times rfl rfl
theorem dX10_times_30 : decode cX10_times 30 = .ok (.iadd, 1) := dk_96 hN_cX10_times rfl rfl
theorem dX10_times_31 : decode cX10_times 31 = .ok (.iaload, 1) := dk_46 hN_cX10_times rfl rfl
theorem dX10_times_32 : decode cX10_times 32 = .ok (.invokevirtual 125, 3) := dk_182 hN_cX10_times rfl rfl rfl
theorem dX10_times_35 : decode cX10_times 35 = .ok (.ireturn, 1) := dk_172 hN_cX10_times rfl rfl
theorem dX10_times_12 : decode cX10_times 12 = .ok (.aload_n 0, 1) := dk_42 hN_cX10_times rfl rfl
theorem dX10_times_13 : decode cX10_times 13 = .ok (.iconst 1, 1) := dk_4 hN_cX10_times rfl rfl
theorem dX10_times_14 : decode cX10_times 14 = .ok (.invokevirtual 90, 3) := dk_182 hN_cX10_times rfl rfl rfl
theorem dX10_times_17 : decode cX10_times 17 = .ok (.ireturn, 1) := dk_172 hN_cX10_times rfl rfl
theorem dX10_look_0 : decode cX10_look 0 = .ok (.aload_n 0, 1) := dk_42 hN_cX10_look rfl rfl
theorem dX10_look_1 : decode cX10_look 1 = .ok (.getfield 25, 3) := dk_180 hN_cX10_look rfl rfl rfl
theorem dX10_look_4 : decode cX10_look 4 = .ok (.iload_n 1, 1) := dk_27 hN_cX10_look rfl rfl
theorem dX10_look_5 : decode cX10_look 5 = .ok (.invokevirtual 282, 3) := dk_182 hN_cX10_look rfl rfl rfl
theorem dX10_look_8 : decode cX10_look 8 = .ok (.ifCond .ne 9, 3) := dk_154 hN_cX10_look rfl rfl rfl
theorem dX10_look_17 : decode cX10_look 17 = .ok (.aload_n 0, 1) := dk_42 hN_cX10_look rfl rfl
theorem dX10_look_18 : decode cX10_look 18 = .ok (.iload_n 2, 1) := dk_28 hN_cX10_look rfl rfl
theorem dX10_look_19 : decode cX10_look 19 = .ok (.ifCond .eq 15, 3) := dk_153 hN_cX10_look rfl rfl rfl
theorem dX10_look_34 : decode cX10_look 34 = .ok (.aload_n 0, 1) := dk_42 hN_cX10_look rfl rfl
theorem dX10_look_35 : decode cX10_look 35 = .ok (.getfield 25, 3) := dk_180 hN_cX10_look rfl rfl rfl
theorem dX10_look_38 : decode cX10_look 38 = .ok (.getfield 329, 3) := dk_180 hN_cX10_look rfl rfl rfl
theorem dX10_look_41 : decode cX10_look 41 = .ok (.iload_n 1, 1) := dk_27 hN_cX10_look rfl rfl
theorem dX10_look_42 : decode cX10_look 42 = .ok (.iaload, 1) := dk_46 hN_cX10_look rfl rfl
theorem dX10_look_43 : decode cX10_look 43 = .ok (.invokevirtual 125, 3) := dk_182 hN_cX10_look rfl rfl rfl
theorem dX10_look_46 : decode cX10_look 46 = .ok (.ireturn, 1) := dk_172 hN_cX10_look rfl rfl
theorem dX10_look_22 : decode cX10_look 22 = .ok (.aload_n 0, 1) := dk_42 hN_cX10_look rfl rfl
theorem dX10_look_23 : decode cX10_look 23 = .ok (.getfield 25, 3) := dk_180 hN_cX10_look rfl rfl rfl
theorem dX10_look_26 : decode cX10_look 26 = .ok (.getfield 326, 3) := dk_180 hN_cX10_look rfl rfl rfl
theorem dX10_look_29 : decode cX10_look 29 = .ok (.iload_n 1, 1) := dk_27 hN_cX10_look rfl rfl
theorem dX10_look_30 : decode cX10_look 30 = .ok (.iaload, 1) := dk_46 hN_cX10_look rfl rfl
theorem dX10_look_31 : decode cX10_look 31 = .ok (.goto 12, 3) := dk_167 hN_cX10_look rfl rfl rfl
theorem dX10_look_11 : decode cX10_look 11 = .ok (.aload_n 0, 1) := dk_42 hN_cX10_look rfl rfl
theorem dX10_look_12 : decode cX10_look 12 = .ok (.iconst 1, 1) := dk_4 hN_cX10_look rfl rfl
theorem dX10_look_13 : decode cX10_look 13 = .ok (.invokevirtual 90, 3) := dk_182 hN_cX10_look rfl rfl rfl
theorem dX10_look_16 : decode cX10_look 16 = .ok (.ireturn, 1) := dk_172 hN_cX10_look rfl rfl
theorem dX10_coins_0 : decode cX10_coins 0 = .ok (.aload_n 0, 1) := dk_42 hN_cX10_coins rfl rfl
theorem dX10_coins_1 : decode cX10_coins 1 = .ok (.getfield 25, 3) := dk_180 hN_cX10_coins rfl rfl rfl
theorem dX10_coins_4 : decode cX10_coins 4 = .ok (.iload_n 1, 1) := dk_27 hN_cX10_coins rfl rfl
theorem dX10_coins_5 : decode cX10_coins 5 = .ok (.iload_n 2, 1) := dk_28 hN_cX10_coins rfl rfl
theorem dX10_coins_6 : decode cX10_coins 6 = .ok (.invokevirtual 156, 3) := dk_182 hN_cX10_coins rfl rfl rfl
theorem dX10_coins_9 : decode cX10_coins 9 = .ok (.ifCond .ne 9, 3) := dk_154 hN_cX10_coins rfl rfl rfl
theorem dX10_coins_18 : decode cX10_coins 18 = .ok (.aload_n 0, 1) := dk_42 hN_cX10_coins rfl rfl
theorem dX10_coins_19 : decode cX10_coins 19 = .ok (.aload_n 0, 1) := dk_42 hN_cX10_coins rfl rfl
theorem dX10_coins_20 : decode cX10_coins 20 = .ok (.getfield 25, 3) := dk_180 hN_cX10_coins rfl rfl rfl
theorem dX10_coins_23 : decode cX10_coins 23 = .ok (.getfield 200, 3) := dk_180 hN_cX10_coins rfl rfl rfl
theorem dX10_coins_26 : decode cX10_coins 26 = .ok (.iconst 4, 1) := dk_7 hN_cX10_coins rfl rfl
theorem dX10_coins_27 : decode cX10_coins 27 = .ok (.iload_n 1, 1) := dk_27 hN_cX10_coins rfl rfl
theorem dX10_coins_28 : decode cX10_coins 28 = .ok (.imul, 1) := dk_104 hN_cX10_coins rfl rfl
theorem dX10_coins_29 : decode cX10_coins 29 = .ok (.iload_n 2, 1) := dk_28 hN_cX10_coins rfl rfl
theorem dX10_coins_30 : decode cX10_coins 30 = .ok (.iadd, 1) := dk_96 hN_cX10_coins rfl rfl
theorem dX10_coins_31 : decode cX10_coins 31 = .ok (.iaload, 1) := dk_46 hN_cX10_coins rfl rfl
theorem dX10_coins_32 : decode cX10_coins 32 = .ok (.invokevirtual 125, 3) := dk_182 hN_cX10_coins rfl rfl rfl
theorem dX10_coins_35 : decode cX10_coins 35 = .ok (.ireturn, 1) := dk_172 hN_cX10_coins rfl rfl
theorem dX10_coins_12 : decode cX10_coins 12 = .ok (.aload_n 0, 1) := dk_42 hN_cX10_coins rfl rfl
theorem dX10_coins_13 : decode cX10_coins 13 = .ok (.iconst 1, 1) := dk_4 hN_cX10_coins rfl rfl
theorem dX10_coins_14 : decode cX10_coins 14 = .ok (.invokevirtual 90, 3) := dk_182 hN_cX10_coins rfl rfl rfl
theorem dX10_coins_17 : decode cX10_coins 17 = .ok (.ireturn, 1) := dk_172 hN_cX10_coins rfl rfl
theorem dX10_size_0 : decode cX10_size 0 = .ok (.iload_n 1, 1) := dk_27 hN_cX10_size rfl rfl
theorem dX10_size_1 : decode cX10_size 1 = .ok (.tableswitch 152 0 10 #[59, 67, 75, 83, 91, 99, 107, 115, 123, 139, 147], 59) := by decide +kernel
theorem dX10_size_153 : decode cX10_size 153 = .ok (.iconst (-1), 1) := dk_2 hN_cX10_size rfl rfl
theorem dX10_size_154 : decode cX10_size 154 = .ok (.ireturn, 1) := dk_172 hN_cX10_size rfl rfl
theorem dX10_size_60 : decode cX10_size 60 = .ok (.aload_n 0, 1) := dk_42 hN_cX10_size rfl rfl
theorem dX10_size_61 : decode cX10_size 61 = .ok (.getfield 25, 3) := dk_180 hN_cX10_size rfl rfl rfl
theorem dX10_size_64 : decode cX10_size 64 = .ok (.getfield 122, 3) := dk_180 hN_cX10_size rfl rfl rfl
theorem dX10_size_67 : decode cX10_size 67 = .ok (.ireturn, 1) := dk_172 hN_cX10_size rfl rfl
theorem dX10_size_68 : decode cX10_size 68 = .ok (.aload_n 0, 1) := dk_42 hN_cX10_size rfl rfl
theorem dX10_size_69 : decode cX10_size 69 = .ok (.getfield 57, 3) := dk_180 hN_cX10_size rfl rfl rfl
theorem dX10_size_72 : decode cX10_size 72 = .ok (.getfield 225, 3) := dk_180 hN_cX10_size rfl rfl rfl
theorem dX10_size_75 : decode cX10_size 75 = .ok (.ireturn, 1) := dk_172 hN_cX10_size rfl rfl
theorem dX10_size_76 : decode cX10_size 76 = .ok (.aload_n 0, 1) := dk_42 hN_cX10_size rfl rfl
theorem dX10_size_77 : decode cX10_size 77 = .ok (.getfield 25, 3) := dk_180 hN_cX10_size rfl rfl rfl
theorem dX10_size_80 : decode cX10_size 80 = .ok (.getfield 348, 3) := dk_180 hN_cX10_size rfl rfl rfl
theorem dX10_size_83 : decode cX10_size 83 = .ok (.ireturn, 1) := dk_172 hN_cX10_size rfl rfl
theorem dX10_size_84 : decode cX10_size 84 = .ok (.aload_n 0, 1) := dk_42 hN_cX10_size rfl rfl
theorem dX10_size_85 : decode cX10_size 85 = .ok (.getfield 57, 3) := dk_180 hN_cX10_size rfl rfl rfl
theorem dX10_size_88 : decode cX10_size 88 = .ok (.getfield 234, 3) := dk_180 hN_cX10_size rfl rfl rfl
theorem dX10_size_91 : decode cX10_size 91 = .ok (.ireturn, 1) := dk_172 hN_cX10_size rfl rfl
theorem dX10_size_92 : decode cX10_size 92 = .ok (.aload_n 0, 1) := dk_42 hN_cX10_size rfl rfl
theorem dX10_size_93 : decode cX10_size 93 = .ok (.getfield 64, 3) := dk_180 hN_cX10_size rfl rfl rfl
theorem dX10_size_96 : decode cX10_size 96 = .ok (.getfield 351, 3) := dk_180 hN_cX10_size rfl rfl rfl
theorem dX10_size_99 : decode cX10_size 99 = .ok (.ireturn, 1) := dk_172 hN_cX10_size rfl rfl
theorem dX10_size_100 : decode cX10_size 100 = .ok (.aload_n 0, 1) := dk_42 hN_cX10_size rfl rfl
theorem dX10_size_101 : decode cX10_size 101 = .ok (.getfield 71, 3) := dk_180 hN_cX10_size rfl rfl rfl
theorem dX10_size_104 : decode cX10_size 104 = .ok (.getfield 354, 3) := dk_180 hN_cX10_size rfl rfl rfl
theorem dX10_size_107 : decode cX10_size 107 = .ok (.ireturn, 1) := dk_172 hN_cX10_size rfl rfl
theorem dX10_size_108 : decode cX10_size 108 = .ok (.aload_n 0, 1) := dk_42 hN_cX10_size rfl rfl
theorem dX10_size_109 : decode cX10_size 109 = .ok (.getfield 25, 3) := dk_180 hN_cX10_size rfl rfl rfl
theorem dX10_size_112 : decode cX10_size 112 = .ok (.getfield 215, 3) := dk_180 hN_cX10_size rfl rfl rfl
theorem dX10_size_115 : decode cX10_size 115 = .ok (.ireturn, 1) := dk_172 hN_cX10_size rfl rfl
theorem dX10_size_116 : decode cX10_size 116 = .ok (.aload_n 0, 1) := dk_42 hN_cX10_size rfl rfl
theorem dX10_size_117 : decode cX10_size 117 = .ok (.getfield 78, 3) := dk_180 hN_cX10_size rfl rfl rfl
theorem dX10_size_120 : decode cX10_size 120 = .ok (.getfield 319, 3) := dk_180 hN_cX10_size rfl rfl rfl
theorem dX10_size_123 : decode cX10_size 123 = .ok (.ireturn, 1) := dk_172 hN_cX10_size rfl rfl
theorem dX10_size_124 : decode cX10_size 124 = .ok (.aload_n 0, 1) := dk_42 hN_cX10_size rfl rfl
theorem dX10_size_125 : decode cX10_size 125 = .ok (.getfield 78, 3) := dk_180 hN_cX10_size rfl rfl rfl
theorem dX10_size_128 : decode cX10_size 128 = .ok (.getfield 357, 3) := dk_180 hN_cX10_size rfl rfl rfl
theorem dX10_size_131 : decode cX10_size 131 = .ok (.aload_n 0, 1) := dk_42 hN_cX10_size rfl rfl
theorem dX10_size_132 : decode cX10_size 132 = .ok (.getfield 78, 3) := dk_180 hN_cX10_size rfl rfl rfl
theorem dX10_size_135 : decode cX10_size 135 = .ok (.getfield 319, 3) := dk_180 hN_cX10_size rfl rfl rfl
theorem dX10_size_138 : decode cX10_size 138 = .ok (.isub, 1) := dk_100 hN_cX10_size rfl rfl
theorem dX10_size_139 : decode cX10_size 139 = .ok (.ireturn, 1) := dk_172 hN_cX10_size rfl rfl
theorem dX10_size_140 : decode cX10_size 140 = .ok (.aload_n 0, 1) := dk_42 hN_cX10_size rfl rfl
theorem dX10_size_141 : decode cX10_size 141 = .ok (.getfield 78, 3) := dk_180 hN_cX10_size rfl rfl rfl
theorem dX10_size_144 : decode cX10_size 144 = .ok (.getfield 310, 3) := dk_180 hN_cX10_size rfl rfl rfl
theorem dX10_size_147 : decode cX10_size 147 = .ok (.ireturn, 1) := dk_172 hN_cX10_size rfl rfl
theorem dX10_size_148 : decode cX10_size 148 = .ok (.aload_n 0, 1) := dk_42 hN_cX10_size rfl rfl
theorem dX10_size_149 : decode cX10_size 149 = .ok (.getfield 82, 3) := dk_180 hN_cX10_size rfl rfl rfl
theorem dX10_size_152 : decode cX10_size 152 = .ok (.ireturn, 1) := dk_172 hN_cX10_size rfl rfl
theorem dX10_trouble_0 : decode cX10_trouble 0 = .ok (.aload_n 0, 1) := dk_42 hN_cX10_trouble rfl rfl
theorem dX10_trouble_1 : decode cX10_trouble 1 = .ok (.getfield 128, 3) := dk_180 hN_cX10_trouble rfl rfl rfl
theorem dX10_trouble_4 : decode cX10_trouble 4 = .ok (.ireturn, 1) := dk_172 hN_cX10_trouble rfl rfl
theorem dX10_put_0 : decode cX10_put 0 = .ok (.bipush 24, 2) := dk_16 hN_cX10_put rfl rfl rfl
theorem dX10_put_2 : decode cX10_put 2 = .ok (.istore_n 2, 1) := dk_61 hN_cX10_put rfl rfl
theorem dX10_put_3 : decode cX10_put 3 = .ok (.iload_n 2, 1) := dk_28 hN_cX10_put rfl rfl
theorem dX10_put_4 : decode cX10_put 4 = .ok (.ifCond .lt 35, 3) := dk_155 hN_cX10_put rfl rfl rfl
theorem dX10_put_39 : decode cX10_put 39 = .ok (.return_, 1) := dk_177 hN_cX10_put rfl rfl
theorem dX10_put_7 : decode cX10_put 7 = .ok (.aload_n 0, 1) := dk_42 hN_cX10_put rfl rfl
theorem dX10_put_8 : decode cX10_put 8 = .ok (.getfield 9, 3) := dk_180 hN_cX10_put rfl rfl rfl
theorem dX10_put_11 : decode cX10_put 11 = .ok (.aload_n 0, 1) := dk_42 hN_cX10_put rfl rfl
theorem dX10_put_12 : decode cX10_put 12 = .ok (.getfield 82, 3) := dk_180 hN_cX10_put rfl rfl rfl
theorem dX10_put_15 : decode cX10_put 15 = .ok (.iload_n 1, 1) := dk_27 hN_cX10_put rfl rfl
theorem dX10_put_16 : decode cX10_put 16 = .ok (.iload_n 2, 1) := dk_28 hN_cX10_put rfl rfl
theorem dX10_put_17 : decode cX10_put 17 = .ok (.iushr, 1) := dk_124 hN_cX10_put rfl rfl
theorem dX10_put_18 : decode cX10_put 18 = .ok (.sipush 255, 3) := dk_17 hN_cX10_put rfl rfl rfl
theorem dX10_put_21 : decode cX10_put 21 = .ok (.iand, 1) := dk_126 hN_cX10_put rfl rfl
theorem dX10_put_22 : decode cX10_put 22 = .ok (.iastore, 1) := dk_79 hN_cX10_put rfl rfl
theorem dX10_put_23 : decode cX10_put 23 = .ok (.aload_n 0, 1) := dk_42 hN_cX10_put rfl rfl
theorem dX10_put_24 : decode cX10_put 24 = .ok (.dup, 1) := dk_89 hN_cX10_put rfl rfl
theorem dX10_put_25 : decode cX10_put 25 = .ok (.getfield 82, 3) := dk_180 hN_cX10_put rfl rfl rfl
theorem dX10_put_28 : decode cX10_put 28 = .ok (.iconst 1, 1) := dk_4 hN_cX10_put rfl rfl
theorem dX10_put_29 : decode cX10_put 29 = .ok (.iadd, 1) := dk_96 hN_cX10_put rfl rfl
theorem dX10_put_30 : decode cX10_put 30 = .ok (.putfield 82, 3) := dk_181 hN_cX10_put rfl rfl rfl
theorem dX10_put_33 : decode cX10_put 33 = .ok (.iinc 2 (-8), 3) := dk_132 hN_cX10_put rfl rfl rfl rfl
theorem dX10_put_36 : decode cX10_put 36 = .ok (.goto (-33), 3) := dk_167 hN_cX10_put rfl rfl rfl
theorem dX10_noBook_0 : decode cX10_noBook 0 = .ok (.aload_n 0, 1) := dk_42 hN_cX10_noBook rfl rfl
theorem dX10_noBook_1 : decode cX10_noBook 1 = .ok (.getfield 25, 3) := dk_180 hN_cX10_noBook rfl rfl rfl
theorem dX10_noBook_4 : decode cX10_noBook 4 = .ok (.getfield 215, 3) := dk_180 hN_cX10_noBook rfl rfl rfl
theorem dX10_noBook_7 : decode cX10_noBook 7 = .ok (.ifCond .ne 7, 3) := dk_154 hN_cX10_noBook rfl rfl rfl
theorem dX10_noBook_14 : decode cX10_noBook 14 = .ok (.iconst 0, 1) := dk_3 hN_cX10_noBook rfl rfl
theorem dX10_noBook_15 : decode cX10_noBook 15 = .ok (.ireturn, 1) := dk_172 hN_cX10_noBook rfl rfl
theorem dX10_noBook_10 : decode cX10_noBook 10 = .ok (.iconst 1, 1) := dk_4 hN_cX10_noBook rfl rfl
theorem dX10_noBook_11 : decode cX10_noBook 11 = .ok (.goto 4, 3) := dk_167 hN_cX10_noBook rfl rfl rfl
theorem dX10_told_0 : decode cX10_told 0 = .ok (.aload_n 0, 1) := dk_42 hN_cX10_told rfl rfl
theorem dX10_told_1 : decode cX10_told 1 = .ok (.iconst 0, 1) := dk_3 hN_cX10_told rfl rfl
theorem dX10_told_2 : decode cX10_told 2 = .ok (.putfield 128, 3) := dk_181 hN_cX10_told rfl rfl rfl
theorem dX10_told_5 : decode cX10_told 5 = .ok (.iload_n 1, 1) := dk_27 hN_cX10_told rfl rfl
theorem dX10_told_6 : decode cX10_told 6 = .ok (.ireturn, 1) := dk_172 hN_cX10_told rfl rfl
theorem dX10_refused_0 : decode cX10_refused 0 = .ok (.aload_n 0, 1) := dk_42 hN_cX10_refused rfl rfl
theorem dX10_refused_1 : decode cX10_refused 1 = .ok (.iload_n 1, 1) := dk_27 hN_cX10_refused rfl rfl
theorem dX10_refused_2 : decode cX10_refused 2 = .ok (.putfield 128, 3) := dk_181 hN_cX10_refused rfl rfl rfl
theorem dX10_refused_5 : decode cX10_refused 5 = .ok (.iconst (-1), 1) := dk_2 hN_cX10_refused rfl rfl
theorem dX10_refused_6 : decode cX10_refused 6 = .ok (.ireturn, 1) := dk_172 hN_cX10_refused rfl rfl
theorem dX10_done_0 : decode cX10_done 0 = .ok (.aload_n 0, 1) := dk_42 hN_cX10_done rfl rfl
theorem dX10_done_1 : decode cX10_done 1 = .ok (.iconst 0, 1) := dk_3 hN_cX10_done rfl rfl
theorem dX10_done_2 : decode cX10_done 2 = .ok (.putfield 128, 3) := dk_181 hN_cX10_done rfl rfl rfl
theorem dX10_done_5 : decode cX10_done 5 = .ok (.iconst 1, 1) := dk_4 hN_cX10_done rfl rfl
theorem dX10_done_6 : decode cX10_done 6 = .ok (.ireturn, 1) := dk_172 hN_cX10_done rfl rfl
theorem dX10_denied_0 : decode cX10_denied 0 = .ok (.aload_n 0, 1) := dk_42 hN_cX10_denied rfl rfl
theorem dX10_denied_1 : decode cX10_denied 1 = .ok (.iload_n 1, 1) := dk_27 hN_cX10_denied rfl rfl
theorem dX10_denied_2 : decode cX10_denied 2 = .ok (.putfield 128, 3) := dk_181 hN_cX10_denied rfl rfl rfl
theorem dX10_denied_5 : decode cX10_denied 5 = .ok (.iconst 0, 1) := dk_3 hN_cX10_denied rfl rfl
theorem dX10_denied_6 : decode cX10_denied 6 = .ok (.ireturn, 1) := dk_172 hN_cX10_denied rfl rfl
theorem dX10_isBit_0 : decode cX10_isBit 0 = .ok (.iload_n 0, 1) := dk_26 hN_cX10_isBit rfl rfl
theorem dX10_isBit_1 : decode cX10_isBit 1 = .ok (.ifCond .eq 8, 3) := dk_153 hN_cX10_isBit rfl rfl rfl
theorem dX10_isBit_9 : decode cX10_isBit 9 = .ok (.iconst 1, 1) := dk_4 hN_cX10_isBit rfl rfl
theorem dX10_isBit_10 : decode cX10_isBit 10 = .ok (.goto 4, 3) := dk_167 hN_cX10_isBit rfl rfl rfl
theorem dX10_isBit_14 : decode cX10_isBit 14 = .ok (.ireturn, 1) := dk_172 hN_cX10_isBit rfl rfl
theorem dX10_isBit_4 : decode cX10_isBit 4 = .ok (.iload_n 0, 1) := dk_26 hN_cX10_isBit rfl rfl
theorem dX10_isBit_5 : decode cX10_isBit 5 = .ok (.iconst 1, 1) := dk_4 hN_cX10_isBit rfl rfl
theorem dX10_isBit_6 : decode cX10_isBit 6 = .ok (.if_icmp .ne 7, 3) := dk_160 hN_cX10_isBit rfl rfl rfl
theorem dX10_isBit_13 : decode cX10_isBit 13 = .ok (.iconst 0, 1) := dk_3 hN_cX10_isBit rfl rfl
theorem dX10_bitAt_0 : decode cX10_bitAt 0 = .ok (.iconst 0, 1) := dk_3 hN_cX10_bitAt rfl rfl
theorem dX10_bitAt_1 : decode cX10_bitAt 1 = .ok (.istore_n 2, 1) := dk_61 hN_cX10_bitAt rfl rfl
theorem dX10_bitAt_2 : decode cX10_bitAt 2 = .ok (.iconst 0, 1) := dk_3 hN_cX10_bitAt rfl rfl
theorem dX10_bitAt_3 : decode cX10_bitAt 3 = .ok (.istore_n 3, 1) := dk_62 hN_cX10_bitAt rfl rfl
theorem dX10_bitAt_4 : decode cX10_bitAt 4 = .ok (.iload_n 3, 1) := dk_29 hN_cX10_bitAt rfl rfl
theorem dX10_bitAt_5 : decode cX10_bitAt 5 = .ok (.bipush 32, 2) := dk_16 hN_cX10_bitAt rfl rfl rfl
theorem dX10_bitAt_7 : decode cX10_bitAt 7 = .ok (.if_icmp .ge 27, 3) := dk_162 hN_cX10_bitAt rfl rfl rfl
theorem dX10_bitAt_34 : decode cX10_bitAt 34 = .ok (.iconst (-1), 1) := dk_2 hN_cX10_bitAt rfl rfl
theorem dX10_bitAt_35 : decode cX10_bitAt 35 = .ok (.ireturn, 1) := dk_172 hN_cX10_bitAt rfl rfl
theorem dX10_bitAt_10 : decode cX10_bitAt 10 = .ok (.iload_n 0, 1) := dk_26 hN_cX10_bitAt rfl rfl
theorem dX10_bitAt_11 : decode cX10_bitAt 11 = .ok (.iload_n 3, 1) := dk_29 hN_cX10_bitAt rfl rfl
theorem dX10_bitAt_12 : decode cX10_bitAt 12 = .ok (.iushr, 1) := dk_124 hN_cX10_bitAt rfl rfl
theorem dX10_bitAt_13 : decode cX10_bitAt 13 = .ok (.iconst 1, 1) := dk_4 hN_cX10_bitAt rfl rfl
theorem dX10_bitAt_14 : decode cX10_bitAt 14 = .ok (.iand, 1) := dk_126 hN_cX10_bitAt rfl rfl
theorem dX10_bitAt_15 : decode cX10_bitAt 15 = .ok (.ifCond .eq 13, 3) := dk_153 hN_cX10_bitAt rfl rfl rfl
theorem dX10_bitAt_28 : decode cX10_bitAt 28 = .ok (.iinc 3 1, 3) := dk_132 hN_cX10_bitAt rfl rfl rfl rfl
theorem dX10_bitAt_31 : decode cX10_bitAt 31 = .ok (.goto (-27), 3) := dk_167 hN_cX10_bitAt rfl rfl rfl
theorem dX10_bitAt_18 : decode cX10_bitAt 18 = .ok (.iload_n 2, 1) := dk_28 hN_cX10_bitAt rfl rfl
theorem dX10_bitAt_19 : decode cX10_bitAt 19 = .ok (.iload_n 1, 1) := dk_27 hN_cX10_bitAt rfl rfl
theorem dX10_bitAt_20 : decode cX10_bitAt 20 = .ok (.if_icmp .ne 5, 3) := dk_160 hN_cX10_bitAt rfl rfl rfl
theorem dX10_bitAt_25 : decode cX10_bitAt 25 = .ok (.iinc 2 1, 3) := dk_132 hN_cX10_bitAt rfl rfl rfl rfl
theorem dX10_bitAt_23 : decode cX10_bitAt 23 = .ok (.iload_n 3, 1) := dk_29 hN_cX10_bitAt rfl rfl
theorem dX10_bitAt_24 : decode cX10_bitAt 24 = .ok (.ireturn, 1) := dk_172 hN_cX10_bitAt rfl rfl
theorem dX11_good_0 : decode cX11_good 0 = .ok (.aload_n 0, 1) := dk_42 hN_cX11_good rfl rfl
theorem dX11_good_1 : decode cX11_good 1 = .ok (.iconst 0, 1) := dk_3 hN_cX11_good rfl rfl
theorem dX11_good_2 : decode cX11_good 2 = .ok (.putfield 69, 3) := dk_181 hN_cX11_good rfl rfl rfl
theorem dX11_good_5 : decode cX11_good 5 = .ok (.aload_n 0, 1) := dk_42 hN_cX11_good rfl rfl
theorem dX11_good_6 : decode cX11_good 6 = .ok (.iconst 0, 1) := dk_3 hN_cX11_good rfl rfl
theorem dX11_good_7 : decode cX11_good 7 = .ok (.putfield 72, 3) := dk_181 hN_cX11_good rfl rfl rfl
theorem dX11_good_10 : decode cX11_good 10 = .ok (.return_, 1) := dk_177 hN_cX11_good rfl rfl
theorem dX11_no_0 : decode cX11_no 0 = .ok (.aload_n 0, 1) := dk_42 hN_cX11_no rfl rfl
theorem dX11_no_1 : decode cX11_no 1 = .ok (.iload_n 1, 1) := dk_27 hN_cX11_no rfl rfl
theorem dX11_no_2 : decode cX11_no 2 = .ok (.putfield 72, 3) := dk_181 hN_cX11_no rfl rfl rfl
theorem dX11_no_5 : decode cX11_no 5 = .ok (.iconst (-1), 1) := dk_2 hN_cX11_no rfl rfl
theorem dX11_no_6 : decode cX11_no 6 = .ok (.ireturn, 1) := dk_172 hN_cX11_no rfl rfl
theorem dX11_less_0 : decode cX11_less 0 = .ok (.aload_n 0, 1) := dk_42 hN_cX11_less rfl rfl
theorem dX11_less_1 : decode cX11_less 1 = .ok (.iload_n 1, 1) := dk_27 hN_cX11_less rfl rfl
theorem dX11_less_2 : decode cX11_less 2 = .ok (.putfield 72, 3) := dk_181 hN_cX11_less rfl rfl rfl
theorem dX11_less_5 : decode cX11_less 5 = .ok (.iload_n 2, 1) := dk_28 hN_cX11_less rfl rfl
theorem dX11_less_6 : decode cX11_less 6 = .ok (.ireturn, 1) := dk_172 hN_cX11_less rfl rfl
theorem dX11_isNot_0 : decode cX11_isNot 0 = .ok (.aload_n 0, 1) := dk_42 hN_cX11_isNot rfl rfl
theorem dX11_isNot_1 : decode cX11_isNot 1 = .ok (.iload_n 1, 1) := dk_27 hN_cX11_isNot rfl rfl
theorem dX11_isNot_2 : decode cX11_isNot 2 = .ok (.putfield 72, 3) := dk_181 hN_cX11_isNot rfl rfl rfl
theorem dX11_isNot_5 : decode cX11_isNot 5 = .ok (.iconst 0, 1) := dk_3 hN_cX11_isNot rfl rfl
theorem dX11_isNot_6 : decode cX11_isNot 6 = .ok (.ireturn, 1) := dk_172 hN_cX11_isNot rfl rfl
theorem dX11_within_0 : decode cX11_within 0 = .ok (.iload_n 0, 1) := dk_26 hN_cX11_within rfl rfl
theorem dX11_within_1 : decode cX11_within 1 = .ok (.iload_n 1, 1) := dk_27 hN_cX11_within rfl rfl
theorem dX11_within_2 : decode cX11_within 2 = .ok (.if_icmp .lt 12, 3) := dk_161 hN_cX11_within rfl rfl rfl
theorem dX11_within_14 : decode cX11_within 14 = .ok (.iconst 0, 1) := dk_3 hN_cX11_within rfl rfl
theorem dX11_within_15 : decode cX11_within 15 = .ok (.ireturn, 1) := dk_172 hN_cX11_within rfl rfl
theorem dX11_within_5 : decode cX11_within 5 = .ok (.iload_n 0, 1) := dk_26 hN_cX11_within rfl rfl
theorem dX11_within_6 : decode cX11_within 6 = .ok (.iload_n 2, 1) := dk_28 hN_cX11_within rfl rfl
theorem dX11_within_7 : decode cX11_within 7 = .ok (.if_icmp .gt 7, 3) := dk_163 hN_cX11_within rfl rfl rfl
theorem dX11_within_10 : decode cX11_within 10 = .ok (.iconst 1, 1) := dk_4 hN_cX11_within rfl rfl
theorem dX11_within_11 : decode cX11_within 11 = .ok (.goto 4, 3) := dk_167 hN_cX11_within rfl rfl rfl
theorem dX11_has_0 : decode cX11_has 0 = .ok (.iload_n 0, 1) := dk_26 hN_cX11_has rfl rfl
theorem dX11_has_1 : decode cX11_has 1 = .ok (.iload_n 1, 1) := dk_27 hN_cX11_has rfl rfl
theorem dX11_has_2 : decode cX11_has 2 = .ok (.ishr, 1) := dk_122 hN_cX11_has rfl rfl
theorem dX11_has_3 : decode cX11_has 3 = .ok (.iconst 1, 1) := dk_4 hN_cX11_has rfl rfl
theorem dX11_has_4 : decode cX11_has 4 = .ok (.iand, 1) := dk_126 hN_cX11_has rfl rfl
theorem dX11_has_5 : decode cX11_has 5 = .ok (.iconst 1, 1) := dk_4 hN_cX11_has rfl rfl
theorem dX11_has_6 : decode cX11_has 6 = .ok (.if_icmp .ne 7, 3) := dk_160 hN_cX11_has rfl rfl rfl
theorem dX11_has_13 : decode cX11_has 13 = .ok (.iconst 0, 1) := dk_3 hN_cX11_has rfl rfl
theorem dX11_has_14 : decode cX11_has 14 = .ok (.ireturn, 1) := dk_172 hN_cX11_has rfl rfl
theorem dX11_has_9 : decode cX11_has 9 = .ok (.iconst 1, 1) := dk_4 hN_cX11_has rfl rfl
theorem dX11_has_10 : decode cX11_has 10 = .ok (.goto 4, 3) := dk_167 hN_cX11_has rfl rfl rfl
theorem dX11_bits_0 : decode cX11_bits 0 = .ok (.iconst 0, 1) := dk_3 hN_cX11_bits rfl rfl
theorem dX11_bits_1 : decode cX11_bits 1 = .ok (.istore_n 1, 1) := dk_60 hN_cX11_bits rfl rfl
theorem dX11_bits_2 : decode cX11_bits 2 = .ok (.iconst 0, 1) := dk_3 hN_cX11_bits rfl rfl
theorem dX11_bits_3 : decode cX11_bits 3 = .ok (.istore_n 2, 1) := dk_61 hN_cX11_bits rfl rfl
theorem dX11_bits_4 : decode cX11_bits 4 = .ok (.iload_n 2, 1) := dk_28 hN_cX11_bits rfl rfl
theorem dX11_bits_5 : decode cX11_bits 5 = .ok (.bipush 20, 2) := dk_16 hN_cX11_bits rfl rfl rfl
theorem dX11_bits_7 : decode cX11_bits 7 = .ok (.if_icmp .ge 17, 3) := dk_162 hN_cX11_bits rfl rfl rfl
theorem dX11_bits_24 : decode cX11_bits 24 = .ok (.iload_n 1, 1) := dk_27 hN_cX11_bits rfl rfl
theorem dX11_bits_25 : decode cX11_bits 25 = .ok (.ireturn, 1) := dk_172 hN_cX11_bits rfl rfl
theorem dX11_bits_10 : decode cX11_bits 10 = .ok (.iload_n 1, 1) := dk_27 hN_cX11_bits rfl rfl
theorem dX11_bits_11 : decode cX11_bits 11 = .ok (.iload_n 0, 1) := dk_26 hN_cX11_bits rfl rfl
theorem dX11_bits_12 : decode cX11_bits 12 = .ok (.iload_n 2, 1) := dk_28 hN_cX11_bits rfl rfl
theorem dX11_bits_13 : decode cX11_bits 13 = .ok (.ishr, 1) := dk_122 hN_cX11_bits rfl rfl
theorem dX11_bits_14 : decode cX11_bits 14 = .ok (.iconst 1, 1) := dk_4 hN_cX11_bits rfl rfl
theorem dX11_bits_15 : decode cX11_bits 15 = .ok (.iand, 1) := dk_126 hN_cX11_bits rfl rfl
theorem dX11_bits_16 : decode cX11_bits 16 = .ok (.iadd, 1) := dk_96 hN_cX11_bits rfl rfl
theorem dX11_bits_17 : decode cX11_bits 17 = .ok (.istore_n 1, 1) := dk_60 hN_cX11_bits rfl rfl
theorem dX11_bits_18 : decode cX11_bits 18 = .ok (.iinc 2 1, 3) := dk_132 hN_cX11_bits rfl rfl rfl rfl
theorem dX11_bits_21 : decode cX11_bits 21 = .ok (.goto (-17), 3) := dk_167 hN_cX11_bits rfl rfl rfl
theorem dX11_feed_0 : decode cX11_feed 0 = .ok (.aload_n 0, 1) := dk_42 hN_cX11_feed rfl rfl
theorem dX11_feed_1 : decode cX11_feed 1 = .ok (.iconst 0, 1) := dk_3 hN_cX11_feed rfl rfl
theorem dX11_feed_2 : decode cX11_feed 2 = .ok (.putfield 69, 3) := dk_181 hN_cX11_feed rfl rfl rfl
theorem dX11_feed_5 : decode cX11_feed 5 = .ok (.aload_n 0, 1) := dk_42 hN_cX11_feed rfl rfl
theorem dX11_feed_6 : decode cX11_feed 6 = .ok (.getfield 75, 3) := dk_180 hN_cX11_feed rfl rfl rfl
theorem dX11_feed_9 : decode cX11_feed 9 = .ok (.bipush 20, 2) := dk_16 hN_cX11_feed rfl rfl rfl
theorem dX11_feed_11 : decode cX11_feed 11 = .ok (.iadd, 1) := dk_96 hN_cX11_feed rfl rfl
theorem dX11_feed_12 : decode cX11_feed 12 = .ok (.sipush 900, 3) := dk_17 hN_cX11_feed rfl rfl rfl
theorem dX11_feed_15 : decode cX11_feed 15 = .ok (.if_icmp .le 5, 3) := dk_164 hN_cX11_feed rfl rfl rfl
theorem dX11_feed_20 : decode cX11_feed 20 = .ok (.iconst 0, 1) := dk_3 hN_cX11_feed rfl rfl
theorem dX11_feed_21 : decode cX11_feed 21 = .ok (.istore 6, 2) := dk_54 hN_cX11_feed rfl rfl rfl
theorem dX11_feed_18 : decode cX11_feed 18 = .ok (.iconst (-1), 1) := dk_2 hN_cX11_feed rfl rfl
theorem dX11_feed_19 : decode cX11_feed 19 = .ok (.ireturn, 1) := dk_172 hN_cX11_feed rfl rfl
theorem dX11_feed_23 : decode cX11_feed 23 = .ok (.iload 6, 2) := dk_21 hN_cX11_feed rfl rfl rfl
theorem dX11_feed_25 : decode cX11_feed 25 = .ok (.bipush 20, 2) := dk_16 hN_cX11_feed rfl rfl rfl
theorem dX11_feed_27 : decode cX11_feed 27 = .ok (.if_icmp .ge 93, 3) := dk_162 hN_cX11_feed rfl rfl rfl
theorem dX11_feed_120 : decode cX11_feed 120 = .ok (.aload_n 0, 1) := dk_42 hN_cX11_feed rfl rfl
theorem dX11_feed_121 : decode cX11_feed 121 = .ok (.getfield 75, 3) := dk_180 hN_cX11_feed rfl rfl rfl
theorem dX11_feed_124 : decode cX11_feed 124 = .ok (.ireturn, 1) := dk_172 hN_cX11_feed rfl rfl
theorem dX11_feed_30 : decode cX11_feed 30 = .ok (.iload 6, 2) := dk_21 hN_cX11_feed rfl rfl rfl
theorem dX11_feed_32 : decode cX11_feed 32 = .ok (.iconst 4, 1) := dk_7 hN_cX11_feed rfl rfl
theorem dX11_feed_33 : decode cX11_feed 33 = .ok (.if_icmp .ge 7, 3) := dk_162 hN_cX11_feed rfl rfl rfl
theorem dX11_feed_40 : decode cX11_feed 40 = .ok (.iload 6, 2) := dk_21 hN_cX11_feed rfl rfl rfl
theorem dX11_feed_42 : decode cX11_feed 42 = .ok (.bipush 8, 2) := dk_16 hN_cX11_feed rfl rfl rfl
theorem dX11_feed_44 : decode cX11_feed 44 = .ok (.if_icmp .ge 7, 3) := dk_162 hN_cX11_feed rfl rfl rfl
theorem dX11_feed_51 : decode cX11_feed 51 = .ok (.iload 6, 2) := dk_21 hN_cX11_feed rfl rfl rfl
theorem dX11_feed_53 : decode cX11_feed 53 = .ok (.bipush 12, 2) := dk_16 hN_cX11_feed rfl rfl rfl
theorem dX11_feed_55 : decode cX11_feed 55 = .ok (.if_icmp .ge 7, 3) := dk_162 hN_cX11_feed rfl rfl rfl
theorem dX11_feed_62 : decode cX11_feed 62 = .ok (.iload 6, 2) := dk_21 hN_cX11_feed rfl rfl rfl
theorem dX11_feed_64 : decode cX11_feed 64 = .ok (.bipush 16, 2) := dk_16 hN_cX11_feed rfl rfl rfl
theorem dX11_feed_66 : decode cX11_feed 66 = .ok (.if_icmp .ge 8, 3) := dk_162 hN_cX11_feed rfl rfl rfl
theorem dX11_feed_74 : decode cX11_feed 74 = .ok (.iload 5, 2) := dk_21 hN_cX11_feed rfl rfl rfl
theorem dX11_feed_76 : decode cX11_feed 76 = .ok (.istore 7, 2) := dk_54 hN_cX11_feed rfl rfl rfl
theorem dX11_feed_78 : decode cX11_feed 78 = .ok (.aload_n 0, 1) := dk_42 hN_cX11_feed rfl rfl
theorem dX11_feed_79 : decode cX11_feed 79 = .ok (.getfield 7, 3) := dk_180 hN_cX11_feed rfl rfl rfl
theorem dX11_feed_82 : decode cX11_feed 82 = .ok (.aload_n 0, 1) := dk_42 hN_cX11_feed rfl rfl
theorem dX11_feed_83 : decode cX11_feed 83 = .ok (.getfield 75, 3) := dk_180 hN_cX11_feed rfl rfl rfl
theorem dX11_feed_86 : decode cX11_feed 86 = .ok (.iload 7, 2) := dk_21 hN_cX11_feed rfl rfl rfl
theorem dX11_feed_88 : decode cX11_feed 88 = .ok (.bipush 24, 2) := dk_16 hN_cX11_feed rfl rfl rfl
theorem dX11_feed_90 : decode cX11_feed 90 = .ok (.bipush 8, 2) := dk_16 hN_cX11_feed rfl rfl rfl
theorem dX11_feed_92 : decode cX11_feed 92 = .ok (.iload 6, 2) := dk_21 hN_cX11_feed rfl rfl rfl
theorem dX11_feed_94 : decode cX11_feed 94 = .ok (.iconst 4, 1) := dk_7 hN_cX11_feed rfl rfl
theorem dX11_feed_95 : decode cX11_feed 95 = .ok (.irem, 1) := dk_112 hN_cX11_feed rfl rfl
theorem dX11_feed_96 : decode cX11_feed 96 = .ok (.imul, 1) := dk_104 hN_cX11_feed rfl rfl
theorem dX11_feed_97 : decode cX11_feed 97 = .ok (.isub, 1) := dk_100 hN_cX11_feed rfl rfl
theorem dX11_feed_98 : decode cX11_feed 98 = .ok (.ishr, 1) := dk_122 hN_cX11_feed rfl rfl
theorem dX11_feed_99 : decode cX11_feed 99 = .ok (.sipush 255, 3) := dk_17 hN_cX11_feed rfl rfl rfl
theorem dX11_feed_102 : decode cX11_feed 102 = .ok (.iand, 1) := dk_126 hN_cX11_feed rfl rfl
theorem dX11_feed_103 : decode cX11_feed 103 = .ok (.iastore, 1) := dk_79 hN_cX11_feed rfl rfl
theorem dX11_feed_104 : decode cX11_feed 104 = .ok (.aload_n 0, 1) := dk_42 hN_cX11_feed rfl rfl
theorem dX11_feed_105 : decode cX11_feed 105 = .ok (.dup, 1) := dk_89 hN_cX11_feed rfl rfl
theorem dX11_feed_106 : decode cX11_feed 106 = .ok (.getfield 75, 3) := dk_180 hN_cX11_feed rfl rfl rfl
theorem dX11_feed_109 : decode cX11_feed 109 = .ok (.iconst 1, 1) := dk_4 hN_cX11_feed rfl rfl
theorem dX11_feed_110 : decode cX11_feed 110 = .ok (.iadd, 1) := dk_96 hN_cX11_feed rfl rfl
theorem dX11_feed_111 : decode cX11_feed 111 = .ok (.putfield 75, 3) := dk_181 hN_cX11_feed rfl rfl rfl
theorem dX11_feed_114 : decode cX11_feed 114 = .ok (.iinc 6 1, 3) := dk_132 hN_cX11_feed rfl rfl rfl rfl
theorem dX11_feed_117 : decode cX11_feed 117 = .ok (.goto (-94), 3) := dk_167 hN_cX11_feed rfl rfl rfl
theorem dX11_feed_69 : decode cX11_feed 69 = .ok (.iload 4, 2) := dk_21 hN_cX11_feed rfl rfl rfl
theorem dX11_feed_71 : decode cX11_feed 71 = .ok (.goto 5, 3) := dk_167 hN_cX11_feed rfl rfl rfl
theorem dX11_feed_58 : decode cX11_feed 58 = .ok (.iload_n 3, 1) := dk_29 hN_cX11_feed rfl rfl
theorem dX11_feed_59 : decode cX11_feed 59 = .ok (.goto 17, 3) := dk_167 hN_cX11_feed rfl rfl rfl
theorem dX11_feed_47 : decode cX11_feed 47 = .ok (.iload_n 2, 1) := dk_28 hN_cX11_feed rfl rfl
theorem dX11_feed_48 : decode cX11_feed 48 = .ok (.goto 28, 3) := dk_167 hN_cX11_feed rfl rfl rfl
theorem dX11_feed_36 : decode cX11_feed 36 = .ok (.iload_n 1, 1) := dk_27 hN_cX11_feed rfl rfl
theorem dX11_feed_37 : decode cX11_feed 37 = .ok (.goto 39, 3) := dk_167 hN_cX11_feed rfl rfl rfl
theorem dX11_see_0 : decode cX11_see 0 = .ok (.iload_n 1, 1) := dk_27 hN_cX11_see rfl rfl
theorem dX11_see_1 : decode cX11_see 1 = .ok (.aload_n 0, 1) := dk_42 hN_cX11_see rfl rfl
theorem dX11_see_2 : decode cX11_see 2 = .ok (.getfield 78, 3) := dk_180 hN_cX11_see rfl rfl rfl
theorem dX11_see_5 : decode cX11_see 5 = .ok (.if_icmp .ge 12, 3) := dk_162 hN_cX11_see rfl rfl rfl
theorem dX11_see_17 : decode cX11_see 17 = .ok (.iconst (-1), 1) := dk_2 hN_cX11_see rfl rfl
theorem dX11_see_18 : decode cX11_see 18 = .ok (.ireturn, 1) := dk_172 hN_cX11_see rfl rfl
theorem dX11_see_8 : decode cX11_see 8 = .ok (.aload_n 0, 1) := dk_42 hN_cX11_see rfl rfl
theorem dX11_see_9 : decode cX11_see 9 = .ok (.getfield 7, 3) := dk_180 hN_cX11_see rfl rfl rfl
theorem dX11_see_12 : decode cX11_see 12 = .ok (.iload_n 1, 1) := dk_27 hN_cX11_see rfl rfl
theorem dX11_see_13 : decode cX11_see 13 = .ok (.iaload, 1) := dk_46 hN_cX11_see rfl rfl
theorem dX11_see_14 : decode cX11_see 14 = .ok (.goto 4, 3) := dk_167 hN_cX11_see rfl rfl rfl
theorem dX11_isSmall_0 : decode cX11_isSmall 0 = .ok (.iload_n 0, 1) := dk_26 hN_cX11_isSmall rfl rfl
theorem dX11_isSmall_1 : decode cX11_isSmall 1 = .ok (.bipush 97, 2) := dk_16 hN_cX11_isSmall rfl rfl rfl
theorem dX11_isSmall_3 : decode cX11_isSmall 3 = .ok (.if_icmp .lt 13, 3) := dk_161 hN_cX11_isSmall rfl rfl rfl
theorem dX11_isSmall_16 : decode cX11_isSmall 16 = .ok (.iconst 0, 1) := dk_3 hN_cX11_isSmall rfl rfl
theorem dX11_isSmall_17 : decode cX11_isSmall 17 = .ok (.ireturn, 1) := dk_172 hN_cX11_isSmall rfl rfl
theorem dX11_isSmall_6 : decode cX11_isSmall 6 = .ok (.iload_n 0, 1) := dk_26 hN_cX11_isSmall rfl rfl
theorem dX11_isSmall_7 : decode cX11_isSmall 7 = .ok (.bipush 122, 2) := dk_16 hN_cX11_isSmall rfl rfl rfl
theorem dX11_isSmall_9 : decode cX11_isSmall 9 = .ok (.if_icmp .gt 7, 3) := dk_163 hN_cX11_isSmall rfl rfl rfl
theorem dX11_isSmall_12 : decode cX11_isSmall 12 = .ok (.iconst 1, 1) := dk_4 hN_cX11_isSmall rfl rfl
theorem dX11_isSmall_13 : decode cX11_isSmall 13 = .ok (.goto 4, 3) := dk_167 hN_cX11_isSmall rfl rfl rfl
theorem dX11_isDigit_0 : decode cX11_isDigit 0 = .ok (.iload_n 0, 1) := dk_26 hN_cX11_isDigit rfl rfl
theorem dX11_isDigit_1 : decode cX11_isDigit 1 = .ok (.bipush 48, 2) := dk_16 hN_cX11_isDigit rfl rfl rfl
theorem dX11_isDigit_3 : decode cX11_isDigit 3 = .ok (.if_icmp .lt 13, 3) := dk_161 hN_cX11_isDigit rfl rfl rfl
theorem dX11_isDigit_16 : decode cX11_isDigit 16 = .ok (.iconst 0, 1) := dk_3 hN_cX11_isDigit rfl rfl
theorem dX11_isDigit_17 : decode cX11_isDigit 17 = .ok (.ireturn, 1) := dk_172 hN_cX11_isDigit rfl rfl
theorem dX11_isDigit_6 : decode cX11_isDigit 6 = .ok (.iload_n 0, 1) := dk_26 hN_cX11_isDigit rfl rfl
theorem dX11_isDigit_7 : decode cX11_isDigit 7 = .ok (.bipush 57, 2) := dk_16 hN_cX11_isDigit rfl rfl rfl
theorem dX11_isDigit_9 : decode cX11_isDigit 9 = .ok (.if_icmp .gt 7, 3) := dk_163 hN_cX11_isDigit rfl rfl rfl
theorem dX11_isDigit_12 : decode cX11_isDigit 12 = .ok (.iconst 1, 1) := dk_4 hN_cX11_isDigit rfl rfl
theorem dX11_isDigit_13 : decode cX11_isDigit 13 = .ok (.goto 4, 3) := dk_167 hN_cX11_isDigit rfl rfl rfl
theorem dX11_next_0 : decode cX11_next 0 = .ok (.aload_n 0, 1) := dk_42 hN_cX11_next rfl rfl
theorem dX11_next_1 : decode cX11_next 1 = .ok (.getfield 81, 3) := dk_180 hN_cX11_next rfl rfl rfl
theorem dX11_next_4 : decode cX11_next 4 = .ok (.istore_n 1, 1) := dk_60 hN_cX11_next rfl rfl
theorem dX11_next_5 : decode cX11_next 5 = .ok (.aload_n 0, 1) := dk_42 hN_cX11_next rfl rfl
theorem dX11_next_6 : decode cX11_next 6 = .ok (.iload_n 1, 1) := dk_27 hN_cX11_next rfl rfl
theorem dX11_next_7 : decode cX11_next 7 = .ok (.invokevirtual 84, 3) := dk_182 hN_cX11_next rfl rfl rfl
theorem dX11_next_10 : decode cX11_next 10 = .ok (.bipush 32, 2) := dk_16 hN_cX11_next rfl rfl rfl
theorem dX11_next_12 : decode cX11_next 12 = .ok (.if_icmp .ne 9, 3) := dk_160 hN_cX11_next rfl rfl rfl
theorem dX11_next_21 : decode cX11_next 21 = .ok (.aload_n 0, 1) := dk_42 hN_cX11_next rfl rfl
theorem dX11_next_22 : decode cX11_next 22 = .ok (.iload_n 1, 1) := dk_27 hN_cX11_next rfl rfl
theorem dX11_next_23 : decode cX11_next 23 = .ok (.putfield 88, 3) := dk_181 hN_cX11_next rfl rfl rfl
theorem dX11_next_26 : decode cX11_next 26 = .ok (.aload_n 0, 1) := dk_42 hN_cX11_next rfl rfl
theorem dX11_next_27 : decode cX11_next 27 = .ok (.iload_n 1, 1) := dk_27 hN_cX11_next rfl rfl
theorem dX11_next_28 : decode cX11_next 28 = .ok (.invokevirtual 84, 3) := dk_182 hN_cX11_next rfl rfl rfl
theorem dX11_next_31 : decode cX11_next 31 = .ok (.istore_n 2, 1) := dk_61 hN_cX11_next rfl rfl
theorem dX11_next_32 : decode cX11_next 32 = .ok (.aload_n 0, 1) := dk_42 hN_cX11_next rfl rfl
theorem dX11_next_33 : decode cX11_next 33 = .ok (.iconst 0, 1) := dk_3 hN_cX11_next rfl rfl
theorem dX11_next_34 : decode cX11_next 34 = .ok (.putfield 91, 3) := dk_181 hN_cX11_next rfl rfl rfl
theorem dX11_next_37 : decode cX11_next 37 = .ok (.aload_n 0, 1) := dk_42 hN_cX11_next rfl rfl
theorem dX11_next_38 : decode cX11_next 38 = .ok (.iconst 0, 1) := dk_3 hN_cX11_next rfl rfl
theorem dX11_next_39 : decode cX11_next 39 = .ok (.putfield 94, 3) := dk_181 hN_cX11_next rfl rfl rfl
theorem dX11_next_42 : decode cX11_next 42 = .ok (.iload_n 2, 1) := dk_28 hN_cX11_next rfl rfl
theorem dX11_next_43 : decode cX11_next 43 = .ok (.iconst (-1), 1) := dk_2 hN_cX11_next rfl rfl
theorem dX11_next_44 : decode cX11_next 44 = .ok (.if_icmp .ne 16, 3) := dk_160 hN_cX11_next rfl rfl rfl
theorem dX11_next_60 : decode cX11_next 60 = .ok (.iload_n 2, 1) := dk_28 hN_cX11_next rfl rfl
theorem dX11_next_61 : decode cX11_next 61 = .ok (.invokestatic 100, 3) := dk_184 hN_cX11_next rfl rfl rfl
theorem dX11_next_64 : decode cX11_next 64 = .ok (.ifCond .eq 79, 3) := dk_153 hN_cX11_next rfl rfl rfl
theorem dX11_next_143 : decode cX11_next 143 = .ok (.iload_n 2, 1) := dk_28 hN_cX11_next rfl rfl
theorem dX11_next_144 : decode cX11_next 144 = .ok (.invokestatic 104, 3) := dk_184 hN_cX11_next rfl rfl rfl
theorem dX11_next_147 : decode cX11_next 147 = .ok (.ifCond .eq 72, 3) := dk_153 hN_cX11_next rfl rfl rfl
theorem dX11_next_219 : decode cX11_next 219 = .ok (.aload_n 0, 1) := dk_42 hN_cX11_next rfl rfl
theorem dX11_next_220 : decode cX11_next 220 = .ok (.iload_n 1, 1) := dk_27 hN_cX11_next rfl rfl
theorem dX11_next_221 : decode cX11_next 221 = .ok (.iconst 1, 1) := dk_4 hN_cX11_next rfl rfl
theorem dX11_next_222 : decode cX11_next 222 = .ok (.iadd, 1) := dk_96 hN_cX11_next rfl rfl
theorem dX11_next_223 : decode cX11_next 223 = .ok (.putfield 81, 3) := dk_181 hN_cX11_next rfl rfl rfl
theorem dX11_next_226 : decode cX11_next 226 = .ok (.aload_n 0, 1) := dk_42 hN_cX11_next rfl rfl
theorem dX11_next_227 : decode cX11_next 227 = .ok (.iload_n 2, 1) := dk_28 hN_cX11_next rfl rfl
theorem dX11_next_228 : decode cX11_next 228 = .ok (.bipush 59, 2) := dk_16 hN_cX11_next rfl rfl rfl
theorem dX11_next_230 : decode cX11_next 230 = .ok (.if_icmp .eq 15, 3) := dk_159 hN_cX11_next rfl rfl rfl
theorem dX11_next_245 : decode cX11_next 245 = .ok (.iload_n 2, 1) := dk_28 hN_cX11_next rfl rfl
theorem dX11_next_246 : decode cX11_next 246 = .ok (.goto 4, 3) := dk_167 hN_cX11_next rfl rfl rfl
theorem dX11_next_250 : decode cX11_next 250 = .ok (.putfield 97, 3) := dk_181 hN_cX11_next rfl rfl rfl
theorem dX11_next_253 : decode cX11_next 253 = .ok (.return_, 1) := dk_177 hN_cX11_next rfl rfl
theorem dX11_next_233 : decode cX11_next 233 = .ok (.iload_n 2, 1) := dk_28 hN_cX11_next rfl rfl
theorem dX11_next_234 : decode cX11_next 234 = .ok (.bipush 44, 2) := dk_16 hN_cX11_next rfl rfl rfl
theorem dX11_next_236 : decode cX11_next 236 = .ok (.if_icmp .eq 9, 3) := dk_159 hN_cX11_next rfl rfl rfl
theorem dX11_next_239 : decode cX11_next 239 = .ok (.iload_n 2, 1) := dk_28 hN_cX11_next rfl rfl
theorem dX11_next_240 : decode cX11_next 240 = .ok (.bipush 45, 2) := dk_16 hN_cX11_next rfl rfl rfl
theorem dX11_next_242 : decode cX11_next 242 = .ok (.if_icmp .ne 7, 3) := dk_160 hN_cX11_next rfl rfl rfl
theorem dX11_next_249 : decode cX11_next 249 = .ok (.iconst 1, 1) := dk_4 hN_cX11_next rfl rfl
theorem dX11_next_150 : decode cX11_next 150 = .ok (.iconst 0, 1) := dk_3 hN_cX11_next rfl rfl
theorem dX11_next_151 : decode cX11_next 151 = .ok (.istore_n 3, 1) := dk_62 hN_cX11_next rfl rfl
theorem dX11_next_47 : decode cX11_next 47 = .ok (.aload_n 0, 1) := dk_42 hN_cX11_next rfl rfl
theorem dX11_next_48 : decode cX11_next 48 = .ok (.iconst 0, 1) := dk_3 hN_cX11_next rfl rfl
theorem dX11_next_49 : decode cX11_next 49 = .ok (.putfield 97, 3) := dk_181 hN_cX11_next rfl rfl rfl
theorem dX11_next_52 : decode cX11_next 52 = .ok (.aload_n 0, 1) := dk_42 hN_cX11_next rfl rfl
theorem dX11_next_53 : decode cX11_next 53 = .ok (.iload_n 1, 1) := dk_27 hN_cX11_next rfl rfl
theorem dX11_next_54 : decode cX11_next 54 = .ok (.putfield 81, 3) := dk_181 hN_cX11_next rfl rfl rfl
theorem dX11_next_57 : decode cX11_next 57 = .ok (.goto 196, 3) := dk_167 hN_cX11_next rfl rfl rfl
theorem dX11_next_15 : decode cX11_next 15 = .ok (.iinc 1 1, 3) := dk_132 hN_cX11_next rfl rfl rfl rfl
theorem dX11_next_18 : decode cX11_next 18 = .ok (.goto (-13), 3) := dk_167 hN_cX11_next rfl rfl rfl
theorem dX11_next_67 : decode cX11_next 67 = .ok (.aload_n 0, 1) := dk_42 hN_cX11_next rfl rfl
theorem dX11_next_68 : decode cX11_next 68 = .ok (.iload_n 1, 1) := dk_27 hN_cX11_next rfl rfl
theorem dX11_next_69 : decode cX11_next 69 = .ok (.invokevirtual 84, 3) := dk_182 hN_cX11_next rfl rfl rfl
theorem dX11_next_72 : decode cX11_next 72 = .ok (.invokestatic 100, 3) := dk_184 hN_cX11_next rfl rfl rfl
theorem dX11_next_75 : decode cX11_next 75 = .ok (.ifCond .eq 42, 3) := dk_153 hN_cX11_next rfl rfl rfl
theorem dX11_next_117 : decode cX11_next 117 = .ok (.aload_n 0, 1) := dk_42 hN_cX11_next rfl rfl
theorem dX11_next_118 : decode cX11_next 118 = .ok (.iload_n 1, 1) := dk_27 hN_cX11_next rfl rfl
theorem dX11_next_119 : decode cX11_next 119 = .ok (.putfield 81, 3) := dk_181 hN_cX11_next rfl rfl rfl
theorem dX11_next_122 : decode cX11_next 122 = .ok (.aload_n 0, 1) := dk_42 hN_cX11_next rfl rfl
theorem dX11_next_123 : decode cX11_next 123 = .ok (.aload_n 0, 1) := dk_42 hN_cX11_next rfl rfl
theorem dX11_next_124 : decode cX11_next 124 = .ok (.getfield 91, 3) := dk_180 hN_cX11_next rfl rfl rfl
theorem dX11_next_127 : decode cX11_next 127 = .ok (.bipush 8, 2) := dk_16 hN_cX11_next rfl rfl rfl
theorem dX11_next_129 : decode cX11_next 129 = .ok (.if_icmp .le 7, 3) := dk_164 hN_cX11_next rfl rfl rfl
theorem dX11_next_136 : decode cX11_next 136 = .ok (.iconst 2, 1) := dk_5 hN_cX11_next rfl rfl
theorem dX11_next_137 : decode cX11_next 137 = .ok (.putfield 97, 3) := dk_181 hN_cX11_next rfl rfl rfl
theorem dX11_next_140 : decode cX11_next 140 = .ok (.goto 113, 3) := dk_167 hN_cX11_next rfl rfl rfl
theorem dX11_next_132 : decode cX11_next 132 = .ok (.iconst 1, 1) := dk_4 hN_cX11_next rfl rfl
theorem dX11_next_133 : decode cX11_next 133 = .ok (.goto 4, 3) := dk_167 hN_cX11_next rfl rfl rfl
theorem dX11_next_78 : decode cX11_next 78 = .ok (.aload_n 0, 1) := dk_42 hN_cX11_next rfl rfl
theorem dX11_next_79 : decode cX11_next 79 = .ok (.getfield 91, 3) := dk_180 hN_cX11_next rfl rfl rfl
theorem dX11_next_82 : decode cX11_next 82 = .ok (.bipush 8, 2) := dk_16 hN_cX11_next rfl rfl rfl
theorem dX11_next_84 : decode cX11_next 84 = .ok (.if_icmp .ge 17, 3) := dk_162 hN_cX11_next rfl rfl rfl
theorem dX11_next_101 : decode cX11_next 101 = .ok (.aload_n 0, 1) := dk_42 hN_cX11_next rfl rfl
theorem dX11_next_102 : decode cX11_next 102 = .ok (.dup, 1) := dk_89 hN_cX11_next rfl rfl
theorem dX11_next_103 : decode cX11_next 103 = .ok (.getfield 91, 3) := dk_180 hN_cX11_next rfl rfl rfl
theorem dX11_next_106 : decode cX11_next 106 = .ok (.iconst 1, 1) := dk_4 hN_cX11_next rfl rfl
theorem dX11_next_107 : decode cX11_next 107 = .ok (.iadd, 1) := dk_96 hN_cX11_next rfl rfl
theorem dX11_next_108 : decode cX11_next 108 = .ok (.putfield 91, 3) := dk_181 hN_cX11_next rfl rfl rfl
theorem dX11_next_111 : decode cX11_next 111 = .ok (.iinc 1 1, 3) := dk_132 hN_cX11_next rfl rfl rfl rfl
theorem dX11_next_114 : decode cX11_next 114 = .ok (.goto (-47), 3) := dk_167 hN_cX11_next rfl rfl rfl
theorem dX11_next_87 : decode cX11_next 87 = .ok (.aload_n 0, 1) := dk_42 hN_cX11_next rfl rfl
theorem dX11_next_88 : decode cX11_next 88 = .ok (.getfield 17, 3) := dk_180 hN_cX11_next rfl rfl rfl
theorem dX11_next_91 : decode cX11_next 91 = .ok (.aload_n 0, 1) := dk_42 hN_cX11_next rfl rfl
theorem dX11_next_92 : decode cX11_next 92 = .ok (.getfield 91, 3) := dk_180 hN_cX11_next rfl rfl rfl
theorem dX11_next_95 : decode cX11_next 95 = .ok (.aload_n 0, 1) := dk_42 hN_cX11_next rfl rfl
theorem dX11_next_96 : decode cX11_next 96 = .ok (.iload_n 1, 1) := dk_27 hN_cX11_next rfl rfl
theorem dX11_next_97 : decode cX11_next 97 = .ok (.invokevirtual 84, 3) := dk_182 hN_cX11_next rfl rfl rfl
theorem dX11_next_100 : decode cX11_next 100 = .ok (.iastore, 1) := dk_79 hN_cX11_next rfl rfl
theorem dX11_next_152 : decode cX11_next 152 = .ok (.aload_n 0, 1) := dk_42 hN_cX11_next rfl rfl
theorem dX11_next_153 : decode cX11_next 153 = .ok (.iload_n 1, 1) := dk_27 hN_cX11_next rfl rfl
theorem dX11_next_154 : decode cX11_next 154 = .ok (.invokevirtual 84, 3) := dk_182 hN_cX11_next rfl rfl rfl
theorem dX11_next_157 : decode cX11_next 157 = .ok (.invokestatic 104, 3) := dk_184 hN_cX11_next rfl rfl rfl
theorem dX11_next_160 : decode cX11_next 160 = .ok (.ifCond .eq 37, 3) := dk_153 hN_cX11_next rfl rfl rfl
theorem dX11_next_197 : decode cX11_next 197 = .ok (.aload_n 0, 1) := dk_42 hN_cX11_next rfl rfl
theorem dX11_next_198 : decode cX11_next 198 = .ok (.iload_n 1, 1) := dk_27 hN_cX11_next rfl rfl
theorem dX11_next_199 : decode cX11_next 199 = .ok (.putfield 81, 3) := dk_181 hN_cX11_next rfl rfl rfl
theorem dX11_next_202 : decode cX11_next 202 = .ok (.aload_n 0, 1) := dk_42 hN_cX11_next rfl rfl
theorem dX11_next_203 : decode cX11_next 203 = .ok (.iload_n 3, 1) := dk_29 hN_cX11_next rfl rfl
theorem dX11_next_204 : decode cX11_next 204 = .ok (.iconst 3, 1) := dk_6 hN_cX11_next rfl rfl
theorem dX11_next_205 : decode cX11_next 205 = .ok (.if_icmp .le 7, 3) := dk_164 hN_cX11_next rfl rfl rfl
theorem dX11_next_212 : decode cX11_next 212 = .ok (.iconst 3, 1) := dk_6 hN_cX11_next rfl rfl
theorem dX11_next_213 : decode cX11_next 213 = .ok (.putfield 97, 3) := dk_181 hN_cX11_next rfl rfl rfl
theorem dX11_next_216 : decode cX11_next 216 = .ok (.goto 37, 3) := dk_167 hN_cX11_next rfl rfl rfl
theorem dX11_next_208 : decode cX11_next 208 = .ok (.iconst 1, 1) := dk_4 hN_cX11_next rfl rfl
theorem dX11_next_209 : decode cX11_next 209 = .ok (.goto 4, 3) := dk_167 hN_cX11_next rfl rfl rfl
theorem dX11_next_163 : decode cX11_next 163 = .ok (.iload_n 3, 1) := dk_29 hN_cX11_next rfl rfl
theorem dX11_next_164 : decode cX11_next 164 = .ok (.iconst 3, 1) := dk_6 hN_cX11_next rfl rfl
theorem dX11_next_165 : decode cX11_next 165 = .ok (.if_icmp .ge 23, 3) := dk_162 hN_cX11_next rfl rfl rfl
theorem dX11_next_188 : decode cX11_next 188 = .ok (.iinc 3 1, 3) := dk_132 hN_cX11_next rfl rfl rfl rfl
theorem dX11_next_191 : decode cX11_next 191 = .ok (.iinc 1 1, 3) := dk_132 hN_cX11_next rfl rfl rfl rfl
theorem dX11_next_194 : decode cX11_next 194 = .ok (.goto (-42), 3) := dk_167 hN_cX11_next rfl rfl rfl
theorem dX11_next_168 : decode cX11_next 168 = .ok (.aload_n 0, 1) := dk_42 hN_cX11_next rfl rfl
theorem dX11_next_169 : decode cX11_next 169 = .ok (.bipush 10, 2) := dk_16 hN_cX11_next rfl rfl rfl
theorem dX11_next_171 : decode cX11_next 171 = .ok (.aload_n 0, 1) := dk_42 hN_cX11_next rfl rfl
theorem dX11_next_172 : decode cX11_next 172 = .ok (.getfield 94, 3) := dk_180 hN_cX11_next rfl rfl rfl
theorem dX11_next_175 : decode cX11_next 175 = .ok (.imul, 1) := dk_104 hN_cX11_next rfl rfl
theorem dX11_next_176 : decode cX11_next 176 = .ok (.aload_n 0, 1) := dk_42 hN_cX11_next rfl rfl
theorem dX11_next_177 : decode cX11_next 177 = .ok (.iload_n 1, 1) := dk_27 hN_cX11_next rfl rfl
theorem dX11_next_178 : decode cX11_next 178 = .ok (.invokevirtual 84, 3) := dk_182 hN_cX11_next rfl rfl rfl
theorem dX11_next_181 : decode cX11_next 181 = .ok (.iadd, 1) := dk_96 hN_cX11_next rfl rfl
theorem dX11_next_182 : decode cX11_next 182 = .ok (.bipush 48, 2) := dk_16 hN_cX11_next rfl rfl rfl
theorem dX11_next_184 : decode cX11_next 184 = .ok (.isub, 1) := dk_100 hN_cX11_next rfl rfl
theorem dX11_next_185 : decode cX11_next 185 = .ok (.putfield 94, 3) := dk_181 hN_cX11_next rfl rfl rfl
theorem dX11_wrong_0 : decode cX11_wrong 0 = .ok (.aload_n 0, 1) := dk_42 hN_cX11_wrong rfl rfl
theorem dX11_wrong_1 : decode cX11_wrong 1 = .ok (.getfield 107, 3) := dk_180 hN_cX11_wrong rfl rfl rfl
theorem dX11_wrong_4 : decode cX11_wrong 4 = .ok (.ifCond .eq 4, 3) := dk_153 hN_cX11_wrong rfl rfl rfl
theorem dX11_wrong_8 : decode cX11_wrong 8 = .ok (.aload_n 0, 1) := dk_42 hN_cX11_wrong rfl rfl
theorem dX11_wrong_9 : decode cX11_wrong 9 = .ok (.iconst 1, 1) := dk_4 hN_cX11_wrong rfl rfl
theorem dX11_wrong_10 : decode cX11_wrong 10 = .ok (.putfield 107, 3) := dk_181 hN_cX11_wrong rfl rfl rfl
theorem dX11_wrong_13 : decode cX11_wrong 13 = .ok (.aload_n 0, 1) := dk_42 hN_cX11_wrong rfl rfl
theorem dX11_wrong_14 : decode cX11_wrong 14 = .ok (.iload_n 1, 1) := dk_27 hN_cX11_wrong rfl rfl
theorem dX11_wrong_15 : decode cX11_wrong 15 = .ok (.putfield 111, 3) := dk_181 hN_cX11_wrong rfl rfl rfl
theorem dX11_wrong_18 : decode cX11_wrong 18 = .ok (.aload_n 0, 1) := dk_42 hN_cX11_wrong rfl rfl
theorem dX11_wrong_19 : decode cX11_wrong 19 = .ok (.iload_n 2, 1) := dk_28 hN_cX11_wrong rfl rfl
theorem dX11_wrong_20 : decode cX11_wrong 20 = .ok (.putfield 13, 3) := dk_181 hN_cX11_wrong rfl rfl rfl
theorem dX11_wrong_23 : decode cX11_wrong 23 = .ok (.return_, 1) := dk_177 hN_cX11_wrong rfl rfl
theorem dX11_wrong_7 : decode cX11_wrong 7 = .ok (.return_, 1) := dk_177 hN_cX11_wrong rfl rfl
theorem dX11_isWord_0 : decode cX11_isWord 0 = .ok (.aload_n 0, 1) := dk_42 hN_cX11_isWord rfl rfl
theorem dX11_isWord_1 : decode cX11_isWord 1 = .ok (.getfield 107, 3) := dk_180 hN_cX11_isWord rfl rfl rfl
theorem dX11_isWord_4 : decode cX11_isWord 4 = .ok (.ifCond .ne 22, 3) := dk_154 hN_cX11_isWord rfl rfl rfl
theorem dX11_isWord_26 : decode cX11_isWord 26 = .ok (.iconst 0, 1) := dk_3 hN_cX11_isWord rfl rfl
theorem dX11_isWord_27 : decode cX11_isWord 27 = .ok (.ireturn, 1) := dk_172 hN_cX11_isWord rfl rfl
theorem dX11_isWord_7 : decode cX11_isWord 7 = .ok (.aload_n 0, 1) := dk_42 hN_cX11_isWord rfl rfl
theorem dX11_isWord_8 : decode cX11_isWord 8 = .ok (.getfield 97, 3) := dk_180 hN_cX11_isWord rfl rfl rfl
theorem dX11_isWord_11 : decode cX11_isWord 11 = .ok (.iconst 2, 1) := dk_5 hN_cX11_isWord rfl rfl
theorem dX11_isWord_12 : decode cX11_isWord 12 = .ok (.if_icmp .ne 14, 3) := dk_160 hN_cX11_isWord rfl rfl rfl
theorem dX11_isWord_15 : decode cX11_isWord 15 = .ok (.aload_n 0, 1) := dk_42 hN_cX11_isWord rfl rfl
theorem dX11_isWord_16 : decode cX11_isWord 16 = .ok (.getfield 91, 3) := dk_180 hN_cX11_isWord rfl rfl rfl
theorem dX11_isWord_19 : decode cX11_isWord 19 = .ok (.aload_n 1, 1) := dk_43 hN_cX11_isWord rfl rfl
theorem dX11_isWord_20 : decode cX11_isWord 20 = .ok (.invokevirtual 114, 3) := dk_182 hN_cX11_isWord rfl rfl rfl
theorem dX11_isWord_23 : decode cX11_isWord 23 = .ok (.if_icmp .eq 5, 3) := dk_159 hN_cX11_isWord rfl rfl rfl
theorem dX11_isWord_28 : decode cX11_isWord 28 = .ok (.iconst 1, 1) := dk_4 hN_cX11_isWord rfl rfl
theorem dX11_isWord_29 : decode cX11_isWord 29 = .ok (.istore_n 2, 1) := dk_61 hN_cX11_isWord rfl rfl
theorem dX11_isWord_30 : decode cX11_isWord 30 = .ok (.iconst 0, 1) := dk_3 hN_cX11_isWord rfl rfl
theorem dX11_isWord_31 : decode cX11_isWord 31 = .ok (.istore_n 3, 1) := dk_62 hN_cX11_isWord rfl rfl
theorem dX11_isWord_32 : decode cX11_isWord 32 = .ok (.iload_n 3, 1) := dk_29 hN_cX11_isWord rfl rfl
theorem dX11_isWord_33 : decode cX11_isWord 33 = .ok (.aload_n 0, 1) := dk_42 hN_cX11_isWord rfl rfl
theorem dX11_isWord_34 : decode cX11_isWord 34 = .ok (.getfield 91, 3) := dk_180 hN_cX11_isWord rfl rfl rfl
theorem dX11_isWord_37 : decode cX11_isWord 37 = .ok (.if_icmp .ge 33, 3) := dk_162 hN_cX11_isWord rfl rfl rfl
theorem dX11_isWord_70 : decode cX11_isWord 70 = .ok (.iload_n 2, 1) := dk_28 hN_cX11_isWord rfl rfl
theorem dX11_isWord_71 : decode cX11_isWord 71 = .ok (.ireturn, 1) := dk_172 hN_cX11_isWord rfl rfl
theorem dX11_isWord_40 : decode cX11_isWord 40 = .ok (.iload_n 2, 1) := dk_28 hN_cX11_isWord rfl rfl
theorem dX11_isWord_41 : decode cX11_isWord 41 = .ok (.ifCond .eq 21, 3) := dk_153 hN_cX11_isWord rfl rfl rfl
theorem dX11_isWord_62 : decode cX11_isWord 62 = .ok (.iconst 0, 1) := dk_3 hN_cX11_isWord rfl rfl
theorem dX11_isWord_63 : decode cX11_isWord 63 = .ok (.istore_n 2, 1) := dk_61 hN_cX11_isWord rfl rfl
theorem dX11_isWord_64 : decode cX11_isWord 64 = .ok (.iinc 3 1, 3) := dk_132 hN_cX11_isWord rfl rfl rfl rfl
theorem dX11_isWord_67 : decode cX11_isWord 67 = .ok (.goto (-35), 3) := dk_167 hN_cX11_isWord rfl rfl rfl
theorem dX11_isWord_44 : decode cX11_isWord 44 = .ok (.aload_n 0, 1) := dk_42 hN_cX11_isWord rfl rfl
theorem dX11_isWord_45 : decode cX11_isWord 45 = .ok (.getfield 17, 3) := dk_180 hN_cX11_isWord rfl rfl rfl
theorem dX11_isWord_48 : decode cX11_isWord 48 = .ok (.iload_n 3, 1) := dk_29 hN_cX11_isWord rfl rfl
theorem dX11_isWord_49 : decode cX11_isWord 49 = .ok (.iaload, 1) := dk_46 hN_cX11_isWord rfl rfl
theorem dX11_isWord_50 : decode cX11_isWord 50 = .ok (.aload_n 1, 1) := dk_43 hN_cX11_isWord rfl rfl
theorem dX11_isWord_51 : decode cX11_isWord 51 = .ok (.iload_n 3, 1) := dk_29 hN_cX11_isWord rfl rfl
theorem dX11_isWord_52 : decode cX11_isWord 52 = .ok (.invokevirtual 120, 3) := dk_182 hN_cX11_isWord rfl rfl rfl
theorem dX11_isWord_55 : decode cX11_isWord 55 = .ok (.if_icmp .ne 7, 3) := dk_160 hN_cX11_isWord rfl rfl rfl
theorem dX11_isWord_58 : decode cX11_isWord 58 = .ok (.iconst 1, 1) := dk_4 hN_cX11_isWord rfl rfl
theorem dX11_isWord_59 : decode cX11_isWord 59 = .ok (.goto 4, 3) := dk_167 hN_cX11_isWord rfl rfl rfl
theorem dX11_takes_0 : decode cX11_takes 0 = .ok (.aload_n 0, 1) := dk_42 hN_cX11_takes rfl rfl
theorem dX11_takes_1 : decode cX11_takes 1 = .ok (.aload_n 1, 1) := dk_43 hN_cX11_takes rfl rfl
theorem dX11_takes_2 : decode cX11_takes 2 = .ok (.invokevirtual 124, 3) := dk_182 hN_cX11_takes rfl rfl rfl
theorem dX11_takes_5 : decode cX11_takes 5 = .ok (.ifCond .ne 5, 3) := dk_154 hN_cX11_takes rfl rfl rfl
theorem dX11_takes_10 : decode cX11_takes 10 = .ok (.aload_n 0, 1) := dk_42 hN_cX11_takes rfl rfl
theorem dX11_takes_11 : decode cX11_takes 11 = .ok (.invokevirtual 128, 3) := dk_182 hN_cX11_takes rfl rfl rfl
theorem dX11_takes_14 : decode cX11_takes 14 = .ok (.iconst 1, 1) := dk_4 hN_cX11_takes rfl rfl
theorem dX11_takes_15 : decode cX11_takes 15 = .ok (.ireturn, 1) := dk_172 hN_cX11_takes rfl rfl
theorem dX11_takes_8 : decode cX11_takes 8 = .ok (.iconst 0, 1) := dk_3 hN_cX11_takes rfl rfl
theorem dX11_takes_9 : decode cX11_takes 9 = .ok (.ireturn, 1) := dk_172 hN_cX11_takes rfl rfl
theorem dX11_pass_0 : decode cX11_pass 0 = .ok (.aload_n 0, 1) := dk_42 hN_cX11_pass rfl rfl
theorem dX11_pass_1 : decode cX11_pass 1 = .ok (.getfield 107, 3) := dk_180 hN_cX11_pass rfl rfl rfl
theorem dX11_pass_4 : decode cX11_pass 4 = .ok (.ifCond .ne 20, 3) := dk_154 hN_cX11_pass rfl rfl rfl
theorem dX11_pass_24 : decode cX11_pass 24 = .ok (.return_, 1) := dk_177 hN_cX11_pass rfl rfl
theorem dX11_pass_7 : decode cX11_pass 7 = .ok (.aload_n 0, 1) := dk_42 hN_cX11_pass rfl rfl
theorem dX11_pass_8 : decode cX11_pass 8 = .ok (.aload_n 1, 1) := dk_43 hN_cX11_pass rfl rfl
theorem dX11_pass_9 : decode cX11_pass 9 = .ok (.invokevirtual 131, 3) := dk_182 hN_cX11_pass rfl rfl rfl
theorem dX11_pass_12 : decode cX11_pass 12 = .ok (.ifCond .ne 12, 3) := dk_154 hN_cX11_pass rfl rfl rfl
theorem dX11_pass_15 : decode cX11_pass 15 = .ok (.aload_n 0, 1) := dk_42 hN_cX11_pass rfl rfl
theorem dX11_pass_16 : decode cX11_pass 16 = .ok (.iconst 1, 1) := dk_4 hN_cX11_pass rfl rfl
theorem dX11_pass_17 : decode cX11_pass 17 = .ok (.aload_n 0, 1) := dk_42 hN_cX11_pass rfl rfl
theorem dX11_pass_18 : decode cX11_pass 18 = .ok (.getfield 88, 3) := dk_180 hN_cX11_pass rfl rfl rfl
theorem dX11_pass_21 : decode cX11_pass 21 = .ok (.invokevirtual 134, 3) := dk_182 hN_cX11_pass rfl rfl rfl
theorem dX11_mustName_0 : decode cX11_mustName 0 = .ok (.aload_n 0, 1) := dk_42 hN_cX11_mustName rfl rfl
theorem dX11_mustName_1 : decode cX11_mustName 1 = .ok (.ldc 138, 2) := dk_18 hN_cX11_mustName rfl rfl rfl
theorem dX11_mustName_3 : decode cX11_mustName 3 = .ok (.invokevirtual 124, 3) := dk_182 hN_cX11_mustName rfl rfl rfl
theorem dX11_mustName_6 : decode cX11_mustName 6 = .ok (.ifCond .ne 57, 3) := dk_154 hN_cX11_mustName rfl rfl rfl
theorem dX11_mustName_63 : decode cX11_mustName 63 = .ok (.iconst 1, 1) := dk_4 hN_cX11_mustName rfl rfl
theorem dX11_mustName_64 : decode cX11_mustName 64 = .ok (.goto 4, 3) := dk_167 hN_cX11_mustName rfl rfl rfl
theorem dX11_mustName_68 : decode cX11_mustName 68 = .ok (.istore_n 1, 1) := dk_60 hN_cX11_mustName rfl rfl
theorem dX11_mustName_69 : decode cX11_mustName 69 = .ok (.aload_n 0, 1) := dk_42 hN_cX11_mustName rfl rfl
theorem dX11_mustName_70 : decode cX11_mustName 70 = .ok (.getfield 97, 3) := dk_180 hN_cX11_mustName rfl rfl rfl
theorem dX11_mustName_73 : decode cX11_mustName 73 = .ok (.iconst 2, 1) := dk_5 hN_cX11_mustName rfl rfl
theorem dX11_mustName_74 : decode cX11_mustName 74 = .ok (.if_icmp .ne 7, 3) := dk_160 hN_cX11_mustName rfl rfl rfl
theorem dX11_mustName_81 : decode cX11_mustName 81 = .ok (.aload_n 0, 1) := dk_42 hN_cX11_mustName rfl rfl
theorem dX11_mustName_82 : decode cX11_mustName 82 = .ok (.iconst 1, 1) := dk_4 hN_cX11_mustName rfl rfl
theorem dX11_mustName_83 : decode cX11_mustName 83 = .ok (.aload_n 0, 1) := dk_42 hN_cX11_mustName rfl rfl
theorem dX11_mustName_84 : decode cX11_mustName 84 = .ok (.getfield 88, 3) := dk_180 hN_cX11_mustName rfl rfl rfl
theorem dX11_mustName_87 : decode cX11_mustName 87 = .ok (.invokevirtual 134, 3) := dk_182 hN_cX11_mustName rfl rfl rfl
theorem dX11_mustName_90 : decode cX11_mustName 90 = .ok (.return_, 1) := dk_177 hN_cX11_mustName rfl rfl
theorem dX11_mustName_77 : decode cX11_mustName 77 = .ok (.iload_n 1, 1) := dk_27 hN_cX11_mustName rfl rfl
theorem dX11_mustName_78 : decode cX11_mustName 78 = .ok (.ifCond .eq 12, 3) := dk_153 hN_cX11_mustName rfl rfl rfl
theorem dX11_mustName_9 : decode cX11_mustName 9 = .ok (.aload_n 0, 1) := dk_42 hN_cX11_mustName rfl rfl
theorem dX11_mustName_10 : decode cX11_mustName 10 = .ok (.ldc 140, 2) := dk_18 hN_cX11_mustName rfl rfl rfl
theorem dX11_mustName_12 : decode cX11_mustName 12 = .ok (.invokevirtual 124, 3) := dk_182 hN_cX11_mustName rfl rfl rfl
theorem dX11_mustName_15 : decode cX11_mustName 15 = .ok (.ifCond .ne 48, 3) := dk_154 hN_cX11_mustName rfl rfl rfl
theorem dX11_mustName_18 : decode cX11_mustName 18 = .ok (.aload_n 0, 1) := dk_42 hN_cX11_mustName rfl rfl
theorem dX11_mustName_19 : decode cX11_mustName 19 = .ok (.ldc 142, 2) := dk_18 hN_cX11_mustName rfl rfl rfl
theorem dX11_mustName_21 : decode cX11_mustName 21 = .ok (.invokevirtual 124, 3) := dk_182 hN_cX11_mustName rfl rfl rfl
theorem dX11_mustName_24 : decode cX11_mustName 24 = .ok (.ifCond .ne 39, 3) := dk_154 hN_cX11_mustName rfl rfl rfl
theorem dX11_mustName_27 : decode cX11_mustName 27 = .ok (.aload_n 0, 1) := dk_42 hN_cX11_mustName rfl rfl
theorem dX11_mustName_28 : decode cX11_mustName 28 = .ok (.ldc 144, 2) := dk_18 hN_cX11_mustName rfl rfl rfl
theorem dX11_mustName_30 : decode cX11_mustName 30 = .ok (.invokevirtual 124, 3) := dk_182 hN_cX11_mustName rfl rfl rfl
theorem dX11_mustName_33 : decode cX11_mustName 33 = .ok (.ifCond .ne 30, 3) := dk_154 hN_cX11_mustName rfl rfl rfl
theorem dX11_mustName_36 : decode cX11_mustName 36 = .ok (.aload_n 0, 1) := dk_42 hN_cX11_mustName rfl rfl
theorem dX11_mustName_37 : decode cX11_mustName 37 = .ok (.ldc 146, 2) := dk_18 hN_cX11_mustName rfl rfl rfl
theorem dX11_mustName_39 : decode cX11_mustName 39 = .ok (.invokevirtual 124, 3) := dk_182 hN_cX11_mustName rfl rfl rfl
theorem dX11_mustName_42 : decode cX11_mustName 42 = .ok (.ifCond .ne 21, 3) := dk_154 hN_cX11_mustName rfl rfl rfl
