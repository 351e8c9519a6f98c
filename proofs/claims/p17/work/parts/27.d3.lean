theorem dX11_core_13 : decode cX11_core 13 = .ok (.invokevirtual 177, 3) := dk_182 hN_cX11_core rfl rfl rfl
theorem dX11_core_16 : decode cX11_core 16 = .ok (.ireturn, 1) := dk_172 hN_cX11_core rfl rfl
theorem dX11_core_22 : decode cX11_core 22 = .ok (.iload_n 2, 1) := dk_28 hN_cX11_core rfl rfl
theorem dX11_core_23 : decode cX11_core 23 = .ok (.aload_n 0, 1) := dk_42 hN_cX11_core rfl rfl
theorem dX11_core_24 : decode cX11_core 24 = .ok (.invokevirtual 351, 3) := dk_182 hN_cX11_core rfl rfl rfl
theorem dX11_core_27 : decode cX11_core 27 = .ok (.if_icmp .gt 36, 3) := dk_163 hN_cX11_core rfl rfl rfl
theorem dX11_core_63 : decode cX11_core 63 = .ok (.iload_n 1, 1) := dk_27 hN_cX11_core rfl rfl
theorem dX11_core_64 : decode cX11_core 64 = .ok (.ireturn, 1) := dk_172 hN_cX11_core rfl rfl
theorem dX11_core_30 : decode cX11_core 30 = .ok (.iload_n 1, 1) := dk_27 hN_cX11_core rfl rfl
theorem dX11_core_31 : decode cX11_core 31 = .ok (.bipush (-2), 2) := dk_16 hN_cX11_core rfl rfl rfl
theorem dX11_core_33 : decode cX11_core 33 = .ok (.if_icmp .eq 14, 3) := dk_159 hN_cX11_core rfl rfl rfl
theorem dX11_core_47 : decode cX11_core 47 = .ok (.aload_n 0, 1) := dk_42 hN_cX11_core rfl rfl
theorem dX11_core_48 : decode cX11_core 48 = .ok (.iload_n 2, 1) := dk_28 hN_cX11_core rfl rfl
theorem dX11_core_49 : decode cX11_core 49 = .ok (.invokevirtual 354, 3) := dk_182 hN_cX11_core rfl rfl rfl
theorem dX11_core_52 : decode cX11_core 52 = .ok (.ifCond .ne 5, 3) := dk_154 hN_cX11_core rfl rfl rfl
theorem dX11_core_57 : decode cX11_core 57 = .ok (.iinc 2 1, 3) := dk_132 hN_cX11_core rfl rfl rfl rfl
theorem dX11_core_60 : decode cX11_core 60 = .ok (.goto (-38), 3) := dk_167 hN_cX11_core rfl rfl rfl
theorem dX11_core_55 : decode cX11_core 55 = .ok (.iload_n 2, 1) := dk_28 hN_cX11_core rfl rfl
theorem dX11_core_56 : decode cX11_core 56 = .ok (.istore_n 1, 1) := dk_60 hN_cX11_core rfl rfl
theorem dX11_core_36 : decode cX11_core 36 = .ok (.iload_n 2, 1) := dk_28 hN_cX11_core rfl rfl
theorem dX11_core_37 : decode cX11_core 37 = .ok (.invokestatic 323, 3) := dk_184 hN_cX11_core rfl rfl rfl
theorem dX11_core_40 : decode cX11_core 40 = .ok (.iload_n 1, 1) := dk_27 hN_cX11_core rfl rfl
theorem dX11_core_41 : decode cX11_core 41 = .ok (.invokestatic 323, 3) := dk_184 hN_cX11_core rfl rfl rfl
theorem dX11_core_44 : decode cX11_core 44 = .ok (.if_icmp .ge 13, 3) := dk_162 hN_cX11_core rfl rfl rfl
theorem dX11_can_0 : decode cX11_can 0 = .ok (.aload_n 0, 1) := dk_42 hN_cX11_can rfl rfl
theorem dX11_can_1 : decode cX11_can 1 = .ok (.invokevirtual 174, 3) := dk_182 hN_cX11_can rfl rfl rfl
theorem dX11_can_4 : decode cX11_can 4 = .ok (.aload_n 0, 1) := dk_42 hN_cX11_can rfl rfl
theorem dX11_can_5 : decode cX11_can 5 = .ok (.getfield 183, 3) := dk_180 hN_cX11_can rfl rfl rfl
theorem dX11_can_8 : decode cX11_can 8 = .ok (.ifCond .ne 9, 3) := dk_154 hN_cX11_can rfl rfl rfl
theorem dX11_can_17 : decode cX11_can 17 = .ok (.iload_n 1, 1) := dk_27 hN_cX11_can rfl rfl
theorem dX11_can_18 : decode cX11_can 18 = .ok (.iconst 0, 1) := dk_3 hN_cX11_can rfl rfl
theorem dX11_can_19 : decode cX11_can 19 = .ok (.aload_n 0, 1) := dk_42 hN_cX11_can rfl rfl
theorem dX11_can_20 : decode cX11_can 20 = .ok (.invokevirtual 351, 3) := dk_182 hN_cX11_can rfl rfl rfl
theorem dX11_can_23 : decode cX11_can 23 = .ok (.invokestatic 170, 3) := dk_184 hN_cX11_can rfl rfl rfl
theorem dX11_can_26 : decode cX11_can 26 = .ok (.ifCond .eq 19, 3) := dk_153 hN_cX11_can rfl rfl rfl
theorem dX11_can_45 : decode cX11_can 45 = .ok (.aload_n 0, 1) := dk_42 hN_cX11_can rfl rfl
theorem dX11_can_46 : decode cX11_can 46 = .ok (.iconst 2, 1) := dk_5 hN_cX11_can rfl rfl
theorem dX11_can_47 : decode cX11_can 47 = .ok (.invokevirtual 177, 3) := dk_182 hN_cX11_can rfl rfl rfl
theorem dX11_can_50 : decode cX11_can 50 = .ok (.ireturn, 1) := dk_172 hN_cX11_can rfl rfl
theorem dX11_can_29 : decode cX11_can 29 = .ok (.aload_n 0, 1) := dk_42 hN_cX11_can rfl rfl
theorem dX11_can_30 : decode cX11_can 30 = .ok (.iload_n 1, 1) := dk_27 hN_cX11_can rfl rfl
theorem dX11_can_31 : decode cX11_can 31 = .ok (.invokevirtual 354, 3) := dk_182 hN_cX11_can rfl rfl rfl
theorem dX11_can_34 : decode cX11_can 34 = .ok (.ifCond .eq 7, 3) := dk_153 hN_cX11_can rfl rfl rfl
theorem dX11_can_41 : decode cX11_can 41 = .ok (.iconst 0, 1) := dk_3 hN_cX11_can rfl rfl
theorem dX11_can_42 : decode cX11_can 42 = .ok (.goto 8, 3) := dk_167 hN_cX11_can rfl rfl rfl
theorem dX11_can_37 : decode cX11_can 37 = .ok (.iconst 1, 1) := dk_4 hN_cX11_can rfl rfl
theorem dX11_can_38 : decode cX11_can 38 = .ok (.goto 12, 3) := dk_167 hN_cX11_can rfl rfl rfl
theorem dX11_can_11 : decode cX11_can 11 = .ok (.aload_n 0, 1) := dk_42 hN_cX11_can rfl rfl
theorem dX11_can_12 : decode cX11_can 12 = .ok (.iconst 1, 1) := dk_4 hN_cX11_can rfl rfl
theorem dX11_can_13 : decode cX11_can 13 = .ok (.invokevirtual 177, 3) := dk_182 hN_cX11_can rfl rfl rfl
theorem dX11_can_16 : decode cX11_can 16 = .ok (.ireturn, 1) := dk_172 hN_cX11_can rfl rfl
theorem dX11_game_0 : decode cX11_game 0 = .ok (.aload_n 0, 1) := dk_42 hN_cX11_game rfl rfl
theorem dX11_game_1 : decode cX11_game 1 = .ok (.invokevirtual 174, 3) := dk_182 hN_cX11_game rfl rfl rfl
theorem dX11_game_4 : decode cX11_game 4 = .ok (.aload_n 0, 1) := dk_42 hN_cX11_game rfl rfl
theorem dX11_game_5 : decode cX11_game 5 = .ok (.getfield 183, 3) := dk_180 hN_cX11_game rfl rfl rfl
theorem dX11_game_8 : decode cX11_game 8 = .ok (.ifCond .ne 9, 3) := dk_154 hN_cX11_game rfl rfl rfl
theorem dX11_game_17 : decode cX11_game 17 = .ok (.iconst 0, 1) := dk_3 hN_cX11_game rfl rfl
theorem dX11_game_18 : decode cX11_game 18 = .ok (.istore_n 1, 1) := dk_60 hN_cX11_game rfl rfl
theorem dX11_game_19 : decode cX11_game 19 = .ok (.iconst 0, 1) := dk_3 hN_cX11_game rfl rfl
theorem dX11_game_20 : decode cX11_game 20 = .ok (.istore_n 2, 1) := dk_61 hN_cX11_game rfl rfl
theorem dX11_game_11 : decode cX11_game 11 = .ok (.aload_n 0, 1) := dk_42 hN_cX11_game rfl rfl
theorem dX11_game_12 : decode cX11_game 12 = .ok (.iconst 1, 1) := dk_4 hN_cX11_game rfl rfl
theorem dX11_game_13 : decode cX11_game 13 = .ok (.invokevirtual 177, 3) := dk_182 hN_cX11_game rfl rfl rfl
theorem dX11_game_16 : decode cX11_game 16 = .ok (.ireturn, 1) := dk_172 hN_cX11_game rfl rfl
theorem dX11_game_21 : decode cX11_game 21 = .ok (.iload_n 2, 1) := dk_28 hN_cX11_game rfl rfl
theorem dX11_game_22 : decode cX11_game 22 = .ok (.iconst 1, 1) := dk_4 hN_cX11_game rfl rfl
theorem dX11_game_23 : decode cX11_game 23 = .ok (.aload_n 0, 1) := dk_42 hN_cX11_game rfl rfl
theorem dX11_game_24 : decode cX11_game 24 = .ok (.getfield 20, 3) := dk_180 hN_cX11_game rfl rfl rfl
theorem dX11_game_27 : decode cX11_game 27 = .ok (.bipush 51, 2) := dk_16 hN_cX11_game rfl rfl rfl
theorem dX11_game_29 : decode cX11_game 29 = .ok (.iaload, 1) := dk_46 hN_cX11_game rfl rfl
theorem dX11_game_30 : decode cX11_game 30 = .ok (.ishl, 1) := dk_120 hN_cX11_game rfl rfl
theorem dX11_game_31 : decode cX11_game 31 = .ok (.if_icmp .ge 34, 3) := dk_162 hN_cX11_game rfl rfl rfl
theorem dX11_game_65 : decode cX11_game 65 = .ok (.iload_n 1, 1) := dk_27 hN_cX11_game rfl rfl
theorem dX11_game_66 : decode cX11_game 66 = .ok (.ireturn, 1) := dk_172 hN_cX11_game rfl rfl
theorem dX11_game_34 : decode cX11_game 34 = .ok (.aload_n 0, 1) := dk_42 hN_cX11_game rfl rfl
theorem dX11_game_35 : decode cX11_game 35 = .ok (.iload_n 2, 1) := dk_28 hN_cX11_game rfl rfl
theorem dX11_game_36 : decode cX11_game 36 = .ok (.invokevirtual 348, 3) := dk_182 hN_cX11_game rfl rfl rfl
theorem dX11_game_39 : decode cX11_game 39 = .ok (.invokestatic 323, 3) := dk_184 hN_cX11_game rfl rfl rfl
theorem dX11_game_42 : decode cX11_game 42 = .ok (.iload_n 1, 1) := dk_27 hN_cX11_game rfl rfl
theorem dX11_game_43 : decode cX11_game 43 = .ok (.if_icmp .le 14, 3) := dk_164 hN_cX11_game rfl rfl rfl
theorem dX11_game_57 : decode cX11_game 57 = .ok (.iload_n 1, 1) := dk_27 hN_cX11_game rfl rfl
theorem dX11_game_58 : decode cX11_game 58 = .ok (.istore_n 1, 1) := dk_60 hN_cX11_game rfl rfl
theorem dX11_game_59 : decode cX11_game 59 = .ok (.iinc 2 1, 3) := dk_132 hN_cX11_game rfl rfl rfl rfl
theorem dX11_game_62 : decode cX11_game 62 = .ok (.goto (-41), 3) := dk_167 hN_cX11_game rfl rfl rfl
theorem dX11_game_46 : decode cX11_game 46 = .ok (.aload_n 0, 1) := dk_42 hN_cX11_game rfl rfl
theorem dX11_game_47 : decode cX11_game 47 = .ok (.iload_n 2, 1) := dk_28 hN_cX11_game rfl rfl
theorem dX11_game_48 : decode cX11_game 48 = .ok (.invokevirtual 348, 3) := dk_182 hN_cX11_game rfl rfl rfl
theorem dX11_game_51 : decode cX11_game 51 = .ok (.invokestatic 323, 3) := dk_184 hN_cX11_game rfl rfl rfl
theorem dX11_game_54 : decode cX11_game 54 = .ok (.goto 4, 3) := dk_167 hN_cX11_game rfl rfl rfl
theorem dX11_areSquare_0 : decode cX11_areSquare 0 = .ok (.iconst 0, 1) := dk_3 hN_cX11_areSquare rfl rfl
theorem dX11_areSquare_1 : decode cX11_areSquare 1 = .ok (.istore_n 3, 1) := dk_62 hN_cX11_areSquare rfl rfl
theorem dX11_areSquare_2 : decode cX11_areSquare 2 = .ok (.iconst 0, 1) := dk_3 hN_cX11_areSquare rfl rfl
theorem dX11_areSquare_3 : decode cX11_areSquare 3 = .ok (.istore 4, 2) := dk_54 hN_cX11_areSquare rfl rfl rfl
theorem dX11_areSquare_5 : decode cX11_areSquare 5 = .ok (.iload 4, 2) := dk_21 hN_cX11_areSquare rfl rfl rfl
theorem dX11_areSquare_7 : decode cX11_areSquare 7 = .ok (.iconst 4, 1) := dk_7 hN_cX11_areSquare rfl rfl
theorem dX11_areSquare_8 : decode cX11_areSquare 8 = .ok (.if_icmp .ge 41, 3) := dk_162 hN_cX11_areSquare rfl rfl rfl
theorem dX11_areSquare_49 : decode cX11_areSquare 49 = .ok (.iload_n 3, 1) := dk_29 hN_cX11_areSquare rfl rfl
theorem dX11_areSquare_50 : decode cX11_areSquare 50 = .ok (.ifCond .ne 7, 3) := dk_154 hN_cX11_areSquare rfl rfl rfl
theorem dX11_areSquare_57 : decode cX11_areSquare 57 = .ok (.iconst 0, 1) := dk_3 hN_cX11_areSquare rfl rfl
theorem dX11_areSquare_58 : decode cX11_areSquare 58 = .ok (.ireturn, 1) := dk_172 hN_cX11_areSquare rfl rfl
theorem dX11_areSquare_53 : decode cX11_areSquare 53 = .ok (.iconst 1, 1) := dk_4 hN_cX11_areSquare rfl rfl
theorem dX11_areSquare_54 : decode cX11_areSquare 54 = .ok (.goto 4, 3) := dk_167 hN_cX11_areSquare rfl rfl rfl
theorem dX11_areSquare_11 : decode cX11_areSquare 11 = .ok (.iload_n 3, 1) := dk_29 hN_cX11_areSquare rfl rfl
theorem dX11_areSquare_12 : decode cX11_areSquare 12 = .ok (.aload_n 0, 1) := dk_42 hN_cX11_areSquare rfl rfl
theorem dX11_areSquare_13 : decode cX11_areSquare 13 = .ok (.getfield 20, 3) := dk_180 hN_cX11_areSquare rfl rfl rfl
theorem dX11_areSquare_16 : decode cX11_areSquare 16 = .ok (.bipush 86, 2) := dk_16 hN_cX11_areSquare rfl rfl rfl
theorem dX11_areSquare_18 : decode cX11_areSquare 18 = .ok (.iconst 4, 1) := dk_7 hN_cX11_areSquare rfl rfl
theorem dX11_areSquare_19 : decode cX11_areSquare 19 = .ok (.iload_n 1, 1) := dk_27 hN_cX11_areSquare rfl rfl
theorem dX11_areSquare_20 : decode cX11_areSquare 20 = .ok (.imul, 1) := dk_104 hN_cX11_areSquare rfl rfl
theorem dX11_areSquare_21 : decode cX11_areSquare 21 = .ok (.iadd, 1) := dk_96 hN_cX11_areSquare rfl rfl
theorem dX11_areSquare_22 : decode cX11_areSquare 22 = .ok (.iload 4, 2) := dk_21 hN_cX11_areSquare rfl rfl rfl
theorem dX11_areSquare_24 : decode cX11_areSquare 24 = .ok (.iadd, 1) := dk_96 hN_cX11_areSquare rfl rfl
theorem dX11_areSquare_25 : decode cX11_areSquare 25 = .ok (.iaload, 1) := dk_46 hN_cX11_areSquare rfl rfl
theorem dX11_areSquare_26 : decode cX11_areSquare 26 = .ok (.aload_n 0, 1) := dk_42 hN_cX11_areSquare rfl rfl
theorem dX11_areSquare_27 : decode cX11_areSquare 27 = .ok (.getfield 20, 3) := dk_180 hN_cX11_areSquare rfl rfl rfl
theorem dX11_areSquare_30 : decode cX11_areSquare 30 = .ok (.bipush 86, 2) := dk_16 hN_cX11_areSquare rfl rfl rfl
theorem dX11_areSquare_32 : decode cX11_areSquare 32 = .ok (.iconst 4, 1) := dk_7 hN_cX11_areSquare rfl rfl
theorem dX11_areSquare_33 : decode cX11_areSquare 33 = .ok (.iload_n 2, 1) := dk_28 hN_cX11_areSquare rfl rfl
theorem dX11_areSquare_34 : decode cX11_areSquare 34 = .ok (.imul, 1) := dk_104 hN_cX11_areSquare rfl rfl
theorem dX11_areSquare_35 : decode cX11_areSquare 35 = .ok (.iadd, 1) := dk_96 hN_cX11_areSquare rfl rfl
theorem dX11_areSquare_36 : decode cX11_areSquare 36 = .ok (.iload 4, 2) := dk_21 hN_cX11_areSquare rfl rfl rfl
theorem dX11_areSquare_38 : decode cX11_areSquare 38 = .ok (.iadd, 1) := dk_96 hN_cX11_areSquare rfl rfl
theorem dX11_areSquare_39 : decode cX11_areSquare 39 = .ok (.iaload, 1) := dk_46 hN_cX11_areSquare rfl rfl
theorem dX11_areSquare_40 : decode cX11_areSquare 40 = .ok (.imul, 1) := dk_104 hN_cX11_areSquare rfl rfl
theorem dX11_areSquare_41 : decode cX11_areSquare 41 = .ok (.iadd, 1) := dk_96 hN_cX11_areSquare rfl rfl
theorem dX11_areSquare_42 : decode cX11_areSquare 42 = .ok (.istore_n 3, 1) := dk_62 hN_cX11_areSquare rfl rfl
theorem dX11_areSquare_43 : decode cX11_areSquare 43 = .ok (.iinc 4 1, 3) := dk_132 hN_cX11_areSquare rfl rfl rfl rfl
theorem dX11_areSquare_46 : decode cX11_areSquare 46 = .ok (.goto (-41), 3) := dk_167 hN_cX11_areSquare rfl rfl rfl
theorem dX11_isRay_0 : decode cX11_isRay 0 = .ok (.aload_n 0, 1) := dk_42 hN_cX11_isRay rfl rfl
theorem dX11_isRay_1 : decode cX11_isRay 1 = .ok (.getfield 183, 3) := dk_180 hN_cX11_isRay rfl rfl rfl
theorem dX11_isRay_4 : decode cX11_isRay 4 = .ok (.ifCond .eq 24, 3) := dk_153 hN_cX11_isRay rfl rfl rfl
theorem dX11_isRay_28 : decode cX11_isRay 28 = .ok (.iconst 0, 1) := dk_3 hN_cX11_isRay rfl rfl
theorem dX11_isRay_29 : decode cX11_isRay 29 = .ok (.ireturn, 1) := dk_172 hN_cX11_isRay rfl rfl
theorem dX11_isRay_7 : decode cX11_isRay 7 = .ok (.iload_n 1, 1) := dk_27 hN_cX11_isRay rfl rfl
theorem dX11_isRay_8 : decode cX11_isRay 8 = .ok (.iconst 0, 1) := dk_3 hN_cX11_isRay rfl rfl
theorem dX11_isRay_9 : decode cX11_isRay 9 = .ok (.aload_n 0, 1) := dk_42 hN_cX11_isRay rfl rfl
theorem dX11_isRay_10 : decode cX11_isRay 10 = .ok (.getfield 20, 3) := dk_180 hN_cX11_isRay rfl rfl rfl
theorem dX11_isRay_13 : decode cX11_isRay 13 = .ok (.bipush 85, 2) := dk_16 hN_cX11_isRay rfl rfl rfl
theorem dX11_isRay_15 : decode cX11_isRay 15 = .ok (.iaload, 1) := dk_46 hN_cX11_isRay rfl rfl
theorem dX11_isRay_16 : decode cX11_isRay 16 = .ok (.iconst 1, 1) := dk_4 hN_cX11_isRay rfl rfl
theorem dX11_isRay_17 : decode cX11_isRay 17 = .ok (.isub, 1) := dk_100 hN_cX11_isRay rfl rfl
theorem dX11_isRay_18 : decode cX11_isRay 18 = .ok (.invokestatic 170, 3) := dk_184 hN_cX11_isRay rfl rfl rfl
theorem dX11_isRay_21 : decode cX11_isRay 21 = .ok (.ifCond .eq 7, 3) := dk_153 hN_cX11_isRay rfl rfl rfl
theorem dX11_isRay_24 : decode cX11_isRay 24 = .ok (.iconst 1, 1) := dk_4 hN_cX11_isRay rfl rfl
theorem dX11_isRay_25 : decode cX11_isRay 25 = .ok (.goto 4, 3) := dk_167 hN_cX11_isRay rfl rfl rfl
theorem dX11_square_0 : decode cX11_square 0 = .ok (.aload_n 0, 1) := dk_42 hN_cX11_square rfl rfl
theorem dX11_square_1 : decode cX11_square 1 = .ok (.invokevirtual 174, 3) := dk_182 hN_cX11_square rfl rfl rfl
theorem dX11_square_4 : decode cX11_square 4 = .ok (.aload_n 0, 1) := dk_42 hN_cX11_square rfl rfl
theorem dX11_square_5 : decode cX11_square 5 = .ok (.iload_n 1, 1) := dk_27 hN_cX11_square rfl rfl
theorem dX11_square_6 : decode cX11_square 6 = .ok (.invokevirtual 357, 3) := dk_182 hN_cX11_square rfl rfl rfl
theorem dX11_square_9 : decode cX11_square 9 = .ok (.ifCond .eq 33, 3) := dk_153 hN_cX11_square rfl rfl rfl
theorem dX11_square_42 : decode cX11_square 42 = .ok (.aload_n 0, 1) := dk_42 hN_cX11_square rfl rfl
theorem dX11_square_43 : decode cX11_square 43 = .ok (.iconst 1, 1) := dk_4 hN_cX11_square rfl rfl
theorem dX11_square_44 : decode cX11_square 44 = .ok (.invokevirtual 177, 3) := dk_182 hN_cX11_square rfl rfl rfl
theorem dX11_square_47 : decode cX11_square 47 = .ok (.ireturn, 1) := dk_172 hN_cX11_square rfl rfl
theorem dX11_square_12 : decode cX11_square 12 = .ok (.aload_n 0, 1) := dk_42 hN_cX11_square rfl rfl
theorem dX11_square_13 : decode cX11_square 13 = .ok (.iload_n 2, 1) := dk_28 hN_cX11_square rfl rfl
theorem dX11_square_14 : decode cX11_square 14 = .ok (.invokevirtual 357, 3) := dk_182 hN_cX11_square rfl rfl rfl
theorem dX11_square_17 : decode cX11_square 17 = .ok (.ifCond .eq 25, 3) := dk_153 hN_cX11_square rfl rfl rfl
theorem dX11_square_20 : decode cX11_square 20 = .ok (.iload_n 1, 1) := dk_27 hN_cX11_square rfl rfl
theorem dX11_square_21 : decode cX11_square 21 = .ok (.iload_n 2, 1) := dk_28 hN_cX11_square rfl rfl
theorem dX11_square_22 : decode cX11_square 22 = .ok (.if_icmp .eq 20, 3) := dk_159 hN_cX11_square rfl rfl rfl
theorem dX11_square_25 : decode cX11_square 25 = .ok (.aload_n 0, 1) := dk_42 hN_cX11_square rfl rfl
theorem dX11_square_26 : decode cX11_square 26 = .ok (.iload_n 1, 1) := dk_27 hN_cX11_square rfl rfl
theorem dX11_square_27 : decode cX11_square 27 = .ok (.iload_n 2, 1) := dk_28 hN_cX11_square rfl rfl
theorem dX11_square_28 : decode cX11_square 28 = .ok (.invokevirtual 360, 3) := dk_182 hN_cX11_square rfl rfl rfl
theorem dX11_square_31 : decode cX11_square 31 = .ok (.ifCond .eq 7, 3) := dk_153 hN_cX11_square rfl rfl rfl
theorem dX11_square_38 : decode cX11_square 38 = .ok (.iconst 0, 1) := dk_3 hN_cX11_square rfl rfl
theorem dX11_square_39 : decode cX11_square 39 = .ok (.goto 8, 3) := dk_167 hN_cX11_square rfl rfl rfl
theorem dX11_square_34 : decode cX11_square 34 = .ok (.iconst 1, 1) := dk_4 hN_cX11_square rfl rfl
theorem dX11_square_35 : decode cX11_square 35 = .ok (.goto 12, 3) := dk_167 hN_cX11_square rfl rfl rfl
theorem dX11_layCorners_0 : decode cX11_layCorners 0 = .ok (.aload_n 0, 1) := dk_42 hN_cX11_layCorners rfl rfl
theorem dX11_layCorners_1 : decode cX11_layCorners 1 = .ok (.iconst 0, 1) := dk_3 hN_cX11_layCorners rfl rfl
theorem dX11_layCorners_2 : decode cX11_layCorners 2 = .ok (.putfield 363, 3) := dk_181 hN_cX11_layCorners rfl rfl rfl
theorem dX11_layCorners_5 : decode cX11_layCorners 5 = .ok (.iconst 0, 1) := dk_3 hN_cX11_layCorners rfl rfl
theorem dX11_layCorners_6 : decode cX11_layCorners 6 = .ok (.istore_n 1, 1) := dk_60 hN_cX11_layCorners rfl rfl
theorem dX11_layCorners_7 : decode cX11_layCorners 7 = .ok (.iload_n 1, 1) := dk_27 hN_cX11_layCorners rfl rfl
theorem dX11_layCorners_8 : decode cX11_layCorners 8 = .ok (.aload_n 0, 1) := dk_42 hN_cX11_layCorners rfl rfl
theorem dX11_layCorners_9 : decode cX11_layCorners 9 = .ok (.getfield 20, 3) := dk_180 hN_cX11_layCorners rfl rfl rfl
theorem dX11_layCorners_12 : decode cX11_layCorners 12 = .ok (.bipush 85, 2) := dk_16 hN_cX11_layCorners rfl rfl rfl
theorem dX11_layCorners_14 : decode cX11_layCorners 14 = .ok (.iaload, 1) := dk_46 hN_cX11_layCorners rfl rfl
theorem dX11_layCorners_15 : decode cX11_layCorners 15 = .ok (.if_icmp .ge 65, 3) := dk_162 hN_cX11_layCorners rfl rfl rfl
theorem dX11_layCorners_80 : decode cX11_layCorners 80 = .ok (.iconst 0, 1) := dk_3 hN_cX11_layCorners rfl rfl
theorem dX11_layCorners_81 : decode cX11_layCorners 81 = .ok (.istore_n 1, 1) := dk_60 hN_cX11_layCorners rfl rfl
theorem dX11_layCorners_18 : decode cX11_layCorners 18 = .ok (.aload_n 0, 1) := dk_42 hN_cX11_layCorners rfl rfl
theorem dX11_layCorners_19 : decode cX11_layCorners 19 = .ok (.getfield 57, 3) := dk_180 hN_cX11_layCorners rfl rfl rfl
theorem dX11_layCorners_22 : decode cX11_layCorners 22 = .ok (.iload_n 1, 1) := dk_27 hN_cX11_layCorners rfl rfl
theorem dX11_layCorners_23 : decode cX11_layCorners 23 = .ok (.iconst 0, 1) := dk_3 hN_cX11_layCorners rfl rfl
theorem dX11_layCorners_24 : decode cX11_layCorners 24 = .ok (.iastore, 1) := dk_79 hN_cX11_layCorners rfl rfl
theorem dX11_layCorners_25 : decode cX11_layCorners 25 = .ok (.iconst 0, 1) := dk_3 hN_cX11_layCorners rfl rfl
theorem dX11_layCorners_26 : decode cX11_layCorners 26 = .ok (.istore_n 2, 1) := dk_61 hN_cX11_layCorners rfl rfl
theorem dX11_layCorners_27 : decode cX11_layCorners 27 = .ok (.iload_n 2, 1) := dk_28 hN_cX11_layCorners rfl rfl
theorem dX11_layCorners_28 : decode cX11_layCorners 28 = .ok (.aload_n 0, 1) := dk_42 hN_cX11_layCorners rfl rfl
theorem dX11_layCorners_29 : decode cX11_layCorners 29 = .ok (.getfield 20, 3) := dk_180 hN_cX11_layCorners rfl rfl rfl
theorem dX11_layCorners_32 : decode cX11_layCorners 32 = .ok (.bipush 85, 2) := dk_16 hN_cX11_layCorners rfl rfl rfl
theorem dX11_layCorners_34 : decode cX11_layCorners 34 = .ok (.iaload, 1) := dk_46 hN_cX11_layCorners rfl rfl
theorem dX11_layCorners_35 : decode cX11_layCorners 35 = .ok (.if_icmp .ge 39, 3) := dk_162 hN_cX11_layCorners rfl rfl rfl
theorem dX11_layCorners_74 : decode cX11_layCorners 74 = .ok (.iinc 1 1, 3) := dk_132 hN_cX11_layCorners rfl rfl rfl rfl
theorem dX11_layCorners_77 : decode cX11_layCorners 77 = .ok (.goto (-70), 3) := dk_167 hN_cX11_layCorners rfl rfl rfl
theorem dX11_layCorners_38 : decode cX11_layCorners 38 = .ok (.aload_n 0, 1) := dk_42 hN_cX11_layCorners rfl rfl
theorem dX11_layCorners_39 : decode cX11_layCorners 39 = .ok (.getfield 57, 3) := dk_180 hN_cX11_layCorners rfl rfl rfl
theorem dX11_layCorners_42 : decode cX11_layCorners 42 = .ok (.iload_n 1, 1) := dk_27 hN_cX11_layCorners rfl rfl
theorem dX11_layCorners_43 : decode cX11_layCorners 43 = .ok (.dup2, 1) := dk_92 hN_cX11_layCorners rfl rfl
theorem dX11_layCorners_44 : decode cX11_layCorners 44 = .ok (.iaload, 1) := dk_46 hN_cX11_layCorners rfl rfl
theorem dX11_layCorners_45 : decode cX11_layCorners 45 = .ok (.iload_n 1, 1) := dk_27 hN_cX11_layCorners rfl rfl
theorem dX11_layCorners_46 : decode cX11_layCorners 46 = .ok (.iload_n 2, 1) := dk_28 hN_cX11_layCorners rfl rfl
theorem dX11_layCorners_47 : decode cX11_layCorners 47 = .ok (.if_icmp .eq 18, 3) := dk_159 hN_cX11_layCorners rfl rfl rfl
theorem dX11_layCorners_65 : decode cX11_layCorners 65 = .ok (.iconst 0, 1) := dk_3 hN_cX11_layCorners rfl rfl
theorem dX11_layCorners_66 : decode cX11_layCorners 66 = .ok (.ior, 1) := dk_128 hN_cX11_layCorners rfl rfl
theorem dX11_layCorners_67 : decode cX11_layCorners 67 = .ok (.iastore, 1) := dk_79 hN_cX11_layCorners rfl rfl
theorem dX11_layCorners_68 : decode cX11_layCorners 68 = .ok (.iinc 2 1, 3) := dk_132 hN_cX11_layCorners rfl rfl rfl rfl
theorem dX11_layCorners_71 : decode cX11_layCorners 71 = .ok (.goto (-44), 3) := dk_167 hN_cX11_layCorners rfl rfl rfl
theorem dX11_layCorners_50 : decode cX11_layCorners 50 = .ok (.aload_n 0, 1) := dk_42 hN_cX11_layCorners rfl rfl
theorem dX11_layCorners_51 : decode cX11_layCorners 51 = .ok (.iload_n 1, 1) := dk_27 hN_cX11_layCorners rfl rfl
theorem dX11_layCorners_52 : decode cX11_layCorners 52 = .ok (.iload_n 2, 1) := dk_28 hN_cX11_layCorners rfl rfl
theorem dX11_layCorners_53 : decode cX11_layCorners 53 = .ok (.invokevirtual 360, 3) := dk_182 hN_cX11_layCorners rfl rfl rfl
theorem dX11_layCorners_56 : decode cX11_layCorners 56 = .ok (.ifCond .eq 9, 3) := dk_153 hN_cX11_layCorners rfl rfl rfl
theorem dX11_layCorners_59 : decode cX11_layCorners 59 = .ok (.iconst 1, 1) := dk_4 hN_cX11_layCorners rfl rfl
theorem dX11_layCorners_60 : decode cX11_layCorners 60 = .ok (.iload_n 2, 1) := dk_28 hN_cX11_layCorners rfl rfl
theorem dX11_layCorners_61 : decode cX11_layCorners 61 = .ok (.ishl, 1) := dk_120 hN_cX11_layCorners rfl rfl
theorem dX11_layCorners_62 : decode cX11_layCorners 62 = .ok (.goto 4, 3) := dk_167 hN_cX11_layCorners rfl rfl rfl
theorem dX11_layCorners_82 : decode cX11_layCorners 82 = .ok (.iload_n 1, 1) := dk_27 hN_cX11_layCorners rfl rfl
theorem dX11_layCorners_83 : decode cX11_layCorners 83 = .ok (.aload_n 0, 1) := dk_42 hN_cX11_layCorners rfl rfl
theorem dX11_layCorners_84 : decode cX11_layCorners 84 = .ok (.getfield 20, 3) := dk_180 hN_cX11_layCorners rfl rfl rfl
theorem dX11_layCorners_87 : decode cX11_layCorners 87 = .ok (.bipush 85, 2) := dk_16 hN_cX11_layCorners rfl rfl rfl
theorem dX11_layCorners_89 : decode cX11_layCorners 89 = .ok (.iaload, 1) := dk_46 hN_cX11_layCorners rfl rfl
theorem dX11_layCorners_90 : decode cX11_layCorners 90 = .ok (.if_icmp .ge 179, 3) := dk_162 hN_cX11_layCorners rfl rfl rfl
theorem dX11_layCorners_269 : decode cX11_layCorners 269 = .ok (.return_, 1) := dk_177 hN_cX11_layCorners rfl rfl
theorem dX11_layCorners_93 : decode cX11_layCorners 93 = .ok (.iload_n 1, 1) := dk_27 hN_cX11_layCorners rfl rfl
theorem dX11_layCorners_94 : decode cX11_layCorners 94 = .ok (.iconst 1, 1) := dk_4 hN_cX11_layCorners rfl rfl
theorem dX11_layCorners_95 : decode cX11_layCorners 95 = .ok (.iadd, 1) := dk_96 hN_cX11_layCorners rfl rfl
theorem dX11_layCorners_96 : decode cX11_layCorners 96 = .ok (.istore_n 2, 1) := dk_61 hN_cX11_layCorners rfl rfl
theorem dX11_layCorners_97 : decode cX11_layCorners 97 = .ok (.iload_n 2, 1) := dk_28 hN_cX11_layCorners rfl rfl
theorem dX11_layCorners_98 : decode cX11_layCorners 98 = .ok (.aload_n 0, 1) := dk_42 hN_cX11_layCorners rfl rfl
theorem dX11_layCorners_99 : decode cX11_layCorners 99 = .ok (.getfield 20, 3) := dk_180 hN_cX11_layCorners rfl rfl rfl
theorem dX11_layCorners_102 : decode cX11_layCorners 102 = .ok (.bipush 85, 2) := dk_16 hN_cX11_layCorners rfl rfl rfl
theorem dX11_layCorners_104 : decode cX11_layCorners 104 = .ok (.iaload, 1) := dk_46 hN_cX11_layCorners rfl rfl
theorem dX11_layCorners_105 : decode cX11_layCorners 105 = .ok (.if_icmp .ge 158, 3) := dk_162 hN_cX11_layCorners rfl rfl rfl
theorem dX11_layCorners_263 : decode cX11_layCorners 263 = .ok (.iinc 1 1, 3) := dk_132 hN_cX11_layCorners rfl rfl rfl rfl
theorem dX11_layCorners_266 : decode cX11_layCorners 266 = .ok (.goto (-184), 3) := dk_167 hN_cX11_layCorners rfl rfl rfl
theorem dX11_layCorners_108 : decode cX11_layCorners 108 = .ok (.aload_n 0, 1) := dk_42 hN_cX11_layCorners rfl rfl
theorem dX11_layCorners_109 : decode cX11_layCorners 109 = .ok (.getfield 57, 3) := dk_180 hN_cX11_layCorners rfl rfl rfl
theorem dX11_layCorners_112 : decode cX11_layCorners 112 = .ok (.iload_n 1, 1) := dk_27 hN_cX11_layCorners rfl rfl
theorem dX11_layCorners_113 : decode cX11_layCorners 113 = .ok (.iaload, 1) := dk_46 hN_cX11_layCorners rfl rfl
theorem dX11_layCorners_114 : decode cX11_layCorners 114 = .ok (.iload_n 2, 1) := dk_28 hN_cX11_layCorners rfl rfl
theorem dX11_layCorners_115 : decode cX11_layCorners 115 = .ok (.invokestatic 162, 3) := dk_184 hN_cX11_layCorners rfl rfl rfl
theorem dX11_layCorners_118 : decode cX11_layCorners 118 = .ok (.ifCond .ne 6, 3) := dk_154 hN_cX11_layCorners rfl rfl rfl
theorem dX11_layCorners_124 : decode cX11_layCorners 124 = .ok (.iload_n 2, 1) := dk_28 hN_cX11_layCorners rfl rfl
theorem dX11_layCorners_125 : decode cX11_layCorners 125 = .ok (.iconst 1, 1) := dk_4 hN_cX11_layCorners rfl rfl
theorem dX11_layCorners_126 : decode cX11_layCorners 126 = .ok (.iadd, 1) := dk_96 hN_cX11_layCorners rfl rfl
theorem dX11_layCorners_127 : decode cX11_layCorners 127 = .ok (.istore_n 3, 1) := dk_62 hN_cX11_layCorners rfl rfl
theorem dX11_layCorners_121 : decode cX11_layCorners 121 = .ok (.goto 136, 3) := dk_167 hN_cX11_layCorners rfl rfl rfl
theorem dX11_layCorners_257 : decode cX11_layCorners 257 = .ok (.iinc 2 1, 3) := dk_132 hN_cX11_layCorners rfl rfl rfl rfl
theorem dX11_layCorners_260 : decode cX11_layCorners 260 = .ok (.goto (-163), 3) := dk_167 hN_cX11_layCorners rfl rfl rfl
theorem dX11_layCorners_128 : decode cX11_layCorners 128 = .ok (.iload_n 3, 1) := dk_29 hN_cX11_layCorners rfl rfl
theorem dX11_layCorners_129 : decode cX11_layCorners 129 = .ok (.aload_n 0, 1) := dk_42 hN_cX11_layCorners rfl rfl
theorem dX11_layCorners_130 : decode cX11_layCorners 130 = .ok (.getfield 20, 3) := dk_180 hN_cX11_layCorners rfl rfl rfl
theorem dX11_layCorners_133 : decode cX11_layCorners 133 = .ok (.bipush 85, 2) := dk_16 hN_cX11_layCorners rfl rfl rfl
theorem dX11_layCorners_135 : decode cX11_layCorners 135 = .ok (.iaload, 1) := dk_46 hN_cX11_layCorners rfl rfl
theorem dX11_layCorners_136 : decode cX11_layCorners 136 = .ok (.if_icmp .ge 121, 3) := dk_162 hN_cX11_layCorners rfl rfl rfl
theorem dX11_layCorners_139 : decode cX11_layCorners 139 = .ok (.aload_n 0, 1) := dk_42 hN_cX11_layCorners rfl rfl
theorem dX11_layCorners_140 : decode cX11_layCorners 140 = .ok (.getfield 57, 3) := dk_180 hN_cX11_layCorners rfl rfl rfl
theorem dX11_layCorners_143 : decode cX11_layCorners 143 = .ok (.iload_n 1, 1) := dk_27 hN_cX11_layCorners rfl rfl
theorem dX11_layCorners_144 : decode cX11_layCorners 144 = .ok (.iaload, 1) := dk_46 hN_cX11_layCorners rfl rfl
theorem dX11_layCorners_145 : decode cX11_layCorners 145 = .ok (.aload_n 0, 1) := dk_42 hN_cX11_layCorners rfl rfl
theorem dX11_layCorners_146 : decode cX11_layCorners 146 = .ok (.getfield 57, 3) := dk_180 hN_cX11_layCorners rfl rfl rfl
theorem dX11_layCorners_149 : decode cX11_layCorners 149 = .ok (.iload_n 2, 1) := dk_28 hN_cX11_layCorners rfl rfl
theorem dX11_layCorners_150 : decode cX11_layCorners 150 = .ok (.iaload, 1) := dk_46 hN_cX11_layCorners rfl rfl
theorem dX11_layCorners_151 : decode cX11_layCorners 151 = .ok (.iand, 1) := dk_126 hN_cX11_layCorners rfl rfl
theorem dX11_layCorners_152 : decode cX11_layCorners 152 = .ok (.iload_n 3, 1) := dk_29 hN_cX11_layCorners rfl rfl
theorem dX11_layCorners_153 : decode cX11_layCorners 153 = .ok (.invokestatic 162, 3) := dk_184 hN_cX11_layCorners rfl rfl rfl
theorem dX11_layCorners_156 : decode cX11_layCorners 156 = .ok (.ifCond .ne 6, 3) := dk_154 hN_cX11_layCorners rfl rfl rfl
theorem dX11_layCorners_162 : decode cX11_layCorners 162 = .ok (.iload_n 3, 1) := dk_29 hN_cX11_layCorners rfl rfl
theorem dX11_layCorners_163 : decode cX11_layCorners 163 = .ok (.iconst 1, 1) := dk_4 hN_cX11_layCorners rfl rfl
theorem dX11_layCorners_164 : decode cX11_layCorners 164 = .ok (.iadd, 1) := dk_96 hN_cX11_layCorners rfl rfl
theorem dX11_layCorners_165 : decode cX11_layCorners 165 = .ok (.istore 4, 2) := dk_54 hN_cX11_layCorners rfl rfl rfl
theorem dX11_layCorners_159 : decode cX11_layCorners 159 = .ok (.goto 92, 3) := dk_167 hN_cX11_layCorners rfl rfl rfl
theorem dX11_layCorners_251 : decode cX11_layCorners 251 = .ok (.iinc 3 1, 3) := dk_132 hN_cX11_layCorners rfl rfl rfl rfl
theorem dX11_layCorners_254 : decode cX11_layCorners 254 = .ok (.goto (-126), 3) := dk_167 hN_cX11_layCorners rfl rfl rfl
theorem dX11_layCorners_167 : decode cX11_layCorners 167 = .ok (.iload 4, 2) := dk_21 hN_cX11_layCorners rfl rfl rfl
theorem dX11_layCorners_169 : decode cX11_layCorners 169 = .ok (.aload_n 0, 1) := dk_42 hN_cX11_layCorners rfl rfl
theorem dX11_layCorners_170 : decode cX11_layCorners 170 = .ok (.getfield 20, 3) := dk_180 hN_cX11_layCorners rfl rfl rfl
theorem dX11_layCorners_173 : decode cX11_layCorners 173 = .ok (.bipush 85, 2) := dk_16 hN_cX11_layCorners rfl rfl rfl
theorem dX11_layCorners_175 : decode cX11_layCorners 175 = .ok (.iaload, 1) := dk_46 hN_cX11_layCorners rfl rfl
theorem dX11_layCorners_176 : decode cX11_layCorners 176 = .ok (.if_icmp .ge 75, 3) := dk_162 hN_cX11_layCorners rfl rfl rfl
theorem dX11_layCorners_179 : decode cX11_layCorners 179 = .ok (.aload_n 0, 1) := dk_42 hN_cX11_layCorners rfl rfl
theorem dX11_layCorners_180 : decode cX11_layCorners 180 = .ok (.getfield 57, 3) := dk_180 hN_cX11_layCorners rfl rfl rfl
theorem dX11_layCorners_183 : decode cX11_layCorners 183 = .ok (.iload_n 1, 1) := dk_27 hN_cX11_layCorners rfl rfl
theorem dX11_layCorners_184 : decode cX11_layCorners 184 = .ok (.iaload, 1) := dk_46 hN_cX11_layCorners rfl rfl
theorem dX11_layCorners_185 : decode cX11_layCorners 185 = .ok (.aload_n 0, 1) := dk_42 hN_cX11_layCorners rfl rfl
theorem dX11_layCorners_186 : decode cX11_layCorners 186 = .ok (.getfield 57, 3) := dk_180 hN_cX11_layCorners rfl rfl rfl
theorem dX11_layCorners_189 : decode cX11_layCorners 189 = .ok (.iload_n 2, 1) := dk_28 hN_cX11_layCorners rfl rfl
theorem dX11_layCorners_190 : decode cX11_layCorners 190 = .ok (.iaload, 1) := dk_46 hN_cX11_layCorners rfl rfl
theorem dX11_layCorners_191 : decode cX11_layCorners 191 = .ok (.iand, 1) := dk_126 hN_cX11_layCorners rfl rfl
theorem dX11_layCorners_192 : decode cX11_layCorners 192 = .ok (.aload_n 0, 1) := dk_42 hN_cX11_layCorners rfl rfl
theorem dX11_layCorners_193 : decode cX11_layCorners 193 = .ok (.getfield 57, 3) := dk_180 hN_cX11_layCorners rfl rfl rfl
theorem dX11_layCorners_196 : decode cX11_layCorners 196 = .ok (.iload_n 3, 1) := dk_29 hN_cX11_layCorners rfl rfl
theorem dX11_layCorners_197 : decode cX11_layCorners 197 = .ok (.iaload, 1) := dk_46 hN_cX11_layCorners rfl rfl
theorem dX11_layCorners_198 : decode cX11_layCorners 198 = .ok (.iand, 1) := dk_126 hN_cX11_layCorners rfl rfl
theorem dX11_layCorners_199 : decode cX11_layCorners 199 = .ok (.iload 4, 2) := dk_21 hN_cX11_layCorners rfl rfl rfl
theorem dX11_layCorners_201 : decode cX11_layCorners 201 = .ok (.invokestatic 162, 3) := dk_184 hN_cX11_layCorners rfl rfl rfl
theorem dX11_layCorners_204 : decode cX11_layCorners 204 = .ok (.ifCond .ne 6, 3) := dk_154 hN_cX11_layCorners rfl rfl rfl
theorem dX11_layCorners_210 : decode cX11_layCorners 210 = .ok (.aload_n 0, 1) := dk_42 hN_cX11_layCorners rfl rfl
theorem dX11_layCorners_211 : decode cX11_layCorners 211 = .ok (.getfield 54, 3) := dk_180 hN_cX11_layCorners rfl rfl rfl
theorem dX11_layCorners_214 : decode cX11_layCorners 214 = .ok (.aload_n 0, 1) := dk_42 hN_cX11_layCorners rfl rfl
theorem dX11_layCorners_215 : decode cX11_layCorners 215 = .ok (.getfield 363, 3) := dk_180 hN_cX11_layCorners rfl rfl rfl
theorem dX11_layCorners_218 : decode cX11_layCorners 218 = .ok (.iconst 1, 1) := dk_4 hN_cX11_layCorners rfl rfl
theorem dX11_layCorners_219 : decode cX11_layCorners 219 = .ok (.iload_n 1, 1) := dk_27 hN_cX11_layCorners rfl rfl
theorem dX11_layCorners_220 : decode cX11_layCorners 220 = .ok (.ishl, 1) := dk_120 hN_cX11_layCorners rfl rfl
theorem dX11_layCorners_221 : decode cX11_layCorners 221 = .ok (.iconst 1, 1) := dk_4 hN_cX11_layCorners rfl rfl
theorem dX11_layCorners_222 : decode cX11_layCorners 222 = .ok (.iload_n 2, 1) := dk_28 hN_cX11_layCorners rfl rfl
theorem dX11_layCorners_223 : decode cX11_layCorners 223 = .ok (.ishl, 1) := dk_120 hN_cX11_layCorners rfl rfl
theorem dX11_layCorners_224 : decode cX11_layCorners 224 = .ok (.ior, 1) := dk_128 hN_cX11_layCorners rfl rfl
theorem dX11_layCorners_225 : decode cX11_layCorners 225 = .ok (.iconst 1, 1) := dk_4 hN_cX11_layCorners rfl rfl
theorem dX11_layCorners_226 : decode cX11_layCorners 226 = .ok (.iload_n 3, 1) := dk_29 hN_cX11_layCorners rfl rfl
theorem dX11_layCorners_227 : decode cX11_layCorners 227 = .ok (.ishl, 1) := dk_120 hN_cX11_layCorners rfl rfl
theorem dX11_layCorners_228 : decode cX11_layCorners 228 = .ok (.ior, 1) := dk_128 hN_cX11_layCorners rfl rfl
theorem dX11_layCorners_229 : decode cX11_layCorners 229 = .ok (.iconst 1, 1) := dk_4 hN_cX11_layCorners rfl rfl
theorem dX11_layCorners_230 : decode cX11_layCorners 230 = .ok (.iload 4, 2) := dk_21 hN_cX11_layCorners rfl rfl rfl
theorem dX11_layCorners_232 : decode cX11_layCorners 232 = .ok (.ishl, 1) := dk_120 hN_cX11_layCorners rfl rfl
theorem dX11_layCorners_233 : decode cX11_layCorners 233 = .ok (.ior, 1) := dk_128 hN_cX11_layCorners rfl rfl
theorem dX11_layCorners_234 : decode cX11_layCorners 234 = .ok (.iastore, 1) := dk_79 hN_cX11_layCorners rfl rfl
theorem dX11_layCorners_235 : decode cX11_layCorners 235 = .ok (.aload_n 0, 1) := dk_42 hN_cX11_layCorners rfl rfl
theorem dX11_layCorners_236 : decode cX11_layCorners 236 = .ok (.dup, 1) := dk_89 hN_cX11_layCorners rfl rfl
theorem dX11_layCorners_237 : decode cX11_layCorners 237 = .ok (.getfield 363, 3) := dk_180 hN_cX11_layCorners rfl rfl rfl
theorem dX11_layCorners_240 : decode cX11_layCorners 240 = .ok (.iconst 1, 1) := dk_4 hN_cX11_layCorners rfl rfl
theorem dX11_layCorners_241 : decode cX11_layCorners 241 = .ok (.iadd, 1) := dk_96 hN_cX11_layCorners rfl rfl
theorem dX11_layCorners_242 : decode cX11_layCorners 242 = .ok (.putfield 363, 3) := dk_181 hN_cX11_layCorners rfl rfl rfl
theorem dX11_layCorners_245 : decode cX11_layCorners 245 = .ok (.iinc 4 1, 3) := dk_132 hN_cX11_layCorners rfl rfl rfl rfl
theorem dX11_layCorners_248 : decode cX11_layCorners 248 = .ok (.goto (-81), 3) := dk_167 hN_cX11_layCorners rfl rfl rfl
theorem dX11_layCorners_207 : decode cX11_layCorners 207 = .ok (.goto 38, 3) := dk_167 hN_cX11_layCorners rfl rfl rfl
theorem dX11_corners_0 : decode cX11_corners 0 = .ok (.aload_n 0, 1) := dk_42 hN_cX11_corners rfl rfl
theorem dX11_corners_1 : decode cX11_corners 1 = .ok (.invokevirtual 174, 3) := dk_182 hN_cX11_corners rfl rfl rfl
theorem dX11_corners_4 : decode cX11_corners 4 = .ok (.aload_n 0, 1) := dk_42 hN_cX11_corners rfl rfl
theorem dX11_corners_5 : decode cX11_corners 5 = .ok (.getfield 183, 3) := dk_180 hN_cX11_corners rfl rfl rfl
theorem dX11_corners_8 : decode cX11_corners 8 = .ok (.ifCond .ne 9, 3) := dk_154 hN_cX11_corners rfl rfl rfl
theorem dX11_corners_17 : decode cX11_corners 17 = .ok (.aload_n 0, 1) := dk_42 hN_cX11_corners rfl rfl
theorem dX11_corners_18 : decode cX11_corners 18 = .ok (.invokevirtual 366, 3) := dk_182 hN_cX11_corners rfl rfl rfl
theorem dX11_corners_21 : decode cX11_corners 21 = .ok (.aload_n 0, 1) := dk_42 hN_cX11_corners rfl rfl
theorem dX11_corners_22 : decode cX11_corners 22 = .ok (.getfield 363, 3) := dk_180 hN_cX11_corners rfl rfl rfl
theorem dX11_corners_25 : decode cX11_corners 25 = .ok (.ireturn, 1) := dk_172 hN_cX11_corners rfl rfl
theorem dX11_corners_11 : decode cX11_corners 11 = .ok (.aload_n 0, 1) := dk_42 hN_cX11_corners rfl rfl
theorem dX11_corners_12 : decode cX11_corners 12 = .ok (.iconst 1, 1) := dk_4 hN_cX11_corners rfl rfl
theorem dX11_corners_13 : decode cX11_corners 13 = .ok (.invokevirtual 177, 3) := dk_182 hN_cX11_corners rfl rfl rfl
theorem dX11_corners_16 : decode cX11_corners 16 = .ok (.ireturn, 1) := dk_172 hN_cX11_corners rfl rfl
theorem dX11_isSoFar_0 : decode cX11_isSoFar 0 = .ok (.iconst 1, 1) := dk_4 hN_cX11_isSoFar rfl rfl
theorem dX11_isSoFar_1 : decode cX11_isSoFar 1 = .ok (.istore 4, 2) := dk_54 hN_cX11_isSoFar rfl rfl rfl
theorem dX11_isSoFar_3 : decode cX11_isSoFar 3 = .ok (.iconst 0, 1) := dk_3 hN_cX11_isSoFar rfl rfl
theorem dX11_isSoFar_4 : decode cX11_isSoFar 4 = .ok (.istore 5, 2) := dk_54 hN_cX11_isSoFar rfl rfl rfl
theorem dX11_isSoFar_6 : decode cX11_isSoFar 6 = .ok (.iload 5, 2) := dk_21 hN_cX11_isSoFar rfl rfl rfl
theorem dX11_isSoFar_8 : decode cX11_isSoFar 8 = .ok (.aload_n 0, 1) := dk_42 hN_cX11_isSoFar rfl rfl
theorem dX11_isSoFar_9 : decode cX11_isSoFar 9 = .ok (.getfield 363, 3) := dk_180 hN_cX11_isSoFar rfl rfl rfl
theorem dX11_isSoFar_12 : decode cX11_isSoFar 12 = .ok (.if_icmp .ge 72, 3) := dk_162 hN_cX11_isSoFar rfl rfl rfl
theorem dX11_isSoFar_84 : decode cX11_isSoFar 84 = .ok (.iload 4, 2) := dk_21 hN_cX11_isSoFar rfl rfl rfl
theorem dX11_isSoFar_86 : decode cX11_isSoFar 86 = .ok (.ireturn, 1) := dk_172 hN_cX11_isSoFar rfl rfl
theorem dX11_isSoFar_15 : decode cX11_isSoFar 15 = .ok (.iload 4, 2) := dk_21 hN_cX11_isSoFar rfl rfl rfl
theorem dX11_isSoFar_17 : decode cX11_isSoFar 17 = .ok (.ifCond .eq 67, 3) := dk_153 hN_cX11_isSoFar rfl rfl rfl
theorem dX11_isSoFar_20 : decode cX11_isSoFar 20 = .ok (.aload_n 0, 1) := dk_42 hN_cX11_isSoFar rfl rfl
theorem dX11_isSoFar_21 : decode cX11_isSoFar 21 = .ok (.getfield 54, 3) := dk_180 hN_cX11_isSoFar rfl rfl rfl
theorem dX11_isSoFar_24 : decode cX11_isSoFar 24 = .ok (.iload 5, 2) := dk_21 hN_cX11_isSoFar rfl rfl rfl
theorem dX11_isSoFar_26 : decode cX11_isSoFar 26 = .ok (.iaload, 1) := dk_46 hN_cX11_isSoFar rfl rfl
theorem dX11_isSoFar_27 : decode cX11_isSoFar 27 = .ok (.istore 6, 2) := dk_54 hN_cX11_isSoFar rfl rfl rfl
theorem dX11_isSoFar_29 : decode cX11_isSoFar 29 = .ok (.iload 6, 2) := dk_21 hN_cX11_isSoFar rfl rfl rfl
theorem dX11_isSoFar_31 : decode cX11_isSoFar 31 = .ok (.iload_n 1, 1) := dk_27 hN_cX11_isSoFar rfl rfl
theorem dX11_isSoFar_32 : decode cX11_isSoFar 32 = .ok (.iconst (-1), 1) := dk_2 hN_cX11_isSoFar rfl rfl
theorem dX11_isSoFar_33 : decode cX11_isSoFar 33 = .ok (.ixor, 1) := dk_130 hN_cX11_isSoFar rfl rfl
theorem dX11_isSoFar_34 : decode cX11_isSoFar 34 = .ok (.iand, 1) := dk_126 hN_cX11_isSoFar rfl rfl
theorem dX11_isSoFar_35 : decode cX11_isSoFar 35 = .ok (.ifCond .eq 6, 3) := dk_153 hN_cX11_isSoFar rfl rfl rfl
theorem dX11_isSoFar_41 : decode cX11_isSoFar 41 = .ok (.iload 6, 2) := dk_21 hN_cX11_isSoFar rfl rfl rfl
theorem dX11_isSoFar_43 : decode cX11_isSoFar 43 = .ok (.iload_n 2, 1) := dk_28 hN_cX11_isSoFar rfl rfl
theorem dX11_isSoFar_44 : decode cX11_isSoFar 44 = .ok (.iand, 1) := dk_126 hN_cX11_isSoFar rfl rfl
theorem dX11_isSoFar_45 : decode cX11_isSoFar 45 = .ok (.invokestatic 323, 3) := dk_184 hN_cX11_isSoFar rfl rfl rfl
theorem dX11_isSoFar_48 : decode cX11_isSoFar 48 = .ok (.istore 7, 2) := dk_54 hN_cX11_isSoFar rfl rfl rfl
theorem dX11_isSoFar_50 : decode cX11_isSoFar 50 = .ok (.iload 7, 2) := dk_21 hN_cX11_isSoFar rfl rfl rfl
theorem dX11_isSoFar_52 : decode cX11_isSoFar 52 = .ok (.iconst 2, 1) := dk_5 hN_cX11_isSoFar rfl rfl
theorem dX11_isSoFar_53 : decode cX11_isSoFar 53 = .ok (.if_icmp .ge 22, 3) := dk_162 hN_cX11_isSoFar rfl rfl rfl
theorem dX11_isSoFar_75 : decode cX11_isSoFar 75 = .ok (.iconst 0, 1) := dk_3 hN_cX11_isSoFar rfl rfl
theorem dX11_isSoFar_76 : decode cX11_isSoFar 76 = .ok (.istore 4, 2) := dk_54 hN_cX11_isSoFar rfl rfl rfl
theorem dX11_isSoFar_78 : decode cX11_isSoFar 78 = .ok (.iinc 5 1, 3) := dk_132 hN_cX11_isSoFar rfl rfl rfl rfl
theorem dX11_isSoFar_81 : decode cX11_isSoFar 81 = .ok (.goto (-75), 3) := dk_167 hN_cX11_isSoFar rfl rfl rfl
theorem dX11_isSoFar_56 : decode cX11_isSoFar 56 = .ok (.iload 6, 2) := dk_21 hN_cX11_isSoFar rfl rfl rfl
theorem dX11_isSoFar_58 : decode cX11_isSoFar 58 = .ok (.iload_n 3, 1) := dk_29 hN_cX11_isSoFar rfl rfl
theorem dX11_isSoFar_59 : decode cX11_isSoFar 59 = .ok (.iconst (-1), 1) := dk_2 hN_cX11_isSoFar rfl rfl
theorem dX11_isSoFar_60 : decode cX11_isSoFar 60 = .ok (.ixor, 1) := dk_130 hN_cX11_isSoFar rfl rfl
theorem dX11_isSoFar_61 : decode cX11_isSoFar 61 = .ok (.iand, 1) := dk_126 hN_cX11_isSoFar rfl rfl
theorem dX11_isSoFar_62 : decode cX11_isSoFar 62 = .ok (.ifCond .ne 9, 3) := dk_154 hN_cX11_isSoFar rfl rfl rfl
theorem dX11_isSoFar_71 : decode cX11_isSoFar 71 = .ok (.iconst 1, 1) := dk_4 hN_cX11_isSoFar rfl rfl
theorem dX11_isSoFar_72 : decode cX11_isSoFar 72 = .ok (.goto 4, 3) := dk_167 hN_cX11_isSoFar rfl rfl rfl
theorem dX11_isSoFar_65 : decode cX11_isSoFar 65 = .ok (.iload 7, 2) := dk_21 hN_cX11_isSoFar rfl rfl rfl
theorem dX11_isSoFar_67 : decode cX11_isSoFar 67 = .ok (.iconst 1, 1) := dk_4 hN_cX11_isSoFar rfl rfl
theorem dX11_isSoFar_68 : decode cX11_isSoFar 68 = .ok (.if_icmp .ne 7, 3) := dk_160 hN_cX11_isSoFar rfl rfl rfl
theorem dX11_isSoFar_38 : decode cX11_isSoFar 38 = .ok (.goto 40, 3) := dk_167 hN_cX11_isSoFar rfl rfl rfl
theorem dX11_colour_0 : decode cX11_colour 0 = .ok (.aload_n 0, 1) := dk_42 hN_cX11_colour rfl rfl
theorem dX11_colour_1 : decode cX11_colour 1 = .ok (.getfield 20, 3) := dk_180 hN_cX11_colour rfl rfl rfl
theorem dX11_colour_4 : decode cX11_colour 4 = .ok (.bipush 85, 2) := dk_16 hN_cX11_colour rfl rfl rfl
theorem dX11_colour_6 : decode cX11_colour 6 = .ok (.iaload, 1) := dk_46 hN_cX11_colour rfl rfl
theorem dX11_colour_7 : decode cX11_colour 7 = .ok (.istore_n 3, 1) := dk_62 hN_cX11_colour rfl rfl
theorem dX11_colour_8 : decode cX11_colour 8 = .ok (.aload_n 0, 1) := dk_42 hN_cX11_colour rfl rfl
theorem dX11_colour_9 : decode cX11_colour 9 = .ok (.iconst 0, 1) := dk_3 hN_cX11_colour rfl rfl
theorem dX11_colour_10 : decode cX11_colour 10 = .ok (.putfield 369, 3) := dk_181 hN_cX11_colour rfl rfl rfl
theorem dX11_colour_13 : decode cX11_colour 13 = .ok (.aload_n 0, 1) := dk_42 hN_cX11_colour rfl rfl
theorem dX11_colour_14 : decode cX11_colour 14 = .ok (.iconst 0, 1) := dk_3 hN_cX11_colour rfl rfl
theorem dX11_colour_15 : decode cX11_colour 15 = .ok (.putfield 372, 3) := dk_181 hN_cX11_colour rfl rfl rfl
theorem dX11_colour_18 : decode cX11_colour 18 = .ok (.iconst 0, 1) := dk_3 hN_cX11_colour rfl rfl
theorem dX11_colour_19 : decode cX11_colour 19 = .ok (.istore 4, 2) := dk_54 hN_cX11_colour rfl rfl rfl
theorem dX11_colour_21 : decode cX11_colour 21 = .ok (.iload 4, 2) := dk_21 hN_cX11_colour rfl rfl rfl
theorem dX11_colour_23 : decode cX11_colour 23 = .ok (.iload_n 3, 1) := dk_29 hN_cX11_colour rfl rfl
theorem dX11_colour_24 : decode cX11_colour 24 = .ok (.if_icmp .gt 17, 3) := dk_163 hN_cX11_colour rfl rfl rfl
theorem dX11_colour_41 : decode cX11_colour 41 = .ok (.iconst 0, 1) := dk_3 hN_cX11_colour rfl rfl
theorem dX11_colour_42 : decode cX11_colour 42 = .ok (.istore 4, 2) := dk_54 hN_cX11_colour rfl rfl rfl
theorem dX11_colour_44 : decode cX11_colour 44 = .ok (.iconst 0, 1) := dk_3 hN_cX11_colour rfl rfl
theorem dX11_colour_45 : decode cX11_colour 45 = .ok (.istore 5, 2) := dk_54 hN_cX11_colour rfl rfl rfl
theorem dX11_colour_27 : decode cX11_colour 27 = .ok (.aload_n 0, 1) := dk_42 hN_cX11_colour rfl rfl
theorem dX11_colour_28 : decode cX11_colour 28 = .ok (.getfield 60, 3) := dk_180 hN_cX11_colour rfl rfl rfl
theorem dX11_colour_31 : decode cX11_colour 31 = .ok (.iload 4, 2) := dk_21 hN_cX11_colour rfl rfl rfl
theorem dX11_colour_33 : decode cX11_colour 33 = .ok (.iconst 0, 1) := dk_3 hN_cX11_colour rfl rfl
theorem dX11_colour_34 : decode cX11_colour 34 = .ok (.iastore, 1) := dk_79 hN_cX11_colour rfl rfl
theorem dX11_colour_35 : decode cX11_colour 35 = .ok (.iinc 4 1, 3) := dk_132 hN_cX11_colour rfl rfl rfl rfl
theorem dX11_colour_38 : decode cX11_colour 38 = .ok (.goto (-17), 3) := dk_167 hN_cX11_colour rfl rfl rfl
theorem dX11_colour_47 : decode cX11_colour 47 = .ok (.iload 4, 2) := dk_21 hN_cX11_colour rfl rfl rfl
theorem dX11_colour_49 : decode cX11_colour 49 = .ok (.ifCond .lt 205, 3) := dk_155 hN_cX11_colour rfl rfl rfl
theorem dX11_colour_254 : decode cX11_colour 254 = .ok (.return_, 1) := dk_177 hN_cX11_colour rfl rfl
theorem dX11_colour_52 : decode cX11_colour 52 = .ok (.iload 4, 2) := dk_21 hN_cX11_colour rfl rfl rfl
theorem dX11_colour_54 : decode cX11_colour 54 = .ok (.iload_n 3, 1) := dk_29 hN_cX11_colour rfl rfl
theorem dX11_colour_55 : decode cX11_colour 55 = .ok (.if_icmp .ne 56, 3) := dk_160 hN_cX11_colour rfl rfl rfl
theorem dX11_colour_111 : decode cX11_colour 111 = .ok (.iconst 1, 1) := dk_4 hN_cX11_colour rfl rfl
theorem dX11_colour_112 : decode cX11_colour 112 = .ok (.iload 4, 2) := dk_21 hN_cX11_colour rfl rfl rfl
theorem dX11_colour_114 : decode cX11_colour 114 = .ok (.ishl, 1) := dk_120 hN_cX11_colour rfl rfl
theorem dX11_colour_115 : decode cX11_colour 115 = .ok (.istore 6, 2) := dk_54 hN_cX11_colour rfl rfl rfl
theorem dX11_colour_117 : decode cX11_colour 117 = .ok (.iload 5, 2) := dk_21 hN_cX11_colour rfl rfl rfl
theorem dX11_colour_119 : decode cX11_colour 119 = .ok (.iload 6, 2) := dk_21 hN_cX11_colour rfl rfl rfl
theorem dX11_colour_121 : decode cX11_colour 121 = .ok (.iconst (-1), 1) := dk_2 hN_cX11_colour rfl rfl
theorem dX11_colour_122 : decode cX11_colour 122 = .ok (.ixor, 1) := dk_130 hN_cX11_colour rfl rfl
theorem dX11_colour_123 : decode cX11_colour 123 = .ok (.iand, 1) := dk_126 hN_cX11_colour rfl rfl
theorem dX11_colour_124 : decode cX11_colour 124 = .ok (.istore 5, 2) := dk_54 hN_cX11_colour rfl rfl rfl
theorem dX11_colour_126 : decode cX11_colour 126 = .ok (.aload_n 0, 1) := dk_42 hN_cX11_colour rfl rfl
theorem dX11_colour_127 : decode cX11_colour 127 = .ok (.getfield 60, 3) := dk_180 hN_cX11_colour rfl rfl rfl
theorem dX11_colour_130 : decode cX11_colour 130 = .ok (.iload 4, 2) := dk_21 hN_cX11_colour rfl rfl rfl
theorem dX11_colour_132 : decode cX11_colour 132 = .ok (.iaload, 1) := dk_46 hN_cX11_colour rfl rfl
theorem dX11_colour_133 : decode cX11_colour 133 = .ok (.iconst 2, 1) := dk_5 hN_cX11_colour rfl rfl
theorem dX11_colour_134 : decode cX11_colour 134 = .ok (.if_icmp .ne 17, 3) := dk_160 hN_cX11_colour rfl rfl rfl
theorem dX11_colour_151 : decode cX11_colour 151 = .ok (.aload_n 0, 1) := dk_42 hN_cX11_colour rfl rfl
theorem dX11_colour_152 : decode cX11_colour 152 = .ok (.getfield 60, 3) := dk_180 hN_cX11_colour rfl rfl rfl
theorem dX11_colour_155 : decode cX11_colour 155 = .ok (.iload 4, 2) := dk_21 hN_cX11_colour rfl rfl rfl
theorem dX11_colour_157 : decode cX11_colour 157 = .ok (.iaload, 1) := dk_46 hN_cX11_colour rfl rfl
theorem dX11_colour_158 : decode cX11_colour 158 = .ok (.iconst 1, 1) := dk_4 hN_cX11_colour rfl rfl
theorem dX11_colour_159 : decode cX11_colour 159 = .ok (.if_icmp .ne 7, 3) := dk_160 hN_cX11_colour rfl rfl rfl
theorem dX11_colour_166 : decode cX11_colour 166 = .ok (.iconst 0, 1) := dk_3 hN_cX11_colour rfl rfl
theorem dX11_colour_167 : decode cX11_colour 167 = .ok (.istore 7, 2) := dk_54 hN_cX11_colour rfl rfl rfl
theorem dX11_colour_169 : decode cX11_colour 169 = .ok (.aload_n 0, 1) := dk_42 hN_cX11_colour rfl rfl
theorem dX11_colour_170 : decode cX11_colour 170 = .ok (.getfield 60, 3) := dk_180 hN_cX11_colour rfl rfl rfl
theorem dX11_colour_173 : decode cX11_colour 173 = .ok (.iload 4, 2) := dk_21 hN_cX11_colour rfl rfl rfl
theorem dX11_colour_175 : decode cX11_colour 175 = .ok (.dup2, 1) := dk_92 hN_cX11_colour rfl rfl
theorem dX11_colour_176 : decode cX11_colour 176 = .ok (.iaload, 1) := dk_46 hN_cX11_colour rfl rfl
theorem dX11_colour_177 : decode cX11_colour 177 = .ok (.iconst 1, 1) := dk_4 hN_cX11_colour rfl rfl
theorem dX11_colour_178 : decode cX11_colour 178 = .ok (.iadd, 1) := dk_96 hN_cX11_colour rfl rfl
theorem dX11_colour_179 : decode cX11_colour 179 = .ok (.iastore, 1) := dk_79 hN_cX11_colour rfl rfl
theorem dX11_colour_180 : decode cX11_colour 180 = .ok (.iload 7, 2) := dk_21 hN_cX11_colour rfl rfl rfl
theorem dX11_colour_182 : decode cX11_colour 182 = .ok (.ifCond .eq 26, 3) := dk_153 hN_cX11_colour rfl rfl rfl
theorem dX11_colour_208 : decode cX11_colour 208 = .ok (.iload 7, 2) := dk_21 hN_cX11_colour rfl rfl rfl
theorem dX11_colour_210 : decode cX11_colour 210 = .ok (.ifCond .eq 11, 3) := dk_153 hN_cX11_colour rfl rfl rfl
theorem dX11_colour_221 : decode cX11_colour 221 = .ok (.iload 5, 2) := dk_21 hN_cX11_colour rfl rfl rfl
theorem dX11_colour_223 : decode cX11_colour 223 = .ok (.istore 8, 2) := dk_54 hN_cX11_colour rfl rfl rfl
theorem dX11_colour_225 : decode cX11_colour 225 = .ok (.aload_n 0, 1) := dk_42 hN_cX11_colour rfl rfl
theorem dX11_colour_226 : decode cX11_colour 226 = .ok (.iload_n 1, 1) := dk_27 hN_cX11_colour rfl rfl
theorem dX11_colour_227 : decode cX11_colour 227 = .ok (.iload 8, 2) := dk_21 hN_cX11_colour rfl rfl rfl
theorem dX11_colour_229 : decode cX11_colour 229 = .ok (.iload 6, 2) := dk_21 hN_cX11_colour rfl rfl rfl
theorem dX11_colour_231 : decode cX11_colour 231 = .ok (.iconst 1, 1) := dk_4 hN_cX11_colour rfl rfl
theorem dX11_colour_232 : decode cX11_colour 232 = .ok (.ishl, 1) := dk_120 hN_cX11_colour rfl rfl
theorem dX11_colour_233 : decode cX11_colour 233 = .ok (.iconst 1, 1) := dk_4 hN_cX11_colour rfl rfl
theorem dX11_colour_234 : decode cX11_colour 234 = .ok (.isub, 1) := dk_100 hN_cX11_colour rfl rfl
theorem dX11_colour_235 : decode cX11_colour 235 = .ok (.invokevirtual 375, 3) := dk_182 hN_cX11_colour rfl rfl rfl
theorem dX11_colour_238 : decode cX11_colour 238 = .ok (.ifCond .ne 6, 3) := dk_154 hN_cX11_colour rfl rfl rfl
theorem dX11_colour_244 : decode cX11_colour 244 = .ok (.iload 8, 2) := dk_21 hN_cX11_colour rfl rfl rfl
theorem dX11_colour_246 : decode cX11_colour 246 = .ok (.istore 5, 2) := dk_54 hN_cX11_colour rfl rfl rfl
theorem dX11_colour_248 : decode cX11_colour 248 = .ok (.iinc 4 1, 3) := dk_132 hN_cX11_colour rfl rfl rfl rfl
theorem dX11_colour_251 : decode cX11_colour 251 = .ok (.goto (-204), 3) := dk_167 hN_cX11_colour rfl rfl rfl
theorem dX11_colour_241 : decode cX11_colour 241 = .ok (.goto (-194), 3) := dk_167 hN_cX11_colour rfl rfl rfl
theorem dX11_colour_162 : decode cX11_colour 162 = .ok (.iconst 1, 1) := dk_4 hN_cX11_colour rfl rfl
theorem dX11_colour_163 : decode cX11_colour 163 = .ok (.goto 4, 3) := dk_167 hN_cX11_colour rfl rfl rfl
theorem dX11_colour_185 : decode cX11_colour 185 = .ok (.iload_n 1, 1) := dk_27 hN_cX11_colour rfl rfl
theorem dX11_colour_186 : decode cX11_colour 186 = .ok (.iload 6, 2) := dk_21 hN_cX11_colour rfl rfl rfl
theorem dX11_colour_188 : decode cX11_colour 188 = .ok (.iand, 1) := dk_126 hN_cX11_colour rfl rfl
theorem dX11_colour_189 : decode cX11_colour 189 = .ok (.ifCond .eq (-142), 3) := dk_153 hN_cX11_colour rfl rfl rfl
theorem dX11_colour_192 : decode cX11_colour 192 = .ok (.aload_n 0, 1) := dk_42 hN_cX11_colour rfl rfl
theorem dX11_colour_193 : decode cX11_colour 193 = .ok (.getfield 57, 3) := dk_180 hN_cX11_colour rfl rfl rfl
theorem dX11_colour_196 : decode cX11_colour 196 = .ok (.iload 4, 2) := dk_21 hN_cX11_colour rfl rfl rfl
theorem dX11_colour_198 : decode cX11_colour 198 = .ok (.iaload, 1) := dk_46 hN_cX11_colour rfl rfl
theorem dX11_colour_199 : decode cX11_colour 199 = .ok (.iload 5, 2) := dk_21 hN_cX11_colour rfl rfl rfl
theorem dX11_colour_201 : decode cX11_colour 201 = .ok (.iand, 1) := dk_126 hN_cX11_colour rfl rfl
theorem dX11_colour_202 : decode cX11_colour 202 = .ok (.ifCond .eq 6, 3) := dk_153 hN_cX11_colour rfl rfl rfl
theorem dX11_colour_213 : decode cX11_colour 213 = .ok (.iload 5, 2) := dk_21 hN_cX11_colour rfl rfl rfl
theorem dX11_colour_215 : decode cX11_colour 215 = .ok (.iload 6, 2) := dk_21 hN_cX11_colour rfl rfl rfl
theorem dX11_colour_217 : decode cX11_colour 217 = .ok (.ior, 1) := dk_128 hN_cX11_colour rfl rfl
theorem dX11_colour_218 : decode cX11_colour 218 = .ok (.goto 5, 3) := dk_167 hN_cX11_colour rfl rfl rfl
theorem dX11_colour_205 : decode cX11_colour 205 = .ok (.goto (-158), 3) := dk_167 hN_cX11_colour rfl rfl rfl
theorem dX11_colour_137 : decode cX11_colour 137 = .ok (.aload_n 0, 1) := dk_42 hN_cX11_colour rfl rfl
theorem dX11_colour_138 : decode cX11_colour 138 = .ok (.getfield 60, 3) := dk_180 hN_cX11_colour rfl rfl rfl
theorem dX11_colour_141 : decode cX11_colour 141 = .ok (.iload 4, 2) := dk_21 hN_cX11_colour rfl rfl rfl
theorem dX11_colour_143 : decode cX11_colour 143 = .ok (.iconst 0, 1) := dk_3 hN_cX11_colour rfl rfl
theorem dX11_colour_144 : decode cX11_colour 144 = .ok (.iastore, 1) := dk_79 hN_cX11_colour rfl rfl
theorem dX11_colour_145 : decode cX11_colour 145 = .ok (.iinc 4 (-1), 3) := dk_132 hN_cX11_colour rfl rfl rfl rfl
theorem dX11_colour_148 : decode cX11_colour 148 = .ok (.goto (-101), 3) := dk_167 hN_cX11_colour rfl rfl rfl
theorem dX11_colour_58 : decode cX11_colour 58 = .ok (.aload_n 0, 1) := dk_42 hN_cX11_colour rfl rfl
theorem dX11_colour_59 : decode cX11_colour 59 = .ok (.dup, 1) := dk_89 hN_cX11_colour rfl rfl
theorem dX11_colour_60 : decode cX11_colour 60 = .ok (.getfield 369, 3) := dk_180 hN_cX11_colour rfl rfl rfl
theorem dX11_colour_63 : decode cX11_colour 63 = .ok (.iconst 1, 1) := dk_4 hN_cX11_colour rfl rfl
theorem dX11_colour_64 : decode cX11_colour 64 = .ok (.iadd, 1) := dk_96 hN_cX11_colour rfl rfl
theorem dX11_colour_65 : decode cX11_colour 65 = .ok (.putfield 369, 3) := dk_181 hN_cX11_colour rfl rfl rfl
theorem dX11_colour_68 : decode cX11_colour 68 = .ok (.aload_n 0, 1) := dk_42 hN_cX11_colour rfl rfl
theorem dX11_colour_69 : decode cX11_colour 69 = .ok (.iload 5, 2) := dk_21 hN_cX11_colour rfl rfl rfl
theorem dX11_colour_71 : decode cX11_colour 71 = .ok (.invokestatic 323, 3) := dk_184 hN_cX11_colour rfl rfl rfl
theorem dX11_colour_74 : decode cX11_colour 74 = .ok (.aload_n 0, 1) := dk_42 hN_cX11_colour rfl rfl
theorem dX11_colour_75 : decode cX11_colour 75 = .ok (.getfield 372, 3) := dk_180 hN_cX11_colour rfl rfl rfl
theorem dX11_colour_78 : decode cX11_colour 78 = .ok (.if_icmp .le 11, 3) := dk_164 hN_cX11_colour rfl rfl rfl
theorem dX11_colour_89 : decode cX11_colour 89 = .ok (.aload_n 0, 1) := dk_42 hN_cX11_colour rfl rfl
theorem dX11_colour_90 : decode cX11_colour 90 = .ok (.getfield 372, 3) := dk_180 hN_cX11_colour rfl rfl rfl
theorem dX11_colour_93 : decode cX11_colour 93 = .ok (.putfield 372, 3) := dk_181 hN_cX11_colour rfl rfl rfl
theorem dX11_colour_96 : decode cX11_colour 96 = .ok (.aload_n 0, 1) := dk_42 hN_cX11_colour rfl rfl
theorem dX11_colour_97 : decode cX11_colour 97 = .ok (.getfield 369, 3) := dk_180 hN_cX11_colour rfl rfl rfl
theorem dX11_colour_100 : decode cX11_colour 100 = .ok (.iload_n 2, 1) := dk_28 hN_cX11_colour rfl rfl
theorem dX11_colour_101 : decode cX11_colour 101 = .ok (.if_icmp .ne 4, 3) := dk_160 hN_cX11_colour rfl rfl rfl
theorem dX11_colour_105 : decode cX11_colour 105 = .ok (.iinc 4 (-1), 3) := dk_132 hN_cX11_colour rfl rfl rfl rfl
theorem dX11_colour_108 : decode cX11_colour 108 = .ok (.goto (-61), 3) := dk_167 hN_cX11_colour rfl rfl rfl
theorem dX11_colour_104 : decode cX11_colour 104 = .ok (.return_, 1) := dk_177 hN_cX11_colour rfl rfl
theorem dX11_colour_81 : decode cX11_colour 81 = .ok (.iload 5, 2) := dk_21 hN_cX11_colour rfl rfl rfl
theorem dX11_colour_83 : decode cX11_colour 83 = .ok (.invokestatic 323, 3) := dk_184 hN_cX11_colour rfl rfl rfl
theorem dX11_colour_86 : decode cX11_colour 86 = .ok (.goto 7, 3) := dk_167 hN_cX11_colour rfl rfl rfl
theorem dX11_allRays_0 : decode cX11_allRays 0 = .ok (.iconst 1, 1) := dk_4 hN_cX11_allRays rfl rfl
theorem dX11_allRays_1 : decode cX11_allRays 1 = .ok (.aload_n 0, 1) := dk_42 hN_cX11_allRays rfl rfl
theorem dX11_allRays_2 : decode cX11_allRays 2 = .ok (.getfield 20, 3) := dk_180 hN_cX11_allRays rfl rfl rfl
theorem dX11_allRays_5 : decode cX11_allRays 5 = .ok (.bipush 85, 2) := dk_16 hN_cX11_allRays rfl rfl rfl
theorem dX11_allRays_7 : decode cX11_allRays 7 = .ok (.iaload, 1) := dk_46 hN_cX11_allRays rfl rfl
theorem dX11_allRays_8 : decode cX11_allRays 8 = .ok (.ishl, 1) := dk_120 hN_cX11_allRays rfl rfl
theorem dX11_allRays_9 : decode cX11_allRays 9 = .ok (.iconst 1, 1) := dk_4 hN_cX11_allRays rfl rfl
theorem dX11_allRays_10 : decode cX11_allRays 10 = .ok (.isub, 1) := dk_100 hN_cX11_allRays rfl rfl
theorem dX11_allRays_11 : decode cX11_allRays 11 = .ok (.ireturn, 1) := dk_172 hN_cX11_allRays rfl rfl
theorem dX11_hasColour_0 : decode cX11_hasColour 0 = .ok (.aload_n 0, 1) := dk_42 hN_cX11_hasColour rfl rfl
theorem dX11_hasColour_1 : decode cX11_hasColour 1 = .ok (.iload_n 1, 1) := dk_27 hN_cX11_hasColour rfl rfl
theorem dX11_hasColour_2 : decode cX11_hasColour 2 = .ok (.iconst 1, 1) := dk_4 hN_cX11_hasColour rfl rfl
theorem dX11_hasColour_3 : decode cX11_hasColour 3 = .ok (.invokevirtual 378, 3) := dk_182 hN_cX11_hasColour rfl rfl rfl
theorem dX11_hasColour_6 : decode cX11_hasColour 6 = .ok (.aload_n 0, 1) := dk_42 hN_cX11_hasColour rfl rfl
theorem dX11_hasColour_7 : decode cX11_hasColour 7 = .ok (.getfield 369, 3) := dk_180 hN_cX11_hasColour rfl rfl rfl
theorem dX11_hasColour_10 : decode cX11_hasColour 10 = .ok (.ifCond .le 7, 3) := dk_158 hN_cX11_hasColour rfl rfl rfl
theorem dX11_hasColour_17 : decode cX11_hasColour 17 = .ok (.iconst 0, 1) := dk_3 hN_cX11_hasColour rfl rfl
theorem dX11_hasColour_18 : decode cX11_hasColour 18 = .ok (.ireturn, 1) := dk_172 hN_cX11_hasColour rfl rfl
theorem dX11_hasColour_13 : decode cX11_hasColour 13 = .ok (.iconst 1, 1) := dk_4 hN_cX11_hasColour rfl rfl
theorem dX11_hasColour_14 : decode cX11_hasColour 14 = .ok (.goto 4, 3) := dk_167 hN_cX11_hasColour rfl rfl rfl
theorem dX11_colours_0 : decode cX11_colours 0 = .ok (.aload_n 0, 1) := dk_42 hN_cX11_colours rfl rfl
theorem dX11_colours_1 : decode cX11_colours 1 = .ok (.invokevirtual 174, 3) := dk_182 hN_cX11_colours rfl rfl rfl
theorem dX11_colours_4 : decode cX11_colours 4 = .ok (.aload_n 0, 1) := dk_42 hN_cX11_colours rfl rfl
theorem dX11_colours_5 : decode cX11_colours 5 = .ok (.getfield 183, 3) := dk_180 hN_cX11_colours rfl rfl rfl
theorem dX11_colours_8 : decode cX11_colours 8 = .ok (.ifCond .ne 9, 3) := dk_154 hN_cX11_colours rfl rfl rfl
theorem dX11_colours_17 : decode cX11_colours 17 = .ok (.aload_n 0, 1) := dk_42 hN_cX11_colours rfl rfl
theorem dX11_colours_18 : decode cX11_colours 18 = .ok (.invokevirtual 366, 3) := dk_182 hN_cX11_colours rfl rfl rfl
theorem dX11_colours_21 : decode cX11_colours 21 = .ok (.aload_n 0, 1) := dk_42 hN_cX11_colours rfl rfl
theorem dX11_colours_22 : decode cX11_colours 22 = .ok (.aload_n 0, 1) := dk_42 hN_cX11_colours rfl rfl
theorem dX11_colours_23 : decode cX11_colours 23 = .ok (.invokevirtual 381, 3) := dk_182 hN_cX11_colours rfl rfl rfl
theorem dX11_colours_26 : decode cX11_colours 26 = .ok (.ldc_w 384, 3) := dk_19 hN_cX11_colours rfl rfl rfl
theorem dX11_colours_29 : decode cX11_colours 29 = .ok (.invokevirtual 378, 3) := dk_182 hN_cX11_colours rfl rfl rfl
theorem dX11_colours_32 : decode cX11_colours 32 = .ok (.aload_n 0, 1) := dk_42 hN_cX11_colours rfl rfl
theorem dX11_colours_33 : decode cX11_colours 33 = .ok (.getfield 369, 3) := dk_180 hN_cX11_colours rfl rfl rfl
theorem dX11_colours_36 : decode cX11_colours 36 = .ok (.ireturn, 1) := dk_172 hN_cX11_colours rfl rfl
theorem dX11_colours_11 : decode cX11_colours 11 = .ok (.aload_n 0, 1) := dk_42 hN_cX11_colours rfl rfl
theorem dX11_colours_12 : decode cX11_colours 12 = .ok (.iconst 1, 1) := dk_4 hN_cX11_colours rfl rfl
theorem dX11_colours_13 : decode cX11_colours 13 = .ok (.invokevirtual 177, 3) := dk_182 hN_cX11_colours rfl rfl rfl
theorem dX11_colours_16 : decode cX11_colours 16 = .ok (.ireturn, 1) := dk_172 hN_cX11_colours rfl rfl
theorem dX11_ones_0 : decode cX11_ones 0 = .ok (.aload_n 0, 1) := dk_42 hN_cX11_ones rfl rfl
theorem dX11_ones_1 : decode cX11_ones 1 = .ok (.invokevirtual 174, 3) := dk_182 hN_cX11_ones rfl rfl rfl
theorem dX11_ones_4 : decode cX11_ones 4 = .ok (.aload_n 0, 1) := dk_42 hN_cX11_ones rfl rfl
theorem dX11_ones_5 : decode cX11_ones 5 = .ok (.getfield 183, 3) := dk_180 hN_cX11_ones rfl rfl rfl
theorem dX11_ones_8 : decode cX11_ones 8 = .ok (.ifCond .ne 9, 3) := dk_154 hN_cX11_ones rfl rfl rfl
theorem dX11_ones_17 : decode cX11_ones 17 = .ok (.aload_n 0, 1) := dk_42 hN_cX11_ones rfl rfl
theorem dX11_ones_18 : decode cX11_ones 18 = .ok (.invokevirtual 366, 3) := dk_182 hN_cX11_ones rfl rfl rfl
theorem dX11_ones_21 : decode cX11_ones 21 = .ok (.aload_n 0, 1) := dk_42 hN_cX11_ones rfl rfl
theorem dX11_ones_22 : decode cX11_ones 22 = .ok (.aload_n 0, 1) := dk_42 hN_cX11_ones rfl rfl
theorem dX11_ones_23 : decode cX11_ones 23 = .ok (.invokevirtual 381, 3) := dk_182 hN_cX11_ones rfl rfl rfl
theorem dX11_ones_26 : decode cX11_ones 26 = .ok (.ldc_w 384, 3) := dk_19 hN_cX11_ones rfl rfl rfl
theorem dX11_ones_29 : decode cX11_ones 29 = .ok (.invokevirtual 378, 3) := dk_182 hN_cX11_ones rfl rfl rfl
theorem dX11_ones_32 : decode cX11_ones 32 = .ok (.aload_n 0, 1) := dk_42 hN_cX11_ones rfl rfl
theorem dX11_ones_33 : decode cX11_ones 33 = .ok (.getfield 369, 3) := dk_180 hN_cX11_ones rfl rfl rfl
theorem dX11_ones_36 : decode cX11_ones 36 = .ok (.ifCond .ne 12, 3) := dk_154 hN_cX11_ones rfl rfl rfl
theorem dX11_ones_48 : decode cX11_ones 48 = .ok (.aload_n 0, 1) := dk_42 hN_cX11_ones rfl rfl
theorem dX11_ones_49 : decode cX11_ones 49 = .ok (.getfield 372, 3) := dk_180 hN_cX11_ones rfl rfl rfl
theorem dX11_ones_52 : decode cX11_ones 52 = .ok (.ireturn, 1) := dk_172 hN_cX11_ones rfl rfl
theorem dX11_ones_39 : decode cX11_ones 39 = .ok (.aload_n 0, 1) := dk_42 hN_cX11_ones rfl rfl
theorem dX11_ones_40 : decode cX11_ones 40 = .ok (.bipush 6, 2) := dk_16 hN_cX11_ones rfl rfl rfl
theorem dX11_ones_42 : decode cX11_ones 42 = .ok (.invokevirtual 177, 3) := dk_182 hN_cX11_ones rfl rfl rfl
theorem dX11_ones_45 : decode cX11_ones 45 = .ok (.goto 7, 3) := dk_167 hN_cX11_ones rfl rfl rfl
theorem dX11_ones_11 : decode cX11_ones 11 = .ok (.aload_n 0, 1) := dk_42 hN_cX11_ones rfl rfl
theorem dX11_ones_12 : decode cX11_ones 12 = .ok (.iconst 1, 1) := dk_4 hN_cX11_ones rfl rfl
theorem dX11_ones_13 : decode cX11_ones 13 = .ok (.invokevirtual 177, 3) := dk_182 hN_cX11_ones rfl rfl rfl
theorem dX11_ones_16 : decode cX11_ones 16 = .ok (.ireturn, 1) := dk_172 hN_cX11_ones rfl rfl
theorem dX11_spare_0 : decode cX11_spare 0 = .ok (.aload_n 0, 1) := dk_42 hN_cX11_spare rfl rfl
theorem dX11_spare_1 : decode cX11_spare 1 = .ok (.invokevirtual 174, 3) := dk_182 hN_cX11_spare rfl rfl rfl
theorem dX11_spare_4 : decode cX11_spare 4 = .ok (.aload_n 0, 1) := dk_42 hN_cX11_spare rfl rfl
theorem dX11_spare_5 : decode cX11_spare 5 = .ok (.getfield 183, 3) := dk_180 hN_cX11_spare rfl rfl rfl
theorem dX11_spare_8 : decode cX11_spare 8 = .ok (.ifCond .ne 9, 3) := dk_154 hN_cX11_spare rfl rfl rfl
theorem dX11_spare_17 : decode cX11_spare 17 = .ok (.aload_n 0, 1) := dk_42 hN_cX11_spare rfl rfl
theorem dX11_spare_18 : decode cX11_spare 18 = .ok (.invokevirtual 366, 3) := dk_182 hN_cX11_spare rfl rfl rfl
theorem dX11_spare_21 : decode cX11_spare 21 = .ok (.aload_n 0, 1) := dk_42 hN_cX11_spare rfl rfl
theorem dX11_spare_22 : decode cX11_spare 22 = .ok (.aload_n 0, 1) := dk_42 hN_cX11_spare rfl rfl
theorem dX11_spare_23 : decode cX11_spare 23 = .ok (.invokevirtual 381, 3) := dk_182 hN_cX11_spare rfl rfl rfl
theorem dX11_spare_26 : decode cX11_spare 26 = .ok (.invokevirtual 385, 3) := dk_182 hN_cX11_spare rfl rfl rfl
theorem dX11_spare_29 : decode cX11_spare 29 = .ok (.ifCond .eq 5, 3) := dk_153 hN_cX11_spare rfl rfl rfl
theorem dX11_spare_34 : decode cX11_spare 34 = .ok (.iconst 0, 1) := dk_3 hN_cX11_spare rfl rfl
theorem dX11_spare_35 : decode cX11_spare 35 = .ok (.istore_n 1, 1) := dk_60 hN_cX11_spare rfl rfl
theorem dX11_spare_36 : decode cX11_spare 36 = .ok (.iconst 0, 1) := dk_3 hN_cX11_spare rfl rfl
theorem dX11_spare_37 : decode cX11_spare 37 = .ok (.istore_n 2, 1) := dk_61 hN_cX11_spare rfl rfl
theorem dX11_spare_32 : decode cX11_spare 32 = .ok (.iconst 0, 1) := dk_3 hN_cX11_spare rfl rfl
theorem dX11_spare_33 : decode cX11_spare 33 = .ok (.ireturn, 1) := dk_172 hN_cX11_spare rfl rfl
theorem dX11_spare_11 : decode cX11_spare 11 = .ok (.aload_n 0, 1) := dk_42 hN_cX11_spare rfl rfl
theorem dX11_spare_12 : decode cX11_spare 12 = .ok (.iconst 1, 1) := dk_4 hN_cX11_spare rfl rfl
theorem dX11_spare_13 : decode cX11_spare 13 = .ok (.invokevirtual 177, 3) := dk_182 hN_cX11_spare rfl rfl rfl
theorem dX11_spare_16 : decode cX11_spare 16 = .ok (.ireturn, 1) := dk_172 hN_cX11_spare rfl rfl
theorem dX11_spare_38 : decode cX11_spare 38 = .ok (.iload_n 2, 1) := dk_28 hN_cX11_spare rfl rfl
theorem dX11_spare_39 : decode cX11_spare 39 = .ok (.aload_n 0, 1) := dk_42 hN_cX11_spare rfl rfl
theorem dX11_spare_40 : decode cX11_spare 40 = .ok (.getfield 20, 3) := dk_180 hN_cX11_spare rfl rfl rfl
theorem dX11_spare_43 : decode cX11_spare 43 = .ok (.bipush 85, 2) := dk_16 hN_cX11_spare rfl rfl rfl
theorem dX11_spare_45 : decode cX11_spare 45 = .ok (.iaload, 1) := dk_46 hN_cX11_spare rfl rfl
theorem dX11_spare_46 : decode cX11_spare 46 = .ok (.if_icmp .ge 36, 3) := dk_162 hN_cX11_spare rfl rfl rfl
theorem dX11_spare_82 : decode cX11_spare 82 = .ok (.iload_n 1, 1) := dk_27 hN_cX11_spare rfl rfl
theorem dX11_spare_83 : decode cX11_spare 83 = .ok (.ireturn, 1) := dk_172 hN_cX11_spare rfl rfl
theorem dX11_spare_49 : decode cX11_spare 49 = .ok (.iload_n 1, 1) := dk_27 hN_cX11_spare rfl rfl
theorem dX11_spare_50 : decode cX11_spare 50 = .ok (.aload_n 0, 1) := dk_42 hN_cX11_spare rfl rfl
theorem dX11_spare_51 : decode cX11_spare 51 = .ok (.aload_n 0, 1) := dk_42 hN_cX11_spare rfl rfl
theorem dX11_spare_52 : decode cX11_spare 52 = .ok (.invokevirtual 381, 3) := dk_182 hN_cX11_spare rfl rfl rfl
theorem dX11_spare_55 : decode cX11_spare 55 = .ok (.iconst 1, 1) := dk_4 hN_cX11_spare rfl rfl
theorem dX11_spare_56 : decode cX11_spare 56 = .ok (.iload_n 2, 1) := dk_28 hN_cX11_spare rfl rfl
theorem dX11_spare_57 : decode cX11_spare 57 = .ok (.ishl, 1) := dk_120 hN_cX11_spare rfl rfl
theorem dX11_spare_58 : decode cX11_spare 58 = .ok (.iconst (-1), 1) := dk_2 hN_cX11_spare rfl rfl
theorem dX11_spare_59 : decode cX11_spare 59 = .ok (.ixor, 1) := dk_130 hN_cX11_spare rfl rfl
theorem dX11_spare_60 : decode cX11_spare 60 = .ok (.iand, 1) := dk_126 hN_cX11_spare rfl rfl
theorem dX11_spare_61 : decode cX11_spare 61 = .ok (.invokevirtual 385, 3) := dk_182 hN_cX11_spare rfl rfl rfl
theorem dX11_spare_64 : decode cX11_spare 64 = .ok (.ifCond .eq 7, 3) := dk_153 hN_cX11_spare rfl rfl rfl
theorem dX11_spare_71 : decode cX11_spare 71 = .ok (.iconst 1, 1) := dk_4 hN_cX11_spare rfl rfl
theorem dX11_spare_72 : decode cX11_spare 72 = .ok (.iload_n 2, 1) := dk_28 hN_cX11_spare rfl rfl
theorem dX11_spare_73 : decode cX11_spare 73 = .ok (.ishl, 1) := dk_120 hN_cX11_spare rfl rfl
theorem dX11_spare_74 : decode cX11_spare 74 = .ok (.ior, 1) := dk_128 hN_cX11_spare rfl rfl
theorem dX11_spare_75 : decode cX11_spare 75 = .ok (.istore_n 1, 1) := dk_60 hN_cX11_spare rfl rfl
theorem dX11_spare_76 : decode cX11_spare 76 = .ok (.iinc 2 1, 3) := dk_132 hN_cX11_spare rfl rfl rfl rfl
theorem dX11_spare_79 : decode cX11_spare 79 = .ok (.goto (-41), 3) := dk_167 hN_cX11_spare rfl rfl rfl
theorem dX11_spare_67 : decode cX11_spare 67 = .ok (.iconst 0, 1) := dk_3 hN_cX11_spare rfl rfl
theorem dX11_spare_68 : decode cX11_spare 68 = .ok (.goto 6, 3) := dk_167 hN_cX11_spare rfl rfl rfl
theorem dX11_critical_0 : decode cX11_critical 0 = .ok (.aload_n 0, 1) := dk_42 hN_cX11_critical rfl rfl
theorem dX11_critical_1 : decode cX11_critical 1 = .ok (.invokevirtual 174, 3) := dk_182 hN_cX11_critical rfl rfl rfl
theorem dX11_critical_4 : decode cX11_critical 4 = .ok (.aload_n 0, 1) := dk_42 hN_cX11_critical rfl rfl
theorem dX11_critical_5 : decode cX11_critical 5 = .ok (.getfield 183, 3) := dk_180 hN_cX11_critical rfl rfl rfl
theorem dX11_critical_8 : decode cX11_critical 8 = .ok (.ifCond .ne 9, 3) := dk_154 hN_cX11_critical rfl rfl rfl
theorem dX11_critical_17 : decode cX11_critical 17 = .ok (.aload_n 0, 1) := dk_42 hN_cX11_critical rfl rfl
theorem dX11_critical_18 : decode cX11_critical 18 = .ok (.invokevirtual 366, 3) := dk_182 hN_cX11_critical rfl rfl rfl
theorem dX11_critical_21 : decode cX11_critical 21 = .ok (.aload_n 0, 1) := dk_42 hN_cX11_critical rfl rfl
theorem dX11_critical_22 : decode cX11_critical 22 = .ok (.aload_n 0, 1) := dk_42 hN_cX11_critical rfl rfl
theorem dX11_critical_23 : decode cX11_critical 23 = .ok (.invokevirtual 381, 3) := dk_182 hN_cX11_critical rfl rfl rfl
theorem dX11_critical_26 : decode cX11_critical 26 = .ok (.invokevirtual 385, 3) := dk_182 hN_cX11_critical rfl rfl rfl
theorem dX11_critical_29 : decode cX11_critical 29 = .ok (.ifCond .eq 10, 3) := dk_153 hN_cX11_critical rfl rfl rfl
theorem dX11_critical_39 : decode cX11_critical 39 = .ok (.aload_n 0, 1) := dk_42 hN_cX11_critical rfl rfl
theorem dX11_critical_40 : decode cX11_critical 40 = .ok (.invokevirtual 381, 3) := dk_182 hN_cX11_critical rfl rfl rfl
theorem dX11_critical_43 : decode cX11_critical 43 = .ok (.istore_n 1, 1) := dk_60 hN_cX11_critical rfl rfl
theorem dX11_critical_44 : decode cX11_critical 44 = .ok (.iconst 0, 1) := dk_3 hN_cX11_critical rfl rfl
theorem dX11_critical_45 : decode cX11_critical 45 = .ok (.istore_n 2, 1) := dk_61 hN_cX11_critical rfl rfl
theorem dX11_critical_32 : decode cX11_critical 32 = .ok (.aload_n 0, 1) := dk_42 hN_cX11_critical rfl rfl
theorem dX11_critical_33 : decode cX11_critical 33 = .ok (.bipush 6, 2) := dk_16 hN_cX11_critical rfl rfl rfl
theorem dX11_critical_35 : decode cX11_critical 35 = .ok (.invokevirtual 177, 3) := dk_182 hN_cX11_critical rfl rfl rfl
theorem dX11_critical_38 : decode cX11_critical 38 = .ok (.ireturn, 1) := dk_172 hN_cX11_critical rfl rfl
theorem dX11_critical_11 : decode cX11_critical 11 = .ok (.aload_n 0, 1) := dk_42 hN_cX11_critical rfl rfl
theorem dX11_critical_12 : decode cX11_critical 12 = .ok (.iconst 1, 1) := dk_4 hN_cX11_critical rfl rfl
theorem dX11_critical_13 : decode cX11_critical 13 = .ok (.invokevirtual 177, 3) := dk_182 hN_cX11_critical rfl rfl rfl
theorem dX11_critical_16 : decode cX11_critical 16 = .ok (.ireturn, 1) := dk_172 hN_cX11_critical rfl rfl
theorem dX11_critical_46 : decode cX11_critical 46 = .ok (.iload_n 2, 1) := dk_28 hN_cX11_critical rfl rfl
theorem dX11_critical_47 : decode cX11_critical 47 = .ok (.aload_n 0, 1) := dk_42 hN_cX11_critical rfl rfl
theorem dX11_critical_48 : decode cX11_critical 48 = .ok (.getfield 20, 3) := dk_180 hN_cX11_critical rfl rfl rfl
theorem dX11_critical_51 : decode cX11_critical 51 = .ok (.bipush 85, 2) := dk_16 hN_cX11_critical rfl rfl rfl
theorem dX11_critical_53 : decode cX11_critical 53 = .ok (.iaload, 1) := dk_46 hN_cX11_critical rfl rfl
theorem dX11_critical_54 : decode cX11_critical 54 = .ok (.if_icmp .ge 31, 3) := dk_162 hN_cX11_critical rfl rfl rfl
theorem dX11_critical_85 : decode cX11_critical 85 = .ok (.iload_n 1, 1) := dk_27 hN_cX11_critical rfl rfl
theorem dX11_critical_86 : decode cX11_critical 86 = .ok (.ireturn, 1) := dk_172 hN_cX11_critical rfl rfl
theorem dX11_critical_57 : decode cX11_critical 57 = .ok (.aload_n 0, 1) := dk_42 hN_cX11_critical rfl rfl
theorem dX11_critical_58 : decode cX11_critical 58 = .ok (.iload_n 1, 1) := dk_27 hN_cX11_critical rfl rfl
theorem dX11_critical_59 : decode cX11_critical 59 = .ok (.iconst 1, 1) := dk_4 hN_cX11_critical rfl rfl
theorem dX11_critical_60 : decode cX11_critical 60 = .ok (.iload_n 2, 1) := dk_28 hN_cX11_critical rfl rfl
theorem dX11_critical_61 : decode cX11_critical 61 = .ok (.ishl, 1) := dk_120 hN_cX11_critical rfl rfl
theorem dX11_critical_62 : decode cX11_critical 62 = .ok (.iconst (-1), 1) := dk_2 hN_cX11_critical rfl rfl
theorem dX11_critical_63 : decode cX11_critical 63 = .ok (.ixor, 1) := dk_130 hN_cX11_critical rfl rfl
theorem dX11_critical_64 : decode cX11_critical 64 = .ok (.iand, 1) := dk_126 hN_cX11_critical rfl rfl
theorem dX11_critical_65 : decode cX11_critical 65 = .ok (.invokevirtual 385, 3) := dk_182 hN_cX11_critical rfl rfl rfl
theorem dX11_critical_68 : decode cX11_critical 68 = .ok (.ifCond .ne 11, 3) := dk_154 hN_cX11_critical rfl rfl rfl
theorem dX11_critical_79 : decode cX11_critical 79 = .ok (.iinc 2 1, 3) := dk_132 hN_cX11_critical rfl rfl rfl rfl
theorem dX11_critical_82 : decode cX11_critical 82 = .ok (.goto (-36), 3) := dk_167 hN_cX11_critical rfl rfl rfl
theorem dX11_critical_71 : decode cX11_critical 71 = .ok (.iload_n 1, 1) := dk_27 hN_cX11_critical rfl rfl
theorem dX11_critical_72 : decode cX11_critical 72 = .ok (.iconst 1, 1) := dk_4 hN_cX11_critical rfl rfl
theorem dX11_critical_73 : decode cX11_critical 73 = .ok (.iload_n 2, 1) := dk_28 hN_cX11_critical rfl rfl
theorem dX11_critical_74 : decode cX11_critical 74 = .ok (.ishl, 1) := dk_120 hN_cX11_critical rfl rfl
theorem dX11_critical_75 : decode cX11_critical 75 = .ok (.iconst (-1), 1) := dk_2 hN_cX11_critical rfl rfl
theorem dX11_critical_76 : decode cX11_critical 76 = .ok (.ixor, 1) := dk_130 hN_cX11_critical rfl rfl
theorem dX11_critical_77 : decode cX11_critical 77 = .ok (.iand, 1) := dk_126 hN_cX11_critical rfl rfl
theorem dX11_critical_78 : decode cX11_critical 78 = .ok (.istore_n 1, 1) := dk_60 hN_cX11_critical rfl rfl
theorem dX11_tellsAll_0 : decode cX11_tellsAll 0 = .ok (.iload_n 2, 1) := dk_28 hN_cX11_tellsAll rfl rfl
theorem dX11_tellsAll_1 : decode cX11_tellsAll 1 = .ok (.aload_n 0, 1) := dk_42 hN_cX11_tellsAll rfl rfl
theorem dX11_tellsAll_2 : decode cX11_tellsAll 2 = .ok (.getfield 20, 3) := dk_180 hN_cX11_tellsAll rfl rfl rfl
theorem dX11_tellsAll_5 : decode cX11_tellsAll 5 = .ok (.sipush 158, 3) := dk_17 hN_cX11_tellsAll rfl rfl rfl
theorem dX11_tellsAll_8 : decode cX11_tellsAll 8 = .ok (.iaload, 1) := dk_46 hN_cX11_tellsAll rfl rfl
theorem dX11_tellsAll_9 : decode cX11_tellsAll 9 = .ok (.if_icmp .ne 5, 3) := dk_160 hN_cX11_tellsAll rfl rfl rfl
theorem dX11_tellsAll_14 : decode cX11_tellsAll 14 = .ok (.iload_n 3, 1) := dk_29 hN_cX11_tellsAll rfl rfl
theorem dX11_tellsAll_15 : decode cX11_tellsAll 15 = .ok (.aload_n 0, 1) := dk_42 hN_cX11_tellsAll rfl rfl
theorem dX11_tellsAll_16 : decode cX11_tellsAll 16 = .ok (.getfield 20, 3) := dk_180 hN_cX11_tellsAll rfl rfl rfl
theorem dX11_tellsAll_19 : decode cX11_tellsAll 19 = .ok (.sipush 159, 3) := dk_17 hN_cX11_tellsAll rfl rfl rfl
theorem dX11_tellsAll_22 : decode cX11_tellsAll 22 = .ok (.iload_n 2, 1) := dk_28 hN_cX11_tellsAll rfl rfl
theorem dX11_tellsAll_23 : decode cX11_tellsAll 23 = .ok (.iadd, 1) := dk_96 hN_cX11_tellsAll rfl rfl
theorem dX11_tellsAll_24 : decode cX11_tellsAll 24 = .ok (.iaload, 1) := dk_46 hN_cX11_tellsAll rfl rfl
theorem dX11_tellsAll_25 : decode cX11_tellsAll 25 = .ok (.if_icmp .ne 14, 3) := dk_160 hN_cX11_tellsAll rfl rfl rfl
theorem dX11_tellsAll_39 : decode cX11_tellsAll 39 = .ok (.bipush 6, 2) := dk_16 hN_cX11_tellsAll rfl rfl rfl
theorem dX11_tellsAll_41 : decode cX11_tellsAll 41 = .ok (.iload 4, 2) := dk_21 hN_cX11_tellsAll rfl rfl rfl
theorem dX11_tellsAll_43 : decode cX11_tellsAll 43 = .ok (.imul, 1) := dk_104 hN_cX11_tellsAll rfl rfl
theorem dX11_tellsAll_44 : decode cX11_tellsAll 44 = .ok (.aload_n 0, 1) := dk_42 hN_cX11_tellsAll rfl rfl
theorem dX11_tellsAll_45 : decode cX11_tellsAll 45 = .ok (.getfield 20, 3) := dk_180 hN_cX11_tellsAll rfl rfl rfl
theorem dX11_tellsAll_48 : decode cX11_tellsAll 48 = .ok (.sipush 163, 3) := dk_17 hN_cX11_tellsAll rfl rfl rfl
theorem dX11_tellsAll_51 : decode cX11_tellsAll 51 = .ok (.bipush 6, 2) := dk_16 hN_cX11_tellsAll rfl rfl rfl
theorem dX11_tellsAll_53 : decode cX11_tellsAll 53 = .ok (.iload_n 2, 1) := dk_28 hN_cX11_tellsAll rfl rfl
theorem dX11_tellsAll_54 : decode cX11_tellsAll 54 = .ok (.imul, 1) := dk_104 hN_cX11_tellsAll rfl rfl
theorem dX11_tellsAll_55 : decode cX11_tellsAll 55 = .ok (.iadd, 1) := dk_96 hN_cX11_tellsAll rfl rfl
theorem dX11_tellsAll_56 : decode cX11_tellsAll 56 = .ok (.iload_n 3, 1) := dk_29 hN_cX11_tellsAll rfl rfl
theorem dX11_tellsAll_57 : decode cX11_tellsAll 57 = .ok (.iadd, 1) := dk_96 hN_cX11_tellsAll rfl rfl
theorem dX11_tellsAll_58 : decode cX11_tellsAll 58 = .ok (.iaload, 1) := dk_46 hN_cX11_tellsAll rfl rfl
theorem dX11_tellsAll_59 : decode cX11_tellsAll 59 = .ok (.iadd, 1) := dk_96 hN_cX11_tellsAll rfl rfl
theorem dX11_tellsAll_60 : decode cX11_tellsAll 60 = .ok (.istore 5, 2) := dk_54 hN_cX11_tellsAll rfl rfl rfl
theorem dX11_tellsAll_62 : decode cX11_tellsAll 62 = .ok (.aload_n 0, 1) := dk_42 hN_cX11_tellsAll rfl rfl
theorem dX11_tellsAll_63 : decode cX11_tellsAll 63 = .ok (.getfield 20, 3) := dk_180 hN_cX11_tellsAll rfl rfl rfl
theorem dX11_tellsAll_66 : decode cX11_tellsAll 66 = .ok (.sipush 187, 3) := dk_17 hN_cX11_tellsAll rfl rfl rfl
theorem dX11_tellsAll_69 : decode cX11_tellsAll 69 = .ok (.bipush 6, 2) := dk_16 hN_cX11_tellsAll rfl rfl rfl
theorem dX11_tellsAll_71 : decode cX11_tellsAll 71 = .ok (.iload_n 2, 1) := dk_28 hN_cX11_tellsAll rfl rfl
theorem dX11_tellsAll_72 : decode cX11_tellsAll 72 = .ok (.imul, 1) := dk_104 hN_cX11_tellsAll rfl rfl
theorem dX11_tellsAll_73 : decode cX11_tellsAll 73 = .ok (.iadd, 1) := dk_96 hN_cX11_tellsAll rfl rfl
theorem dX11_tellsAll_74 : decode cX11_tellsAll 74 = .ok (.iload_n 3, 1) := dk_29 hN_cX11_tellsAll rfl rfl
theorem dX11_tellsAll_75 : decode cX11_tellsAll 75 = .ok (.iadd, 1) := dk_96 hN_cX11_tellsAll rfl rfl
theorem dX11_tellsAll_76 : decode cX11_tellsAll 76 = .ok (.iaload, 1) := dk_46 hN_cX11_tellsAll rfl rfl
theorem dX11_tellsAll_77 : decode cX11_tellsAll 77 = .ok (.istore 6, 2) := dk_54 hN_cX11_tellsAll rfl rfl rfl
theorem dX11_tellsAll_79 : decode cX11_tellsAll 79 = .ok (.aload_n 0, 1) := dk_42 hN_cX11_tellsAll rfl rfl
theorem dX11_tellsAll_80 : decode cX11_tellsAll 80 = .ok (.getfield 63, 3) := dk_180 hN_cX11_tellsAll rfl rfl rfl
theorem dX11_tellsAll_83 : decode cX11_tellsAll 83 = .ok (.iload 5, 2) := dk_21 hN_cX11_tellsAll rfl rfl rfl
theorem dX11_tellsAll_85 : decode cX11_tellsAll 85 = .ok (.iaload, 1) := dk_46 hN_cX11_tellsAll rfl rfl
theorem dX11_tellsAll_86 : decode cX11_tellsAll 86 = .ok (.iconst 2, 1) := dk_5 hN_cX11_tellsAll rfl rfl
theorem dX11_tellsAll_87 : decode cX11_tellsAll 87 = .ok (.if_icmp .eq 40, 3) := dk_159 hN_cX11_tellsAll rfl rfl rfl
theorem dX11_tellsAll_127 : decode cX11_tellsAll 127 = .ok (.aload_n 0, 1) := dk_42 hN_cX11_tellsAll rfl rfl
theorem dX11_tellsAll_128 : decode cX11_tellsAll 128 = .ok (.getfield 63, 3) := dk_180 hN_cX11_tellsAll rfl rfl rfl
theorem dX11_tellsAll_131 : decode cX11_tellsAll 131 = .ok (.iload 5, 2) := dk_21 hN_cX11_tellsAll rfl rfl rfl
theorem dX11_tellsAll_133 : decode cX11_tellsAll 133 = .ok (.iload 6, 2) := dk_21 hN_cX11_tellsAll rfl rfl rfl
theorem dX11_tellsAll_135 : decode cX11_tellsAll 135 = .ok (.iastore, 1) := dk_79 hN_cX11_tellsAll rfl rfl
theorem dX11_tellsAll_136 : decode cX11_tellsAll 136 = .ok (.iconst 0, 1) := dk_3 hN_cX11_tellsAll rfl rfl
theorem dX11_tellsAll_137 : decode cX11_tellsAll 137 = .ok (.istore 7, 2) := dk_54 hN_cX11_tellsAll rfl rfl rfl
theorem dX11_tellsAll_90 : decode cX11_tellsAll 90 = .ok (.aload_n 0, 1) := dk_42 hN_cX11_tellsAll rfl rfl
theorem dX11_tellsAll_91 : decode cX11_tellsAll 91 = .ok (.getfield 63, 3) := dk_180 hN_cX11_tellsAll rfl rfl rfl
theorem dX11_tellsAll_94 : decode cX11_tellsAll 94 = .ok (.iload 5, 2) := dk_21 hN_cX11_tellsAll rfl rfl rfl
theorem dX11_tellsAll_96 : decode cX11_tellsAll 96 = .ok (.iaload, 1) := dk_46 hN_cX11_tellsAll rfl rfl
theorem dX11_tellsAll_97 : decode cX11_tellsAll 97 = .ok (.iload 6, 2) := dk_21 hN_cX11_tellsAll rfl rfl rfl
theorem dX11_tellsAll_99 : decode cX11_tellsAll 99 = .ok (.if_icmp .ne 26, 3) := dk_160 hN_cX11_tellsAll rfl rfl rfl
theorem dX11_tellsAll_125 : decode cX11_tellsAll 125 = .ok (.iconst 0, 1) := dk_3 hN_cX11_tellsAll rfl rfl
theorem dX11_tellsAll_126 : decode cX11_tellsAll 126 = .ok (.ireturn, 1) := dk_172 hN_cX11_tellsAll rfl rfl
theorem dX11_tellsAll_102 : decode cX11_tellsAll 102 = .ok (.aload_n 0, 1) := dk_42 hN_cX11_tellsAll rfl rfl
theorem dX11_tellsAll_103 : decode cX11_tellsAll 103 = .ok (.iload_n 1, 1) := dk_27 hN_cX11_tellsAll rfl rfl
theorem dX11_tellsAll_104 : decode cX11_tellsAll 104 = .ok (.iload_n 2, 1) := dk_28 hN_cX11_tellsAll rfl rfl
theorem dX11_tellsAll_105 : decode cX11_tellsAll 105 = .ok (.iload_n 3, 1) := dk_29 hN_cX11_tellsAll rfl rfl
theorem dX11_tellsAll_106 : decode cX11_tellsAll 106 = .ok (.iconst 1, 1) := dk_4 hN_cX11_tellsAll rfl rfl
theorem dX11_tellsAll_107 : decode cX11_tellsAll 107 = .ok (.iadd, 1) := dk_96 hN_cX11_tellsAll rfl rfl
theorem dX11_tellsAll_108 : decode cX11_tellsAll 108 = .ok (.aload_n 0, 1) := dk_42 hN_cX11_tellsAll rfl rfl
theorem dX11_tellsAll_109 : decode cX11_tellsAll 109 = .ok (.getfield 66, 3) := dk_180 hN_cX11_tellsAll rfl rfl rfl
theorem dX11_tellsAll_112 : decode cX11_tellsAll 112 = .ok (.iload 5, 2) := dk_21 hN_cX11_tellsAll rfl rfl rfl
theorem dX11_tellsAll_114 : decode cX11_tellsAll 114 = .ok (.iaload, 1) := dk_46 hN_cX11_tellsAll rfl rfl
theorem dX11_tellsAll_115 : decode cX11_tellsAll 115 = .ok (.invokevirtual 388, 3) := dk_182 hN_cX11_tellsAll rfl rfl rfl
theorem dX11_tellsAll_118 : decode cX11_tellsAll 118 = .ok (.ifCond .eq 7, 3) := dk_153 hN_cX11_tellsAll rfl rfl rfl
theorem dX11_tellsAll_121 : decode cX11_tellsAll 121 = .ok (.iconst 1, 1) := dk_4 hN_cX11_tellsAll rfl rfl
theorem dX11_tellsAll_122 : decode cX11_tellsAll 122 = .ok (.goto 4, 3) := dk_167 hN_cX11_tellsAll rfl rfl rfl
theorem dX11_tellsAll_28 : decode cX11_tellsAll 28 = .ok (.aload_n 0, 1) := dk_42 hN_cX11_tellsAll rfl rfl
theorem dX11_tellsAll_29 : decode cX11_tellsAll 29 = .ok (.iload_n 1, 1) := dk_27 hN_cX11_tellsAll rfl rfl
theorem dX11_tellsAll_30 : decode cX11_tellsAll 30 = .ok (.iload_n 2, 1) := dk_28 hN_cX11_tellsAll rfl rfl
theorem dX11_tellsAll_31 : decode cX11_tellsAll 31 = .ok (.iconst 1, 1) := dk_4 hN_cX11_tellsAll rfl rfl
theorem dX11_tellsAll_32 : decode cX11_tellsAll 32 = .ok (.iadd, 1) := dk_96 hN_cX11_tellsAll rfl rfl
theorem dX11_tellsAll_33 : decode cX11_tellsAll 33 = .ok (.iconst 0, 1) := dk_3 hN_cX11_tellsAll rfl rfl
theorem dX11_tellsAll_34 : decode cX11_tellsAll 34 = .ok (.iconst 0, 1) := dk_3 hN_cX11_tellsAll rfl rfl
theorem dX11_tellsAll_35 : decode cX11_tellsAll 35 = .ok (.invokevirtual 388, 3) := dk_182 hN_cX11_tellsAll rfl rfl rfl
theorem dX11_tellsAll_38 : decode cX11_tellsAll 38 = .ok (.ireturn, 1) := dk_172 hN_cX11_tellsAll rfl rfl
theorem dX11_tellsAll_12 : decode cX11_tellsAll 12 = .ok (.iconst 1, 1) := dk_4 hN_cX11_tellsAll rfl rfl
theorem dX11_tellsAll_13 : decode cX11_tellsAll 13 = .ok (.ireturn, 1) := dk_172 hN_cX11_tellsAll rfl rfl
theorem dX11_tellsAll_139 : decode cX11_tellsAll 139 = .ok (.iload 7, 2) := dk_21 hN_cX11_tellsAll rfl rfl rfl
theorem dX11_tellsAll_141 : decode cX11_tellsAll 141 = .ok (.iload_n 1, 1) := dk_27 hN_cX11_tellsAll rfl rfl
theorem dX11_tellsAll_142 : decode cX11_tellsAll 142 = .ok (.if_icmp .ge 34, 3) := dk_162 hN_cX11_tellsAll rfl rfl rfl
theorem dX11_tellsAll_176 : decode cX11_tellsAll 176 = .ok (.aload_n 0, 1) := dk_42 hN_cX11_tellsAll rfl rfl
theorem dX11_tellsAll_177 : decode cX11_tellsAll 177 = .ok (.getfield 63, 3) := dk_180 hN_cX11_tellsAll rfl rfl rfl
theorem dX11_tellsAll_180 : decode cX11_tellsAll 180 = .ok (.iload 5, 2) := dk_21 hN_cX11_tellsAll rfl rfl rfl
theorem dX11_tellsAll_182 : decode cX11_tellsAll 182 = .ok (.iconst 2, 1) := dk_5 hN_cX11_tellsAll rfl rfl
theorem dX11_tellsAll_183 : decode cX11_tellsAll 183 = .ok (.iastore, 1) := dk_79 hN_cX11_tellsAll rfl rfl
theorem dX11_tellsAll_184 : decode cX11_tellsAll 184 = .ok (.aload_n 0, 1) := dk_42 hN_cX11_tellsAll rfl rfl
theorem dX11_tellsAll_185 : decode cX11_tellsAll 185 = .ok (.getfield 66, 3) := dk_180 hN_cX11_tellsAll rfl rfl rfl
theorem dX11_tellsAll_188 : decode cX11_tellsAll 188 = .ok (.iload 5, 2) := dk_21 hN_cX11_tellsAll rfl rfl rfl
theorem dX11_tellsAll_190 : decode cX11_tellsAll 190 = .ok (.iconst (-1), 1) := dk_2 hN_cX11_tellsAll rfl rfl
theorem dX11_tellsAll_191 : decode cX11_tellsAll 191 = .ok (.iastore, 1) := dk_79 hN_cX11_tellsAll rfl rfl
theorem dX11_tellsAll_192 : decode cX11_tellsAll 192 = .ok (.iconst 0, 1) := dk_3 hN_cX11_tellsAll rfl rfl
theorem dX11_tellsAll_193 : decode cX11_tellsAll 193 = .ok (.ireturn, 1) := dk_172 hN_cX11_tellsAll rfl rfl
theorem dX11_tellsAll_145 : decode cX11_tellsAll 145 = .ok (.aload_n 0, 1) := dk_42 hN_cX11_tellsAll rfl rfl
theorem dX11_tellsAll_146 : decode cX11_tellsAll 146 = .ok (.getfield 66, 3) := dk_180 hN_cX11_tellsAll rfl rfl rfl
theorem dX11_tellsAll_149 : decode cX11_tellsAll 149 = .ok (.iload 5, 2) := dk_21 hN_cX11_tellsAll rfl rfl rfl
theorem dX11_tellsAll_151 : decode cX11_tellsAll 151 = .ok (.iload 7, 2) := dk_21 hN_cX11_tellsAll rfl rfl rfl
theorem dX11_tellsAll_153 : decode cX11_tellsAll 153 = .ok (.iastore, 1) := dk_79 hN_cX11_tellsAll rfl rfl
theorem dX11_tellsAll_154 : decode cX11_tellsAll 154 = .ok (.aload_n 0, 1) := dk_42 hN_cX11_tellsAll rfl rfl
theorem dX11_tellsAll_155 : decode cX11_tellsAll 155 = .ok (.iload_n 1, 1) := dk_27 hN_cX11_tellsAll rfl rfl
theorem dX11_tellsAll_156 : decode cX11_tellsAll 156 = .ok (.iload_n 2, 1) := dk_28 hN_cX11_tellsAll rfl rfl
theorem dX11_tellsAll_157 : decode cX11_tellsAll 157 = .ok (.iload_n 3, 1) := dk_29 hN_cX11_tellsAll rfl rfl
theorem dX11_tellsAll_158 : decode cX11_tellsAll 158 = .ok (.iconst 1, 1) := dk_4 hN_cX11_tellsAll rfl rfl
theorem dX11_tellsAll_159 : decode cX11_tellsAll 159 = .ok (.iadd, 1) := dk_96 hN_cX11_tellsAll rfl rfl
theorem dX11_tellsAll_160 : decode cX11_tellsAll 160 = .ok (.iload 7, 2) := dk_21 hN_cX11_tellsAll rfl rfl rfl
theorem dX11_tellsAll_162 : decode cX11_tellsAll 162 = .ok (.invokevirtual 388, 3) := dk_182 hN_cX11_tellsAll rfl rfl rfl
theorem dX11_tellsAll_165 : decode cX11_tellsAll 165 = .ok (.ifCond .eq 5, 3) := dk_153 hN_cX11_tellsAll rfl rfl rfl
theorem dX11_tellsAll_170 : decode cX11_tellsAll 170 = .ok (.iinc 7 1, 3) := dk_132 hN_cX11_tellsAll rfl rfl rfl rfl
theorem dX11_tellsAll_173 : decode cX11_tellsAll 173 = .ok (.goto (-34), 3) := dk_167 hN_cX11_tellsAll rfl rfl rfl
theorem dX11_tellsAll_168 : decode cX11_tellsAll 168 = .ok (.iconst 1, 1) := dk_4 hN_cX11_tellsAll rfl rfl
theorem dX11_tellsAll_169 : decode cX11_tellsAll 169 = .ok (.ireturn, 1) := dk_172 hN_cX11_tellsAll rfl rfl
theorem dX11_fewestStates_0 : decode cX11_fewestStates 0 = .ok (.iconst 1, 1) := dk_4 hN_cX11_fewestStates rfl rfl
theorem dX11_fewestStates_1 : decode cX11_fewestStates 1 = .ok (.istore_n 1, 1) := dk_60 hN_cX11_fewestStates rfl rfl
theorem dX11_fewestStates_2 : decode cX11_fewestStates 2 = .ok (.iload_n 1, 1) := dk_27 hN_cX11_fewestStates rfl rfl
theorem dX11_fewestStates_3 : decode cX11_fewestStates 3 = .ok (.iconst 3, 1) := dk_6 hN_cX11_fewestStates rfl rfl
theorem dX11_fewestStates_4 : decode cX11_fewestStates 4 = .ok (.if_icmp .gt 50, 3) := dk_163 hN_cX11_fewestStates rfl rfl rfl
theorem dX11_fewestStates_54 : decode cX11_fewestStates 54 = .ok (.bipush (-2), 2) := dk_16 hN_cX11_fewestStates rfl rfl rfl
theorem dX11_fewestStates_56 : decode cX11_fewestStates 56 = .ok (.ireturn, 1) := dk_172 hN_cX11_fewestStates rfl rfl
theorem dX11_fewestStates_7 : decode cX11_fewestStates 7 = .ok (.iconst 0, 1) := dk_3 hN_cX11_fewestStates rfl rfl
theorem dX11_fewestStates_8 : decode cX11_fewestStates 8 = .ok (.istore_n 2, 1) := dk_61 hN_cX11_fewestStates rfl rfl
theorem dX11_fewestStates_9 : decode cX11_fewestStates 9 = .ok (.iload_n 2, 1) := dk_28 hN_cX11_fewestStates rfl rfl
theorem dX11_fewestStates_10 : decode cX11_fewestStates 10 = .ok (.bipush 18, 2) := dk_16 hN_cX11_fewestStates rfl rfl rfl
theorem dX11_fewestStates_12 : decode cX11_fewestStates 12 = .ok (.if_icmp .ge 23, 3) := dk_162 hN_cX11_fewestStates rfl rfl rfl
theorem dX11_fewestStates_35 : decode cX11_fewestStates 35 = .ok (.aload_n 0, 1) := dk_42 hN_cX11_fewestStates rfl rfl
theorem dX11_fewestStates_36 : decode cX11_fewestStates 36 = .ok (.iload_n 1, 1) := dk_27 hN_cX11_fewestStates rfl rfl
theorem dX11_fewestStates_37 : decode cX11_fewestStates 37 = .ok (.iconst 0, 1) := dk_3 hN_cX11_fewestStates rfl rfl
theorem dX11_fewestStates_38 : decode cX11_fewestStates 38 = .ok (.iconst 0, 1) := dk_3 hN_cX11_fewestStates rfl rfl
theorem dX11_fewestStates_39 : decode cX11_fewestStates 39 = .ok (.iconst 0, 1) := dk_3 hN_cX11_fewestStates rfl rfl
theorem dX11_fewestStates_40 : decode cX11_fewestStates 40 = .ok (.invokevirtual 388, 3) := dk_182 hN_cX11_fewestStates rfl rfl rfl
theorem dX11_fewestStates_43 : decode cX11_fewestStates 43 = .ok (.ifCond .eq 5, 3) := dk_153 hN_cX11_fewestStates rfl rfl rfl
theorem dX11_fewestStates_48 : decode cX11_fewestStates 48 = .ok (.iinc 1 1, 3) := dk_132 hN_cX11_fewestStates rfl rfl rfl rfl
theorem dX11_fewestStates_51 : decode cX11_fewestStates 51 = .ok (.goto (-49), 3) := dk_167 hN_cX11_fewestStates rfl rfl rfl
theorem dX11_fewestStates_46 : decode cX11_fewestStates 46 = .ok (.iload_n 1, 1) := dk_27 hN_cX11_fewestStates rfl rfl
theorem dX11_fewestStates_47 : decode cX11_fewestStates 47 = .ok (.ireturn, 1) := dk_172 hN_cX11_fewestStates rfl rfl
theorem dX11_fewestStates_15 : decode cX11_fewestStates 15 = .ok (.aload_n 0, 1) := dk_42 hN_cX11_fewestStates rfl rfl
theorem dX11_fewestStates_16 : decode cX11_fewestStates 16 = .ok (.getfield 63, 3) := dk_180 hN_cX11_fewestStates rfl rfl rfl
theorem dX11_fewestStates_19 : decode cX11_fewestStates 19 = .ok (.iload_n 2, 1) := dk_28 hN_cX11_fewestStates rfl rfl
theorem dX11_fewestStates_20 : decode cX11_fewestStates 20 = .ok (.iconst 2, 1) := dk_5 hN_cX11_fewestStates rfl rfl
theorem dX11_fewestStates_21 : decode cX11_fewestStates 21 = .ok (.iastore, 1) := dk_79 hN_cX11_fewestStates rfl rfl
theorem dX11_fewestStates_22 : decode cX11_fewestStates 22 = .ok (.aload_n 0, 1) := dk_42 hN_cX11_fewestStates rfl rfl
theorem dX11_fewestStates_23 : decode cX11_fewestStates 23 = .ok (.getfield 66, 3) := dk_180 hN_cX11_fewestStates rfl rfl rfl
theorem dX11_fewestStates_26 : decode cX11_fewestStates 26 = .ok (.iload_n 2, 1) := dk_28 hN_cX11_fewestStates rfl rfl
theorem dX11_fewestStates_27 : decode cX11_fewestStates 27 = .ok (.iconst (-1), 1) := dk_2 hN_cX11_fewestStates rfl rfl
theorem dX11_fewestStates_28 : decode cX11_fewestStates 28 = .ok (.iastore, 1) := dk_79 hN_cX11_fewestStates rfl rfl
theorem dX11_fewestStates_29 : decode cX11_fewestStates 29 = .ok (.iinc 2 1, 3) := dk_132 hN_cX11_fewestStates rfl rfl rfl rfl
theorem dX11_fewestStates_32 : decode cX11_fewestStates 32 = .ok (.goto (-23), 3) := dk_167 hN_cX11_fewestStates rfl rfl rfl
theorem dX11_memory_0 : decode cX11_memory 0 = .ok (.aload_n 0, 1) := dk_42 hN_cX11_memory rfl rfl
theorem dX11_memory_1 : decode cX11_memory 1 = .ok (.invokevirtual 174, 3) := dk_182 hN_cX11_memory rfl rfl rfl
theorem dX11_memory_4 : decode cX11_memory 4 = .ok (.aload_n 0, 1) := dk_42 hN_cX11_memory rfl rfl
theorem dX11_memory_5 : decode cX11_memory 5 = .ok (.getfield 183, 3) := dk_180 hN_cX11_memory rfl rfl rfl
theorem dX11_memory_8 : decode cX11_memory 8 = .ok (.ifCond .eq 10, 3) := dk_153 hN_cX11_memory rfl rfl rfl
theorem dX11_memory_18 : decode cX11_memory 18 = .ok (.aload_n 0, 1) := dk_42 hN_cX11_memory rfl rfl
theorem dX11_memory_19 : decode cX11_memory 19 = .ok (.iconst 1, 1) := dk_4 hN_cX11_memory rfl rfl
theorem dX11_memory_20 : decode cX11_memory 20 = .ok (.invokevirtual 177, 3) := dk_182 hN_cX11_memory rfl rfl rfl
theorem dX11_memory_23 : decode cX11_memory 23 = .ok (.ireturn, 1) := dk_172 hN_cX11_memory rfl rfl
theorem dX11_memory_11 : decode cX11_memory 11 = .ok (.aload_n 0, 1) := dk_42 hN_cX11_memory rfl rfl
theorem dX11_memory_12 : decode cX11_memory 12 = .ok (.invokevirtual 392, 3) := dk_182 hN_cX11_memory rfl rfl rfl
theorem dX11_memory_15 : decode cX11_memory 15 = .ok (.goto 8, 3) := dk_167 hN_cX11_memory rfl rfl rfl
theorem dX11_machine_0 : decode cX11_machine 0 = .ok (.aload_n 0, 1) := dk_42 hN_cX11_machine rfl rfl
theorem dX11_machine_1 : decode cX11_machine 1 = .ok (.invokevirtual 174, 3) := dk_182 hN_cX11_machine rfl rfl rfl
theorem dX11_machine_4 : decode cX11_machine 4 = .ok (.aload_n 0, 1) := dk_42 hN_cX11_machine rfl rfl
theorem dX11_machine_5 : decode cX11_machine 5 = .ok (.iload_n 2, 1) := dk_28 hN_cX11_machine rfl rfl
theorem dX11_machine_6 : decode cX11_machine 6 = .ok (.invokevirtual 296, 3) := dk_182 hN_cX11_machine rfl rfl rfl
theorem dX11_machine_9 : decode cX11_machine 9 = .ok (.ifCond .eq 12, 3) := dk_153 hN_cX11_machine rfl rfl rfl
theorem dX11_machine_21 : decode cX11_machine 21 = .ok (.aload_n 0, 1) := dk_42 hN_cX11_machine rfl rfl
theorem dX11_machine_22 : decode cX11_machine 22 = .ok (.iconst 1, 1) := dk_4 hN_cX11_machine rfl rfl
theorem dX11_machine_23 : decode cX11_machine 23 = .ok (.invokevirtual 177, 3) := dk_182 hN_cX11_machine rfl rfl rfl
theorem dX11_machine_26 : decode cX11_machine 26 = .ok (.ireturn, 1) := dk_172 hN_cX11_machine rfl rfl
theorem dX11_machine_12 : decode cX11_machine 12 = .ok (.iload_n 1, 1) := dk_27 hN_cX11_machine rfl rfl
theorem dX11_machine_13 : decode cX11_machine 13 = .ok (.iconst 0, 1) := dk_3 hN_cX11_machine rfl rfl
theorem dX11_machine_14 : decode cX11_machine 14 = .ok (.iconst 2, 1) := dk_5 hN_cX11_machine rfl rfl
theorem dX11_machine_15 : decode cX11_machine 15 = .ok (.invokestatic 170, 3) := dk_184 hN_cX11_machine rfl rfl rfl
theorem dX11_machine_18 : decode cX11_machine 18 = .ok (.ifCond .ne 9, 3) := dk_154 hN_cX11_machine rfl rfl rfl
theorem dX11_machine_27 : decode cX11_machine 27 = .ok (.aload_n 0, 1) := dk_42 hN_cX11_machine rfl rfl
theorem dX11_machine_28 : decode cX11_machine 28 = .ok (.invokevirtual 392, 3) := dk_182 hN_cX11_machine rfl rfl rfl
theorem dX11_machine_31 : decode cX11_machine 31 = .ok (.bipush (-2), 2) := dk_16 hN_cX11_machine rfl rfl rfl
theorem dX11_machine_33 : decode cX11_machine 33 = .ok (.if_icmp .ne 10, 3) := dk_160 hN_cX11_machine rfl rfl rfl
theorem dX11_machine_43 : decode cX11_machine 43 = .ok (.bipush 6, 2) := dk_16 hN_cX11_machine rfl rfl rfl
theorem dX11_machine_45 : decode cX11_machine 45 = .ok (.iload_n 1, 1) := dk_27 hN_cX11_machine rfl rfl
theorem dX11_machine_46 : decode cX11_machine 46 = .ok (.imul, 1) := dk_104 hN_cX11_machine rfl rfl
theorem dX11_machine_47 : decode cX11_machine 47 = .ok (.iload_n 2, 1) := dk_28 hN_cX11_machine rfl rfl
theorem dX11_machine_48 : decode cX11_machine 48 = .ok (.iadd, 1) := dk_96 hN_cX11_machine rfl rfl
theorem dX11_machine_49 : decode cX11_machine 49 = .ok (.istore 4, 2) := dk_54 hN_cX11_machine rfl rfl rfl
theorem dX11_machine_51 : decode cX11_machine 51 = .ok (.aload_n 0, 1) := dk_42 hN_cX11_machine rfl rfl
theorem dX11_machine_52 : decode cX11_machine 52 = .ok (.getfield 63, 3) := dk_180 hN_cX11_machine rfl rfl rfl
theorem dX11_machine_55 : decode cX11_machine 55 = .ok (.iload 4, 2) := dk_21 hN_cX11_machine rfl rfl rfl
theorem dX11_machine_57 : decode cX11_machine 57 = .ok (.iaload, 1) := dk_46 hN_cX11_machine rfl rfl
theorem dX11_machine_58 : decode cX11_machine 58 = .ok (.iconst 2, 1) := dk_5 hN_cX11_machine rfl rfl
theorem dX11_machine_59 : decode cX11_machine 59 = .ok (.if_icmp .ne 8, 3) := dk_160 hN_cX11_machine rfl rfl rfl
theorem dX11_machine_67 : decode cX11_machine 67 = .ok (.iload_n 3, 1) := dk_29 hN_cX11_machine rfl rfl
theorem dX11_machine_68 : decode cX11_machine 68 = .ok (.ifCond .eq 13, 3) := dk_153 hN_cX11_machine rfl rfl rfl
theorem dX11_machine_81 : decode cX11_machine 81 = .ok (.aload_n 0, 1) := dk_42 hN_cX11_machine rfl rfl
theorem dX11_machine_82 : decode cX11_machine 82 = .ok (.getfield 63, 3) := dk_180 hN_cX11_machine rfl rfl rfl
theorem dX11_machine_85 : decode cX11_machine 85 = .ok (.iload 4, 2) := dk_21 hN_cX11_machine rfl rfl rfl
theorem dX11_machine_87 : decode cX11_machine 87 = .ok (.iaload, 1) := dk_46 hN_cX11_machine rfl rfl
theorem dX11_machine_88 : decode cX11_machine 88 = .ok (.ireturn, 1) := dk_172 hN_cX11_machine rfl rfl
theorem dX11_machine_71 : decode cX11_machine 71 = .ok (.aload_n 0, 1) := dk_42 hN_cX11_machine rfl rfl
theorem dX11_machine_72 : decode cX11_machine 72 = .ok (.getfield 66, 3) := dk_180 hN_cX11_machine rfl rfl rfl
theorem dX11_machine_75 : decode cX11_machine 75 = .ok (.iload 4, 2) := dk_21 hN_cX11_machine rfl rfl rfl
theorem dX11_machine_77 : decode cX11_machine 77 = .ok (.iaload, 1) := dk_46 hN_cX11_machine rfl rfl
theorem dX11_machine_78 : decode cX11_machine 78 = .ok (.goto 10, 3) := dk_167 hN_cX11_machine rfl rfl rfl
theorem dX11_machine_62 : decode cX11_machine 62 = .ok (.bipush (-2), 2) := dk_16 hN_cX11_machine rfl rfl rfl
theorem dX11_machine_64 : decode cX11_machine 64 = .ok (.goto 24, 3) := dk_167 hN_cX11_machine rfl rfl rfl
theorem dX11_machine_36 : decode cX11_machine 36 = .ok (.aload_n 0, 1) := dk_42 hN_cX11_machine rfl rfl
theorem dX11_machine_37 : decode cX11_machine 37 = .ok (.bipush 6, 2) := dk_16 hN_cX11_machine rfl rfl rfl
theorem dX11_machine_39 : decode cX11_machine 39 = .ok (.invokevirtual 177, 3) := dk_182 hN_cX11_machine rfl rfl rfl
theorem dX11_machine_42 : decode cX11_machine 42 = .ok (.ireturn, 1) := dk_172 hN_cX11_machine rfl rfl
theorem dX11_copy_0 : decode cX11_copy 0 = .ok (.iconst 0, 1) := dk_3 hN_cX11_copy rfl rfl
theorem dX11_copy_1 : decode cX11_copy 1 = .ok (.istore 5, 2) := dk_54 hN_cX11_copy rfl rfl rfl
theorem dX11_copy_3 : decode cX11_copy 3 = .ok (.iload 5, 2) := dk_21 hN_cX11_copy rfl rfl rfl
theorem dX11_copy_5 : decode cX11_copy 5 = .ok (.iload 4, 2) := dk_21 hN_cX11_copy rfl rfl rfl
theorem dX11_copy_7 : decode cX11_copy 7 = .ok (.if_icmp .ge 21, 3) := dk_162 hN_cX11_copy rfl rfl rfl
theorem dX11_copy_28 : decode cX11_copy 28 = .ok (.return_, 1) := dk_177 hN_cX11_copy rfl rfl
theorem dX11_copy_10 : decode cX11_copy 10 = .ok (.aload_n 2, 1) := dk_44 hN_cX11_copy rfl rfl
theorem dX11_copy_11 : decode cX11_copy 11 = .ok (.iload_n 3, 1) := dk_29 hN_cX11_copy rfl rfl
theorem dX11_copy_12 : decode cX11_copy 12 = .ok (.iload 5, 2) := dk_21 hN_cX11_copy rfl rfl rfl
theorem dX11_copy_14 : decode cX11_copy 14 = .ok (.iadd, 1) := dk_96 hN_cX11_copy rfl rfl
theorem dX11_copy_15 : decode cX11_copy 15 = .ok (.aload_n 0, 1) := dk_42 hN_cX11_copy rfl rfl
theorem dX11_copy_16 : decode cX11_copy 16 = .ok (.iload_n 1, 1) := dk_27 hN_cX11_copy rfl rfl
theorem dX11_copy_17 : decode cX11_copy 17 = .ok (.iload 5, 2) := dk_21 hN_cX11_copy rfl rfl rfl
theorem dX11_copy_19 : decode cX11_copy 19 = .ok (.iadd, 1) := dk_96 hN_cX11_copy rfl rfl
theorem dX11_copy_20 : decode cX11_copy 20 = .ok (.iaload, 1) := dk_46 hN_cX11_copy rfl rfl
theorem dX11_copy_21 : decode cX11_copy 21 = .ok (.iastore, 1) := dk_79 hN_cX11_copy rfl rfl
theorem dX11_copy_22 : decode cX11_copy 22 = .ok (.iinc 5 1, 3) := dk_132 hN_cX11_copy rfl rfl rfl rfl
theorem dX11_copy_25 : decode cX11_copy 25 = .ok (.goto (-22), 3) := dk_167 hN_cX11_copy rfl rfl rfl
theorem dX11_did_0 : decode cX11_did 0 = .ok (.aload_n 0, 1) := dk_42 hN_cX11_did rfl rfl
theorem dX11_did_1 : decode cX11_did 1 = .ok (.getfield 32, 3) := dk_180 hN_cX11_did rfl rfl rfl
theorem dX11_did_4 : decode cX11_did 4 = .ok (.aload_n 0, 1) := dk_42 hN_cX11_did rfl rfl
theorem dX11_did_5 : decode cX11_did 5 = .ok (.getfield 41, 3) := dk_180 hN_cX11_did rfl rfl rfl
theorem dX11_did_8 : decode cX11_did 8 = .ok (.aload_n 0, 1) := dk_42 hN_cX11_did rfl rfl
theorem dX11_did_9 : decode cX11_did 9 = .ok (.getfield 189, 3) := dk_180 hN_cX11_did rfl rfl rfl
theorem dX11_did_12 : decode cX11_did 12 = .ok (.aload_n 0, 1) := dk_42 hN_cX11_did rfl rfl
theorem dX11_did_13 : decode cX11_did 13 = .ok (.getfield 29, 3) := dk_180 hN_cX11_did rfl rfl rfl
theorem dX11_did_16 : decode cX11_did 16 = .ok (.iload_n 1, 1) := dk_27 hN_cX11_did rfl rfl
theorem dX11_did_17 : decode cX11_did 17 = .ok (.iload_n 2, 1) := dk_28 hN_cX11_did rfl rfl
theorem dX11_did_18 : decode cX11_did 18 = .ok (.iload_n 3, 1) := dk_29 hN_cX11_did rfl rfl
theorem dX11_did_19 : decode cX11_did 19 = .ok (.iload 4, 2) := dk_21 hN_cX11_did rfl rfl rfl
theorem dX11_did_21 : decode cX11_did 21 = .ok (.iload 5, 2) := dk_21 hN_cX11_did rfl rfl rfl
theorem dX11_did_23 : decode cX11_did 23 = .ok (.invokestatic 395, 3) := dk_184 hN_cX11_did rfl rfl rfl
theorem dX11_did_26 : decode cX11_did 26 = .ok (.aload_n 0, 1) := dk_42 hN_cX11_did rfl rfl
theorem dX11_did_27 : decode cX11_did 27 = .ok (.aload_n 0, 1) := dk_42 hN_cX11_did rfl rfl
theorem dX11_did_28 : decode cX11_did 28 = .ok (.getfield 189, 3) := dk_180 hN_cX11_did rfl rfl rfl
theorem dX11_did_31 : decode cX11_did 31 = .ok (.bipush 20, 2) := dk_16 hN_cX11_did rfl rfl rfl
theorem dX11_did_33 : decode cX11_did 33 = .ok (.if_icmp .ne 8, 3) := dk_160 hN_cX11_did rfl rfl rfl
theorem dX11_did_41 : decode cX11_did 41 = .ok (.aload_n 0, 1) := dk_42 hN_cX11_did rfl rfl
theorem dX11_did_42 : decode cX11_did 42 = .ok (.getfield 189, 3) := dk_180 hN_cX11_did rfl rfl rfl
theorem dX11_did_45 : decode cX11_did 45 = .ok (.iconst 1, 1) := dk_4 hN_cX11_did rfl rfl
theorem dX11_did_46 : decode cX11_did 46 = .ok (.iadd, 1) := dk_96 hN_cX11_did rfl rfl
theorem dX11_did_47 : decode cX11_did 47 = .ok (.putfield 189, 3) := dk_181 hN_cX11_did rfl rfl rfl
theorem dX11_did_50 : decode cX11_did 50 = .ok (.aload_n 0, 1) := dk_42 hN_cX11_did rfl rfl
theorem dX11_did_51 : decode cX11_did 51 = .ok (.iconst 0, 1) := dk_3 hN_cX11_did rfl rfl
theorem dX11_did_52 : decode cX11_did 52 = .ok (.putfield 192, 3) := dk_181 hN_cX11_did rfl rfl rfl
theorem dX11_did_55 : decode cX11_did 55 = .ok (.iconst 1, 1) := dk_4 hN_cX11_did rfl rfl
theorem dX11_did_56 : decode cX11_did 56 = .ok (.ireturn, 1) := dk_172 hN_cX11_did rfl rfl
theorem dX11_did_36 : decode cX11_did 36 = .ok (.bipush 20, 2) := dk_16 hN_cX11_did rfl rfl rfl
theorem dX11_did_38 : decode cX11_did 38 = .ok (.goto 9, 3) := dk_167 hN_cX11_did rfl rfl rfl
theorem dX11_keep_0 : decode cX11_keep 0 = .ok (.iload_n 2, 1) := dk_28 hN_cX11_keep rfl rfl
theorem dX11_keep_1 : decode cX11_keep 1 = .ok (.istore 9, 2) := dk_54 hN_cX11_keep rfl rfl rfl
theorem dX11_keep_3 : decode cX11_keep 3 = .ok (.iload_n 2, 1) := dk_28 hN_cX11_keep rfl rfl
theorem dX11_keep_4 : decode cX11_keep 4 = .ok (.bipush 20, 2) := dk_16 hN_cX11_keep rfl rfl rfl
theorem dX11_keep_6 : decode cX11_keep 6 = .ok (.if_icmp .ne 60, 3) := dk_160 hN_cX11_keep rfl rfl rfl
theorem dX11_keep_66 : decode cX11_keep 66 = .ok (.aload_n 3, 1) := dk_45 hN_cX11_keep rfl rfl
theorem dX11_keep_67 : decode cX11_keep 67 = .ok (.iconst 0, 1) := dk_3 hN_cX11_keep rfl rfl
theorem dX11_keep_68 : decode cX11_keep 68 = .ok (.aload_n 0, 1) := dk_42 hN_cX11_keep rfl rfl
theorem dX11_keep_69 : decode cX11_keep 69 = .ok (.bipush 49, 2) := dk_16 hN_cX11_keep rfl rfl rfl
theorem dX11_keep_71 : decode cX11_keep 71 = .ok (.iload 9, 2) := dk_21 hN_cX11_keep rfl rfl rfl
theorem dX11_keep_73 : decode cX11_keep 73 = .ok (.imul, 1) := dk_104 hN_cX11_keep rfl rfl
theorem dX11_keep_74 : decode cX11_keep 74 = .ok (.bipush 49, 2) := dk_16 hN_cX11_keep rfl rfl rfl
theorem dX11_keep_76 : decode cX11_keep 76 = .ok (.invokestatic 399, 3) := dk_184 hN_cX11_keep rfl rfl rfl
theorem dX11_keep_79 : decode cX11_keep 79 = .ok (.aload_n 1, 1) := dk_43 hN_cX11_keep rfl rfl
theorem dX11_keep_80 : decode cX11_keep 80 = .ok (.iconst 5, 1) := dk_8 hN_cX11_keep rfl rfl
theorem dX11_keep_81 : decode cX11_keep 81 = .ok (.iload 9, 2) := dk_21 hN_cX11_keep rfl rfl rfl
theorem dX11_keep_83 : decode cX11_keep 83 = .ok (.imul, 1) := dk_104 hN_cX11_keep rfl rfl
theorem dX11_keep_84 : decode cX11_keep 84 = .ok (.iload 4, 2) := dk_21 hN_cX11_keep rfl rfl rfl
theorem dX11_keep_86 : decode cX11_keep 86 = .ok (.iastore, 1) := dk_79 hN_cX11_keep rfl rfl
theorem dX11_keep_87 : decode cX11_keep 87 = .ok (.aload_n 1, 1) := dk_43 hN_cX11_keep rfl rfl
theorem dX11_keep_88 : decode cX11_keep 88 = .ok (.iconst 5, 1) := dk_8 hN_cX11_keep rfl rfl
theorem dX11_keep_89 : decode cX11_keep 89 = .ok (.iload 9, 2) := dk_21 hN_cX11_keep rfl rfl rfl
theorem dX11_keep_91 : decode cX11_keep 91 = .ok (.imul, 1) := dk_104 hN_cX11_keep rfl rfl
theorem dX11_keep_92 : decode cX11_keep 92 = .ok (.iconst 1, 1) := dk_4 hN_cX11_keep rfl rfl
theorem dX11_keep_93 : decode cX11_keep 93 = .ok (.iadd, 1) := dk_96 hN_cX11_keep rfl rfl
theorem dX11_keep_94 : decode cX11_keep 94 = .ok (.iload 5, 2) := dk_21 hN_cX11_keep rfl rfl rfl
theorem dX11_keep_96 : decode cX11_keep 96 = .ok (.iastore, 1) := dk_79 hN_cX11_keep rfl rfl
theorem dX11_keep_97 : decode cX11_keep 97 = .ok (.aload_n 1, 1) := dk_43 hN_cX11_keep rfl rfl
theorem dX11_keep_98 : decode cX11_keep 98 = .ok (.iconst 5, 1) := dk_8 hN_cX11_keep rfl rfl
theorem dX11_keep_99 : decode cX11_keep 99 = .ok (.iload 9, 2) := dk_21 hN_cX11_keep rfl rfl rfl
theorem dX11_keep_101 : decode cX11_keep 101 = .ok (.imul, 1) := dk_104 hN_cX11_keep rfl rfl
theorem dX11_keep_102 : decode cX11_keep 102 = .ok (.iconst 2, 1) := dk_5 hN_cX11_keep rfl rfl
theorem dX11_keep_103 : decode cX11_keep 103 = .ok (.iadd, 1) := dk_96 hN_cX11_keep rfl rfl
theorem dX11_keep_104 : decode cX11_keep 104 = .ok (.iload 6, 2) := dk_21 hN_cX11_keep rfl rfl rfl
theorem dX11_keep_106 : decode cX11_keep 106 = .ok (.iastore, 1) := dk_79 hN_cX11_keep rfl rfl
theorem dX11_keep_107 : decode cX11_keep 107 = .ok (.aload_n 1, 1) := dk_43 hN_cX11_keep rfl rfl
theorem dX11_keep_108 : decode cX11_keep 108 = .ok (.iconst 5, 1) := dk_8 hN_cX11_keep rfl rfl
theorem dX11_keep_109 : decode cX11_keep 109 = .ok (.iload 9, 2) := dk_21 hN_cX11_keep rfl rfl rfl
theorem dX11_keep_111 : decode cX11_keep 111 = .ok (.imul, 1) := dk_104 hN_cX11_keep rfl rfl
theorem dX11_keep_112 : decode cX11_keep 112 = .ok (.iconst 3, 1) := dk_6 hN_cX11_keep rfl rfl
theorem dX11_keep_113 : decode cX11_keep 113 = .ok (.iadd, 1) := dk_96 hN_cX11_keep rfl rfl
theorem dX11_keep_114 : decode cX11_keep 114 = .ok (.iload 7, 2) := dk_21 hN_cX11_keep rfl rfl rfl
theorem dX11_keep_116 : decode cX11_keep 116 = .ok (.iastore, 1) := dk_79 hN_cX11_keep rfl rfl
theorem dX11_keep_117 : decode cX11_keep 117 = .ok (.aload_n 1, 1) := dk_43 hN_cX11_keep rfl rfl
theorem dX11_keep_118 : decode cX11_keep 118 = .ok (.iconst 5, 1) := dk_8 hN_cX11_keep rfl rfl
theorem dX11_keep_119 : decode cX11_keep 119 = .ok (.iload 9, 2) := dk_21 hN_cX11_keep rfl rfl rfl
theorem dX11_keep_121 : decode cX11_keep 121 = .ok (.imul, 1) := dk_104 hN_cX11_keep rfl rfl
theorem dX11_keep_122 : decode cX11_keep 122 = .ok (.iconst 4, 1) := dk_7 hN_cX11_keep rfl rfl
theorem dX11_keep_123 : decode cX11_keep 123 = .ok (.iadd, 1) := dk_96 hN_cX11_keep rfl rfl
theorem dX11_keep_124 : decode cX11_keep 124 = .ok (.iload 8, 2) := dk_21 hN_cX11_keep rfl rfl rfl
theorem dX11_keep_126 : decode cX11_keep 126 = .ok (.iastore, 1) := dk_79 hN_cX11_keep rfl rfl
theorem dX11_keep_127 : decode cX11_keep 127 = .ok (.return_, 1) := dk_177 hN_cX11_keep rfl rfl
theorem dX11_keep_9 : decode cX11_keep 9 = .ok (.iconst 0, 1) := dk_3 hN_cX11_keep rfl rfl
theorem dX11_keep_10 : decode cX11_keep 10 = .ok (.istore 10, 2) := dk_54 hN_cX11_keep rfl rfl rfl
theorem dX11_keep_12 : decode cX11_keep 12 = .ok (.iload 10, 2) := dk_21 hN_cX11_keep rfl rfl rfl
theorem dX11_keep_14 : decode cX11_keep 14 = .ok (.sipush 931, 3) := dk_17 hN_cX11_keep rfl rfl rfl
theorem dX11_keep_17 : decode cX11_keep 17 = .ok (.if_icmp .ge 20, 3) := dk_162 hN_cX11_keep rfl rfl rfl
theorem dX11_keep_37 : decode cX11_keep 37 = .ok (.iconst 0, 1) := dk_3 hN_cX11_keep rfl rfl
theorem dX11_keep_38 : decode cX11_keep 38 = .ok (.istore 10, 2) := dk_54 hN_cX11_keep rfl rfl rfl
theorem dX11_keep_20 : decode cX11_keep 20 = .ok (.aload_n 0, 1) := dk_42 hN_cX11_keep rfl rfl
theorem dX11_keep_21 : decode cX11_keep 21 = .ok (.iload 10, 2) := dk_21 hN_cX11_keep rfl rfl rfl
theorem dX11_keep_23 : decode cX11_keep 23 = .ok (.aload_n 0, 1) := dk_42 hN_cX11_keep rfl rfl
theorem dX11_keep_24 : decode cX11_keep 24 = .ok (.iload 10, 2) := dk_21 hN_cX11_keep rfl rfl rfl
theorem dX11_keep_26 : decode cX11_keep 26 = .ok (.bipush 49, 2) := dk_16 hN_cX11_keep rfl rfl rfl
theorem dX11_keep_28 : decode cX11_keep 28 = .ok (.iadd, 1) := dk_96 hN_cX11_keep rfl rfl
theorem dX11_keep_29 : decode cX11_keep 29 = .ok (.iaload, 1) := dk_46 hN_cX11_keep rfl rfl
theorem dX11_keep_30 : decode cX11_keep 30 = .ok (.iastore, 1) := dk_79 hN_cX11_keep rfl rfl
theorem dX11_keep_31 : decode cX11_keep 31 = .ok (.iinc 10 1, 3) := dk_132 hN_cX11_keep rfl rfl rfl rfl
theorem dX11_keep_34 : decode cX11_keep 34 = .ok (.goto (-22), 3) := dk_167 hN_cX11_keep rfl rfl rfl
theorem dX11_keep_40 : decode cX11_keep 40 = .ok (.iload 10, 2) := dk_21 hN_cX11_keep rfl rfl rfl
theorem dX11_keep_42 : decode cX11_keep 42 = .ok (.bipush 95, 2) := dk_16 hN_cX11_keep rfl rfl rfl
theorem dX11_keep_44 : decode cX11_keep 44 = .ok (.if_icmp .ge 19, 3) := dk_162 hN_cX11_keep rfl rfl rfl
theorem dX11_keep_63 : decode cX11_keep 63 = .ok (.iinc 9 (-1), 3) := dk_132 hN_cX11_keep rfl rfl rfl rfl
theorem dX11_keep_47 : decode cX11_keep 47 = .ok (.aload_n 1, 1) := dk_43 hN_cX11_keep rfl rfl
theorem dX11_keep_48 : decode cX11_keep 48 = .ok (.iload 10, 2) := dk_21 hN_cX11_keep rfl rfl rfl
theorem dX11_keep_50 : decode cX11_keep 50 = .ok (.aload_n 1, 1) := dk_43 hN_cX11_keep rfl rfl
theorem dX11_keep_51 : decode cX11_keep 51 = .ok (.iload 10, 2) := dk_21 hN_cX11_keep rfl rfl rfl
theorem dX11_keep_53 : decode cX11_keep 53 = .ok (.iconst 5, 1) := dk_8 hN_cX11_keep rfl rfl
theorem dX11_keep_54 : decode cX11_keep 54 = .ok (.iadd, 1) := dk_96 hN_cX11_keep rfl rfl
theorem dX11_keep_55 : decode cX11_keep 55 = .ok (.iaload, 1) := dk_46 hN_cX11_keep rfl rfl
theorem dX11_keep_56 : decode cX11_keep 56 = .ok (.iastore, 1) := dk_79 hN_cX11_keep rfl rfl
theorem dX11_keep_57 : decode cX11_keep 57 = .ok (.iinc 10 1, 3) := dk_132 hN_cX11_keep rfl rfl rfl rfl
theorem dX11_keep_60 : decode cX11_keep 60 = .ok (.goto (-20), 3) := dk_167 hN_cX11_keep rfl rfl rfl
theorem dX11_flip_0 : decode cX11_flip 0 = .ok (.aload_n 0, 1) := dk_42 hN_cX11_flip rfl rfl
theorem dX11_flip_1 : decode cX11_flip 1 = .ok (.invokevirtual 174, 3) := dk_182 hN_cX11_flip rfl rfl rfl
theorem dX11_flip_4 : decode cX11_flip 4 = .ok (.aload_n 0, 1) := dk_42 hN_cX11_flip rfl rfl
theorem dX11_flip_5 : decode cX11_flip 5 = .ok (.iload_n 1, 1) := dk_27 hN_cX11_flip rfl rfl
theorem dX11_flip_6 : decode cX11_flip 6 = .ok (.invokevirtual 296, 3) := dk_182 hN_cX11_flip rfl rfl rfl
theorem dX11_flip_9 : decode cX11_flip 9 = .ok (.ifCond .ne 9, 3) := dk_154 hN_cX11_flip rfl rfl rfl
theorem dX11_flip_18 : decode cX11_flip 18 = .ok (.aload_n 0, 1) := dk_42 hN_cX11_flip rfl rfl
theorem dX11_flip_19 : decode cX11_flip 19 = .ok (.getfield 20, 3) := dk_180 hN_cX11_flip rfl rfl rfl
theorem dX11_flip_22 : decode cX11_flip 22 = .ok (.iconst 0, 1) := dk_3 hN_cX11_flip rfl rfl
theorem dX11_flip_23 : decode cX11_flip 23 = .ok (.aload_n 0, 1) := dk_42 hN_cX11_flip rfl rfl
theorem dX11_flip_24 : decode cX11_flip 24 = .ok (.getfield 29, 3) := dk_180 hN_cX11_flip rfl rfl rfl
theorem dX11_flip_27 : decode cX11_flip 27 = .ok (.iconst 0, 1) := dk_3 hN_cX11_flip rfl rfl
theorem dX11_flip_28 : decode cX11_flip 28 = .ok (.bipush 49, 2) := dk_16 hN_cX11_flip rfl rfl rfl
theorem dX11_flip_30 : decode cX11_flip 30 = .ok (.invokestatic 399, 3) := dk_184 hN_cX11_flip rfl rfl rfl
theorem dX11_flip_33 : decode cX11_flip 33 = .ok (.iconst 0, 1) := dk_3 hN_cX11_flip rfl rfl
theorem dX11_flip_34 : decode cX11_flip 34 = .ok (.istore_n 2, 1) := dk_61 hN_cX11_flip rfl rfl
theorem dX11_flip_12 : decode cX11_flip 12 = .ok (.aload_n 0, 1) := dk_42 hN_cX11_flip rfl rfl
theorem dX11_flip_13 : decode cX11_flip 13 = .ok (.iconst 1, 1) := dk_4 hN_cX11_flip rfl rfl
theorem dX11_flip_14 : decode cX11_flip 14 = .ok (.invokevirtual 336, 3) := dk_182 hN_cX11_flip rfl rfl rfl
theorem dX11_flip_17 : decode cX11_flip 17 = .ok (.ireturn, 1) := dk_172 hN_cX11_flip rfl rfl
theorem dX11_flip_35 : decode cX11_flip 35 = .ok (.iload_n 2, 1) := dk_28 hN_cX11_flip rfl rfl
theorem dX11_flip_36 : decode cX11_flip 36 = .ok (.aload_n 0, 1) := dk_42 hN_cX11_flip rfl rfl
theorem dX11_flip_37 : decode cX11_flip 37 = .ok (.getfield 20, 3) := dk_180 hN_cX11_flip rfl rfl rfl
theorem dX11_flip_40 : decode cX11_flip 40 = .ok (.iconst 0, 1) := dk_3 hN_cX11_flip rfl rfl
theorem dX11_flip_41 : decode cX11_flip 41 = .ok (.iaload, 1) := dk_46 hN_cX11_flip rfl rfl
theorem dX11_flip_42 : decode cX11_flip 42 = .ok (.if_icmp .ge 215, 3) := dk_162 hN_cX11_flip rfl rfl rfl
theorem dX11_flip_257 : decode cX11_flip 257 = .ok (.aload_n 0, 1) := dk_42 hN_cX11_flip rfl rfl
theorem dX11_flip_258 : decode cX11_flip 258 = .ok (.iconst 0, 1) := dk_3 hN_cX11_flip rfl rfl
theorem dX11_flip_259 : decode cX11_flip 259 = .ok (.iload_n 1, 1) := dk_27 hN_cX11_flip rfl rfl
theorem dX11_flip_260 : decode cX11_flip 260 = .ok (.bipush (-2), 2) := dk_16 hN_cX11_flip rfl rfl rfl
theorem dX11_flip_262 : decode cX11_flip 262 = .ok (.bipush (-2), 2) := dk_16 hN_cX11_flip rfl rfl rfl
theorem dX11_flip_264 : decode cX11_flip 264 = .ok (.bipush (-2), 2) := dk_16 hN_cX11_flip rfl rfl rfl
theorem dX11_flip_266 : decode cX11_flip 266 = .ok (.invokevirtual 403, 3) := dk_182 hN_cX11_flip rfl rfl rfl
theorem dX11_flip_269 : decode cX11_flip 269 = .ok (.ireturn, 1) := dk_172 hN_cX11_flip rfl rfl
theorem dX11_flip_45 : decode cX11_flip 45 = .ok (.aload_n 0, 1) := dk_42 hN_cX11_flip rfl rfl
theorem dX11_flip_46 : decode cX11_flip 46 = .ok (.getfield 20, 3) := dk_180 hN_cX11_flip rfl rfl rfl
theorem dX11_flip_49 : decode cX11_flip 49 = .ok (.bipush 9, 2) := dk_16 hN_cX11_flip rfl rfl rfl
theorem dX11_flip_51 : decode cX11_flip 51 = .ok (.iload_n 2, 1) := dk_28 hN_cX11_flip rfl rfl
theorem dX11_flip_52 : decode cX11_flip 52 = .ok (.iadd, 1) := dk_96 hN_cX11_flip rfl rfl
theorem dX11_flip_53 : decode cX11_flip 53 = .ok (.iaload, 1) := dk_46 hN_cX11_flip rfl rfl
theorem dX11_flip_54 : decode cX11_flip 54 = .ok (.bipush (-2), 2) := dk_16 hN_cX11_flip rfl rfl rfl
theorem dX11_flip_56 : decode cX11_flip 56 = .ok (.if_icmp .ne 23, 3) := dk_160 hN_cX11_flip rfl rfl rfl
theorem dX11_flip_79 : decode cX11_flip 79 = .ok (.aload_n 0, 1) := dk_42 hN_cX11_flip rfl rfl
theorem dX11_flip_80 : decode cX11_flip 80 = .ok (.getfield 20, 3) := dk_180 hN_cX11_flip rfl rfl rfl
theorem dX11_flip_83 : decode cX11_flip 83 = .ok (.iconst 1, 1) := dk_4 hN_cX11_flip rfl rfl
theorem dX11_flip_84 : decode cX11_flip 84 = .ok (.iload_n 2, 1) := dk_28 hN_cX11_flip rfl rfl
theorem dX11_flip_85 : decode cX11_flip 85 = .ok (.iadd, 1) := dk_96 hN_cX11_flip rfl rfl
theorem dX11_flip_86 : decode cX11_flip 86 = .ok (.iaload, 1) := dk_46 hN_cX11_flip rfl rfl
theorem dX11_flip_87 : decode cX11_flip 87 = .ok (.iload_n 1, 1) := dk_27 hN_cX11_flip rfl rfl
theorem dX11_flip_88 : decode cX11_flip 88 = .ok (.if_icmp .ne 7, 3) := dk_160 hN_cX11_flip rfl rfl rfl
theorem dX11_flip_95 : decode cX11_flip 95 = .ok (.aload_n 0, 1) := dk_42 hN_cX11_flip rfl rfl
theorem dX11_flip_96 : decode cX11_flip 96 = .ok (.getfield 20, 3) := dk_180 hN_cX11_flip rfl rfl rfl
theorem dX11_flip_99 : decode cX11_flip 99 = .ok (.bipush 9, 2) := dk_16 hN_cX11_flip rfl rfl rfl
theorem dX11_flip_101 : decode cX11_flip 101 = .ok (.iload_n 2, 1) := dk_28 hN_cX11_flip rfl rfl
theorem dX11_flip_102 : decode cX11_flip 102 = .ok (.iadd, 1) := dk_96 hN_cX11_flip rfl rfl
theorem dX11_flip_103 : decode cX11_flip 103 = .ok (.iaload, 1) := dk_46 hN_cX11_flip rfl rfl
theorem dX11_flip_104 : decode cX11_flip 104 = .ok (.iload_n 1, 1) := dk_27 hN_cX11_flip rfl rfl
theorem dX11_flip_105 : decode cX11_flip 105 = .ok (.if_icmp .ne 7, 3) := dk_160 hN_cX11_flip rfl rfl rfl
theorem dX11_flip_112 : decode cX11_flip 112 = .ok (.iconst 0, 1) := dk_3 hN_cX11_flip rfl rfl
theorem dX11_flip_113 : decode cX11_flip 113 = .ok (.istore_n 3, 1) := dk_62 hN_cX11_flip rfl rfl
theorem dX11_flip_114 : decode cX11_flip 114 = .ok (.iload_n 3, 1) := dk_29 hN_cX11_flip rfl rfl
theorem dX11_flip_115 : decode cX11_flip 115 = .ok (.ifCond .ne 6, 3) := dk_154 hN_cX11_flip rfl rfl rfl
theorem dX11_flip_118 : decode cX11_flip 118 = .ok (.goto 133, 3) := dk_167 hN_cX11_flip rfl rfl rfl
theorem dX11_flip_251 : decode cX11_flip 251 = .ok (.iinc 2 1, 3) := dk_132 hN_cX11_flip rfl rfl rfl rfl
theorem dX11_flip_254 : decode cX11_flip 254 = .ok (.goto (-219), 3) := dk_167 hN_cX11_flip rfl rfl rfl
theorem dX11_flip_108 : decode cX11_flip 108 = .ok (.iconst 1, 1) := dk_4 hN_cX11_flip rfl rfl
theorem dX11_flip_109 : decode cX11_flip 109 = .ok (.goto 4, 3) := dk_167 hN_cX11_flip rfl rfl rfl
theorem dX11_flip_121 : decode cX11_flip 121 = .ok (.iconst 0, 1) := dk_3 hN_cX11_flip rfl rfl
theorem dX11_flip_122 : decode cX11_flip 122 = .ok (.istore 4, 2) := dk_54 hN_cX11_flip rfl rfl rfl
theorem dX11_flip_91 : decode cX11_flip 91 = .ok (.iconst 2, 1) := dk_5 hN_cX11_flip rfl rfl
theorem dX11_flip_92 : decode cX11_flip 92 = .ok (.goto 21, 3) := dk_167 hN_cX11_flip rfl rfl rfl
theorem dX11_flip_59 : decode cX11_flip 59 = .ok (.aload_n 0, 1) := dk_42 hN_cX11_flip rfl rfl
theorem dX11_flip_60 : decode cX11_flip 60 = .ok (.getfield 20, 3) := dk_180 hN_cX11_flip rfl rfl rfl
theorem dX11_flip_63 : decode cX11_flip 63 = .ok (.iconst 1, 1) := dk_4 hN_cX11_flip rfl rfl
theorem dX11_flip_64 : decode cX11_flip 64 = .ok (.iload_n 2, 1) := dk_28 hN_cX11_flip rfl rfl
theorem dX11_flip_65 : decode cX11_flip 65 = .ok (.iadd, 1) := dk_96 hN_cX11_flip rfl rfl
theorem dX11_flip_66 : decode cX11_flip 66 = .ok (.iaload, 1) := dk_46 hN_cX11_flip rfl rfl
theorem dX11_flip_67 : decode cX11_flip 67 = .ok (.iload_n 1, 1) := dk_27 hN_cX11_flip rfl rfl
theorem dX11_flip_68 : decode cX11_flip 68 = .ok (.if_icmp .ne 7, 3) := dk_160 hN_cX11_flip rfl rfl rfl
theorem dX11_flip_75 : decode cX11_flip 75 = .ok (.iconst 0, 1) := dk_3 hN_cX11_flip rfl rfl
theorem dX11_flip_76 : decode cX11_flip 76 = .ok (.goto 37, 3) := dk_167 hN_cX11_flip rfl rfl rfl
theorem dX11_flip_71 : decode cX11_flip 71 = .ok (.iconst 1, 1) := dk_4 hN_cX11_flip rfl rfl
theorem dX11_flip_72 : decode cX11_flip 72 = .ok (.goto 41, 3) := dk_167 hN_cX11_flip rfl rfl rfl
theorem dX11_flip_124 : decode cX11_flip 124 = .ok (.iload 4, 2) := dk_21 hN_cX11_flip rfl rfl rfl
theorem dX11_flip_126 : decode cX11_flip 126 = .ok (.aload_n 0, 1) := dk_42 hN_cX11_flip rfl rfl
theorem dX11_flip_127 : decode cX11_flip 127 = .ok (.getfield 20, 3) := dk_180 hN_cX11_flip rfl rfl rfl
theorem dX11_flip_130 : decode cX11_flip 130 = .ok (.iload_n 2, 1) := dk_28 hN_cX11_flip rfl rfl
theorem dX11_flip_131 : decode cX11_flip 131 = .ok (.invokestatic 247, 3) := dk_184 hN_cX11_flip rfl rfl rfl
theorem dX11_flip_134 : decode cX11_flip 134 = .ok (.if_icmp .ge 117, 3) := dk_162 hN_cX11_flip rfl rfl rfl
theorem dX11_flip_137 : decode cX11_flip 137 = .ok (.iload 4, 2) := dk_21 hN_cX11_flip rfl rfl rfl
theorem dX11_flip_139 : decode cX11_flip 139 = .ok (.iload_n 3, 1) := dk_29 hN_cX11_flip rfl rfl
theorem dX11_flip_140 : decode cX11_flip 140 = .ok (.ixor, 1) := dk_130 hN_cX11_flip rfl rfl
theorem dX11_flip_141 : decode cX11_flip 141 = .ok (.istore 5, 2) := dk_54 hN_cX11_flip rfl rfl rfl
theorem dX11_flip_143 : decode cX11_flip 143 = .ok (.iload 5, 2) := dk_21 hN_cX11_flip rfl rfl rfl
theorem dX11_flip_145 : decode cX11_flip 145 = .ok (.iload 4, 2) := dk_21 hN_cX11_flip rfl rfl rfl
theorem dX11_flip_147 : decode cX11_flip 147 = .ok (.if_icmp .ge 6, 3) := dk_162 hN_cX11_flip rfl rfl rfl
theorem dX11_flip_153 : decode cX11_flip 153 = .ok (.iconst 4, 1) := dk_7 hN_cX11_flip rfl rfl
theorem dX11_flip_154 : decode cX11_flip 154 = .ok (.iload_n 2, 1) := dk_28 hN_cX11_flip rfl rfl
theorem dX11_flip_155 : decode cX11_flip 155 = .ok (.imul, 1) := dk_104 hN_cX11_flip rfl rfl
theorem dX11_flip_156 : decode cX11_flip 156 = .ok (.iload 4, 2) := dk_21 hN_cX11_flip rfl rfl rfl
theorem dX11_flip_158 : decode cX11_flip 158 = .ok (.iadd, 1) := dk_96 hN_cX11_flip rfl rfl
theorem dX11_flip_159 : decode cX11_flip 159 = .ok (.istore 6, 2) := dk_54 hN_cX11_flip rfl rfl rfl
theorem dX11_flip_161 : decode cX11_flip 161 = .ok (.iconst 4, 1) := dk_7 hN_cX11_flip rfl rfl
theorem dX11_flip_162 : decode cX11_flip 162 = .ok (.iload_n 2, 1) := dk_28 hN_cX11_flip rfl rfl
theorem dX11_flip_163 : decode cX11_flip 163 = .ok (.imul, 1) := dk_104 hN_cX11_flip rfl rfl
theorem dX11_flip_164 : decode cX11_flip 164 = .ok (.iload 5, 2) := dk_21 hN_cX11_flip rfl rfl rfl
theorem dX11_flip_166 : decode cX11_flip 166 = .ok (.iadd, 1) := dk_96 hN_cX11_flip rfl rfl
theorem dX11_flip_167 : decode cX11_flip 167 = .ok (.istore 7, 2) := dk_54 hN_cX11_flip rfl rfl rfl
theorem dX11_flip_169 : decode cX11_flip 169 = .ok (.aload_n 0, 1) := dk_42 hN_cX11_flip rfl rfl
theorem dX11_flip_170 : decode cX11_flip 170 = .ok (.getfield 20, 3) := dk_180 hN_cX11_flip rfl rfl rfl
theorem dX11_flip_173 : decode cX11_flip 173 = .ok (.bipush 17, 2) := dk_16 hN_cX11_flip rfl rfl rfl
theorem dX11_flip_175 : decode cX11_flip 175 = .ok (.iload 6, 2) := dk_21 hN_cX11_flip rfl rfl rfl
theorem dX11_flip_177 : decode cX11_flip 177 = .ok (.iadd, 1) := dk_96 hN_cX11_flip rfl rfl
theorem dX11_flip_178 : decode cX11_flip 178 = .ok (.iaload, 1) := dk_46 hN_cX11_flip rfl rfl
theorem dX11_flip_179 : decode cX11_flip 179 = .ok (.istore 8, 2) := dk_54 hN_cX11_flip rfl rfl rfl
theorem dX11_flip_181 : decode cX11_flip 181 = .ok (.aload_n 0, 1) := dk_42 hN_cX11_flip rfl rfl
theorem dX11_flip_182 : decode cX11_flip 182 = .ok (.getfield 20, 3) := dk_180 hN_cX11_flip rfl rfl rfl
theorem dX11_flip_185 : decode cX11_flip 185 = .ok (.bipush 17, 2) := dk_16 hN_cX11_flip rfl rfl rfl
theorem dX11_flip_187 : decode cX11_flip 187 = .ok (.iload 6, 2) := dk_21 hN_cX11_flip rfl rfl rfl
theorem dX11_flip_189 : decode cX11_flip 189 = .ok (.iadd, 1) := dk_96 hN_cX11_flip rfl rfl
theorem dX11_flip_190 : decode cX11_flip 190 = .ok (.aload_n 0, 1) := dk_42 hN_cX11_flip rfl rfl
theorem dX11_flip_191 : decode cX11_flip 191 = .ok (.getfield 20, 3) := dk_180 hN_cX11_flip rfl rfl rfl
theorem dX11_flip_194 : decode cX11_flip 194 = .ok (.bipush 17, 2) := dk_16 hN_cX11_flip rfl rfl rfl
theorem dX11_flip_196 : decode cX11_flip 196 = .ok (.iload 7, 2) := dk_21 hN_cX11_flip rfl rfl rfl
theorem dX11_flip_198 : decode cX11_flip 198 = .ok (.iadd, 1) := dk_96 hN_cX11_flip rfl rfl
theorem dX11_flip_199 : decode cX11_flip 199 = .ok (.iaload, 1) := dk_46 hN_cX11_flip rfl rfl
theorem dX11_flip_200 : decode cX11_flip 200 = .ok (.iastore, 1) := dk_79 hN_cX11_flip rfl rfl
theorem dX11_flip_201 : decode cX11_flip 201 = .ok (.aload_n 0, 1) := dk_42 hN_cX11_flip rfl rfl
theorem dX11_flip_202 : decode cX11_flip 202 = .ok (.getfield 20, 3) := dk_180 hN_cX11_flip rfl rfl rfl
theorem dX11_flip_205 : decode cX11_flip 205 = .ok (.bipush 17, 2) := dk_16 hN_cX11_flip rfl rfl rfl
theorem dX11_flip_207 : decode cX11_flip 207 = .ok (.iload 7, 2) := dk_21 hN_cX11_flip rfl rfl rfl
theorem dX11_flip_209 : decode cX11_flip 209 = .ok (.iadd, 1) := dk_96 hN_cX11_flip rfl rfl
theorem dX11_flip_210 : decode cX11_flip 210 = .ok (.iload 8, 2) := dk_21 hN_cX11_flip rfl rfl rfl
theorem dX11_flip_212 : decode cX11_flip 212 = .ok (.iastore, 1) := dk_79 hN_cX11_flip rfl rfl
theorem dX11_flip_213 : decode cX11_flip 213 = .ok (.aload_n 0, 1) := dk_42 hN_cX11_flip rfl rfl
theorem dX11_flip_214 : decode cX11_flip 214 = .ok (.getfield 26, 3) := dk_180 hN_cX11_flip rfl rfl rfl
theorem dX11_flip_217 : decode cX11_flip 217 = .ok (.iload 6, 2) := dk_21 hN_cX11_flip rfl rfl rfl
theorem dX11_flip_219 : decode cX11_flip 219 = .ok (.iaload, 1) := dk_46 hN_cX11_flip rfl rfl
theorem dX11_flip_220 : decode cX11_flip 220 = .ok (.istore 8, 2) := dk_54 hN_cX11_flip rfl rfl rfl
theorem dX11_flip_222 : decode cX11_flip 222 = .ok (.aload_n 0, 1) := dk_42 hN_cX11_flip rfl rfl
theorem dX11_flip_223 : decode cX11_flip 223 = .ok (.getfield 26, 3) := dk_180 hN_cX11_flip rfl rfl rfl
theorem dX11_flip_226 : decode cX11_flip 226 = .ok (.iload 6, 2) := dk_21 hN_cX11_flip rfl rfl rfl
theorem dX11_flip_228 : decode cX11_flip 228 = .ok (.aload_n 0, 1) := dk_42 hN_cX11_flip rfl rfl
theorem dX11_flip_229 : decode cX11_flip 229 = .ok (.getfield 26, 3) := dk_180 hN_cX11_flip rfl rfl rfl
theorem dX11_flip_232 : decode cX11_flip 232 = .ok (.iload 7, 2) := dk_21 hN_cX11_flip rfl rfl rfl
theorem dX11_flip_234 : decode cX11_flip 234 = .ok (.iaload, 1) := dk_46 hN_cX11_flip rfl rfl
theorem dX11_flip_235 : decode cX11_flip 235 = .ok (.iastore, 1) := dk_79 hN_cX11_flip rfl rfl
theorem dX11_flip_236 : decode cX11_flip 236 = .ok (.aload_n 0, 1) := dk_42 hN_cX11_flip rfl rfl
theorem dX11_flip_237 : decode cX11_flip 237 = .ok (.getfield 26, 3) := dk_180 hN_cX11_flip rfl rfl rfl
theorem dX11_flip_240 : decode cX11_flip 240 = .ok (.iload 7, 2) := dk_21 hN_cX11_flip rfl rfl rfl
theorem dX11_flip_242 : decode cX11_flip 242 = .ok (.iload 8, 2) := dk_21 hN_cX11_flip rfl rfl rfl
theorem dX11_flip_244 : decode cX11_flip 244 = .ok (.iastore, 1) := dk_79 hN_cX11_flip rfl rfl
theorem dX11_flip_245 : decode cX11_flip 245 = .ok (.iinc 4 1, 3) := dk_132 hN_cX11_flip rfl rfl rfl rfl
theorem dX11_flip_248 : decode cX11_flip 248 = .ok (.goto (-124), 3) := dk_167 hN_cX11_flip rfl rfl rfl
theorem dX11_flip_150 : decode cX11_flip 150 = .ok (.goto 95, 3) := dk_167 hN_cX11_flip rfl rfl rfl
theorem dX11_goesAway_0 : decode cX11_goesAway 0 = .ok (.iload_n 1, 1) := dk_27 hN_cX11_goesAway rfl rfl
theorem dX11_goesAway_1 : decode cX11_goesAway 1 = .ok (.istore_n 2, 1) := dk_61 hN_cX11_goesAway rfl rfl
theorem dX11_goesAway_2 : decode cX11_goesAway 2 = .ok (.iload_n 2, 1) := dk_28 hN_cX11_goesAway rfl rfl
theorem dX11_goesAway_3 : decode cX11_goesAway 3 = .ok (.iconst 1, 1) := dk_4 hN_cX11_goesAway rfl rfl
theorem dX11_goesAway_4 : decode cX11_goesAway 4 = .ok (.iadd, 1) := dk_96 hN_cX11_goesAway rfl rfl
theorem dX11_goesAway_5 : decode cX11_goesAway 5 = .ok (.aload_n 0, 1) := dk_42 hN_cX11_goesAway rfl rfl
theorem dX11_goesAway_6 : decode cX11_goesAway 6 = .ok (.getfield 20, 3) := dk_180 hN_cX11_goesAway rfl rfl rfl
theorem dX11_goesAway_9 : decode cX11_goesAway 9 = .ok (.iconst 0, 1) := dk_3 hN_cX11_goesAway rfl rfl
theorem dX11_goesAway_10 : decode cX11_goesAway 10 = .ok (.iaload, 1) := dk_46 hN_cX11_goesAway rfl rfl
theorem dX11_goesAway_11 : decode cX11_goesAway 11 = .ok (.if_icmp .ge 110, 3) := dk_162 hN_cX11_goesAway rfl rfl rfl
theorem dX11_goesAway_121 : decode cX11_goesAway 121 = .ok (.aload_n 0, 1) := dk_42 hN_cX11_goesAway rfl rfl
theorem dX11_goesAway_122 : decode cX11_goesAway 122 = .ok (.getfield 20, 3) := dk_180 hN_cX11_goesAway rfl rfl rfl
theorem dX11_goesAway_125 : decode cX11_goesAway 125 = .ok (.iconst 0, 1) := dk_3 hN_cX11_goesAway rfl rfl
theorem dX11_goesAway_126 : decode cX11_goesAway 126 = .ok (.dup2, 1) := dk_92 hN_cX11_goesAway rfl rfl
theorem dX11_goesAway_127 : decode cX11_goesAway 127 = .ok (.iaload, 1) := dk_46 hN_cX11_goesAway rfl rfl
theorem dX11_goesAway_128 : decode cX11_goesAway 128 = .ok (.iconst 1, 1) := dk_4 hN_cX11_goesAway rfl rfl
theorem dX11_goesAway_129 : decode cX11_goesAway 129 = .ok (.isub, 1) := dk_100 hN_cX11_goesAway rfl rfl
theorem dX11_goesAway_130 : decode cX11_goesAway 130 = .ok (.iastore, 1) := dk_79 hN_cX11_goesAway rfl rfl
theorem dX11_goesAway_131 : decode cX11_goesAway 131 = .ok (.aload_n 0, 1) := dk_42 hN_cX11_goesAway rfl rfl
theorem dX11_goesAway_132 : decode cX11_goesAway 132 = .ok (.getfield 20, 3) := dk_180 hN_cX11_goesAway rfl rfl rfl
theorem dX11_goesAway_135 : decode cX11_goesAway 135 = .ok (.iconst 0, 1) := dk_3 hN_cX11_goesAway rfl rfl
theorem dX11_goesAway_136 : decode cX11_goesAway 136 = .ok (.iaload, 1) := dk_46 hN_cX11_goesAway rfl rfl
theorem dX11_goesAway_137 : decode cX11_goesAway 137 = .ok (.istore_n 2, 1) := dk_61 hN_cX11_goesAway rfl rfl
theorem dX11_goesAway_138 : decode cX11_goesAway 138 = .ok (.aload_n 0, 1) := dk_42 hN_cX11_goesAway rfl rfl
theorem dX11_goesAway_139 : decode cX11_goesAway 139 = .ok (.getfield 20, 3) := dk_180 hN_cX11_goesAway rfl rfl rfl
theorem dX11_goesAway_142 : decode cX11_goesAway 142 = .ok (.iconst 1, 1) := dk_4 hN_cX11_goesAway rfl rfl
theorem dX11_goesAway_143 : decode cX11_goesAway 143 = .ok (.iload_n 2, 1) := dk_28 hN_cX11_goesAway rfl rfl
theorem dX11_goesAway_144 : decode cX11_goesAway 144 = .ok (.iadd, 1) := dk_96 hN_cX11_goesAway rfl rfl
theorem dX11_goesAway_145 : decode cX11_goesAway 145 = .ok (.iconst 0, 1) := dk_3 hN_cX11_goesAway rfl rfl
theorem dX11_goesAway_146 : decode cX11_goesAway 146 = .ok (.iastore, 1) := dk_79 hN_cX11_goesAway rfl rfl
theorem dX11_goesAway_147 : decode cX11_goesAway 147 = .ok (.aload_n 0, 1) := dk_42 hN_cX11_goesAway rfl rfl
theorem dX11_goesAway_148 : decode cX11_goesAway 148 = .ok (.getfield 20, 3) := dk_180 hN_cX11_goesAway rfl rfl rfl
theorem dX11_goesAway_151 : decode cX11_goesAway 151 = .ok (.bipush 9, 2) := dk_16 hN_cX11_goesAway rfl rfl rfl
theorem dX11_goesAway_153 : decode cX11_goesAway 153 = .ok (.iload_n 2, 1) := dk_28 hN_cX11_goesAway rfl rfl
theorem dX11_goesAway_154 : decode cX11_goesAway 154 = .ok (.iadd, 1) := dk_96 hN_cX11_goesAway rfl rfl
theorem dX11_goesAway_155 : decode cX11_goesAway 155 = .ok (.iconst 0, 1) := dk_3 hN_cX11_goesAway rfl rfl
theorem dX11_goesAway_156 : decode cX11_goesAway 156 = .ok (.iastore, 1) := dk_79 hN_cX11_goesAway rfl rfl
theorem dX11_goesAway_157 : decode cX11_goesAway 157 = .ok (.iconst 0, 1) := dk_3 hN_cX11_goesAway rfl rfl
theorem dX11_goesAway_158 : decode cX11_goesAway 158 = .ok (.istore_n 3, 1) := dk_62 hN_cX11_goesAway rfl rfl
theorem dX11_goesAway_14 : decode cX11_goesAway 14 = .ok (.aload_n 0, 1) := dk_42 hN_cX11_goesAway rfl rfl
theorem dX11_goesAway_15 : decode cX11_goesAway 15 = .ok (.getfield 20, 3) := dk_180 hN_cX11_goesAway rfl rfl rfl
theorem dX11_goesAway_18 : decode cX11_goesAway 18 = .ok (.iconst 1, 1) := dk_4 hN_cX11_goesAway rfl rfl
theorem dX11_goesAway_19 : decode cX11_goesAway 19 = .ok (.iload_n 2, 1) := dk_28 hN_cX11_goesAway rfl rfl
theorem dX11_goesAway_20 : decode cX11_goesAway 20 = .ok (.iadd, 1) := dk_96 hN_cX11_goesAway rfl rfl
theorem dX11_goesAway_21 : decode cX11_goesAway 21 = .ok (.aload_n 0, 1) := dk_42 hN_cX11_goesAway rfl rfl
theorem dX11_goesAway_22 : decode cX11_goesAway 22 = .ok (.getfield 20, 3) := dk_180 hN_cX11_goesAway rfl rfl rfl
theorem dX11_goesAway_25 : decode cX11_goesAway 25 = .ok (.iconst 1, 1) := dk_4 hN_cX11_goesAway rfl rfl
theorem dX11_goesAway_26 : decode cX11_goesAway 26 = .ok (.iload_n 2, 1) := dk_28 hN_cX11_goesAway rfl rfl
theorem dX11_goesAway_27 : decode cX11_goesAway 27 = .ok (.iadd, 1) := dk_96 hN_cX11_goesAway rfl rfl
theorem dX11_goesAway_28 : decode cX11_goesAway 28 = .ok (.iconst 1, 1) := dk_4 hN_cX11_goesAway rfl rfl
theorem dX11_goesAway_29 : decode cX11_goesAway 29 = .ok (.iadd, 1) := dk_96 hN_cX11_goesAway rfl rfl
theorem dX11_goesAway_30 : decode cX11_goesAway 30 = .ok (.iaload, 1) := dk_46 hN_cX11_goesAway rfl rfl
theorem dX11_goesAway_31 : decode cX11_goesAway 31 = .ok (.iastore, 1) := dk_79 hN_cX11_goesAway rfl rfl
theorem dX11_goesAway_32 : decode cX11_goesAway 32 = .ok (.aload_n 0, 1) := dk_42 hN_cX11_goesAway rfl rfl
theorem dX11_goesAway_33 : decode cX11_goesAway 33 = .ok (.getfield 20, 3) := dk_180 hN_cX11_goesAway rfl rfl rfl
theorem dX11_goesAway_36 : decode cX11_goesAway 36 = .ok (.bipush 9, 2) := dk_16 hN_cX11_goesAway rfl rfl rfl
theorem dX11_goesAway_38 : decode cX11_goesAway 38 = .ok (.iload_n 2, 1) := dk_28 hN_cX11_goesAway rfl rfl
theorem dX11_goesAway_39 : decode cX11_goesAway 39 = .ok (.iadd, 1) := dk_96 hN_cX11_goesAway rfl rfl
theorem dX11_goesAway_40 : decode cX11_goesAway 40 = .ok (.aload_n 0, 1) := dk_42 hN_cX11_goesAway rfl rfl
theorem dX11_goesAway_41 : decode cX11_goesAway 41 = .ok (.getfield 20, 3) := dk_180 hN_cX11_goesAway rfl rfl rfl
theorem dX11_goesAway_44 : decode cX11_goesAway 44 = .ok (.bipush 9, 2) := dk_16 hN_cX11_goesAway rfl rfl rfl
theorem dX11_goesAway_46 : decode cX11_goesAway 46 = .ok (.iload_n 2, 1) := dk_28 hN_cX11_goesAway rfl rfl
theorem dX11_goesAway_47 : decode cX11_goesAway 47 = .ok (.iadd, 1) := dk_96 hN_cX11_goesAway rfl rfl
theorem dX11_goesAway_48 : decode cX11_goesAway 48 = .ok (.iconst 1, 1) := dk_4 hN_cX11_goesAway rfl rfl
theorem dX11_goesAway_49 : decode cX11_goesAway 49 = .ok (.iadd, 1) := dk_96 hN_cX11_goesAway rfl rfl
theorem dX11_goesAway_50 : decode cX11_goesAway 50 = .ok (.iaload, 1) := dk_46 hN_cX11_goesAway rfl rfl
theorem dX11_goesAway_51 : decode cX11_goesAway 51 = .ok (.iastore, 1) := dk_79 hN_cX11_goesAway rfl rfl
theorem dX11_goesAway_52 : decode cX11_goesAway 52 = .ok (.iconst 0, 1) := dk_3 hN_cX11_goesAway rfl rfl
theorem dX11_goesAway_53 : decode cX11_goesAway 53 = .ok (.istore_n 3, 1) := dk_62 hN_cX11_goesAway rfl rfl
theorem dX11_goesAway_54 : decode cX11_goesAway 54 = .ok (.iload_n 3, 1) := dk_29 hN_cX11_goesAway rfl rfl
theorem dX11_goesAway_55 : decode cX11_goesAway 55 = .ok (.iconst 4, 1) := dk_7 hN_cX11_goesAway rfl rfl
theorem dX11_goesAway_56 : decode cX11_goesAway 56 = .ok (.if_icmp .ge 59, 3) := dk_162 hN_cX11_goesAway rfl rfl rfl
theorem dX11_goesAway_115 : decode cX11_goesAway 115 = .ok (.iinc 2 1, 3) := dk_132 hN_cX11_goesAway rfl rfl rfl rfl
theorem dX11_goesAway_118 : decode cX11_goesAway 118 = .ok (.goto (-116), 3) := dk_167 hN_cX11_goesAway rfl rfl rfl
theorem dX11_goesAway_59 : decode cX11_goesAway 59 = .ok (.aload_n 0, 1) := dk_42 hN_cX11_goesAway rfl rfl
theorem dX11_goesAway_60 : decode cX11_goesAway 60 = .ok (.getfield 20, 3) := dk_180 hN_cX11_goesAway rfl rfl rfl
theorem dX11_goesAway_63 : decode cX11_goesAway 63 = .ok (.bipush 17, 2) := dk_16 hN_cX11_goesAway rfl rfl rfl
theorem dX11_goesAway_65 : decode cX11_goesAway 65 = .ok (.iconst 4, 1) := dk_7 hN_cX11_goesAway rfl rfl
theorem dX11_goesAway_66 : decode cX11_goesAway 66 = .ok (.iload_n 2, 1) := dk_28 hN_cX11_goesAway rfl rfl
theorem dX11_goesAway_67 : decode cX11_goesAway 67 = .ok (.imul, 1) := dk_104 hN_cX11_goesAway rfl rfl
theorem dX11_goesAway_68 : decode cX11_goesAway 68 = .ok (.iadd, 1) := dk_96 hN_cX11_goesAway rfl rfl
theorem dX11_goesAway_69 : decode cX11_goesAway 69 = .ok (.iload_n 3, 1) := dk_29 hN_cX11_goesAway rfl rfl
theorem dX11_goesAway_70 : decode cX11_goesAway 70 = .ok (.iadd, 1) := dk_96 hN_cX11_goesAway rfl rfl
theorem dX11_goesAway_71 : decode cX11_goesAway 71 = .ok (.aload_n 0, 1) := dk_42 hN_cX11_goesAway rfl rfl
theorem dX11_goesAway_72 : decode cX11_goesAway 72 = .ok (.getfield 20, 3) := dk_180 hN_cX11_goesAway rfl rfl rfl
theorem dX11_goesAway_75 : decode cX11_goesAway 75 = .ok (.bipush 17, 2) := dk_16 hN_cX11_goesAway rfl rfl rfl
theorem dX11_goesAway_77 : decode cX11_goesAway 77 = .ok (.iconst 4, 1) := dk_7 hN_cX11_goesAway rfl rfl
theorem dX11_goesAway_78 : decode cX11_goesAway 78 = .ok (.iload_n 2, 1) := dk_28 hN_cX11_goesAway rfl rfl
theorem dX11_goesAway_79 : decode cX11_goesAway 79 = .ok (.imul, 1) := dk_104 hN_cX11_goesAway rfl rfl
theorem dX11_goesAway_80 : decode cX11_goesAway 80 = .ok (.iadd, 1) := dk_96 hN_cX11_goesAway rfl rfl
theorem dX11_goesAway_81 : decode cX11_goesAway 81 = .ok (.iconst 4, 1) := dk_7 hN_cX11_goesAway rfl rfl
theorem dX11_goesAway_82 : decode cX11_goesAway 82 = .ok (.iadd, 1) := dk_96 hN_cX11_goesAway rfl rfl
theorem dX11_goesAway_83 : decode cX11_goesAway 83 = .ok (.iload_n 3, 1) := dk_29 hN_cX11_goesAway rfl rfl
theorem dX11_goesAway_84 : decode cX11_goesAway 84 = .ok (.iadd, 1) := dk_96 hN_cX11_goesAway rfl rfl
theorem dX11_goesAway_85 : decode cX11_goesAway 85 = .ok (.iaload, 1) := dk_46 hN_cX11_goesAway rfl rfl
theorem dX11_goesAway_86 : decode cX11_goesAway 86 = .ok (.iastore, 1) := dk_79 hN_cX11_goesAway rfl rfl
theorem dX11_goesAway_87 : decode cX11_goesAway 87 = .ok (.aload_n 0, 1) := dk_42 hN_cX11_goesAway rfl rfl
theorem dX11_goesAway_88 : decode cX11_goesAway 88 = .ok (.getfield 26, 3) := dk_180 hN_cX11_goesAway rfl rfl rfl
theorem dX11_goesAway_91 : decode cX11_goesAway 91 = .ok (.iconst 4, 1) := dk_7 hN_cX11_goesAway rfl rfl
theorem dX11_goesAway_92 : decode cX11_goesAway 92 = .ok (.iload_n 2, 1) := dk_28 hN_cX11_goesAway rfl rfl
theorem dX11_goesAway_93 : decode cX11_goesAway 93 = .ok (.imul, 1) := dk_104 hN_cX11_goesAway rfl rfl
theorem dX11_goesAway_94 : decode cX11_goesAway 94 = .ok (.iload_n 3, 1) := dk_29 hN_cX11_goesAway rfl rfl
theorem dX11_goesAway_95 : decode cX11_goesAway 95 = .ok (.iadd, 1) := dk_96 hN_cX11_goesAway rfl rfl
theorem dX11_goesAway_96 : decode cX11_goesAway 96 = .ok (.aload_n 0, 1) := dk_42 hN_cX11_goesAway rfl rfl
theorem dX11_goesAway_97 : decode cX11_goesAway 97 = .ok (.getfield 26, 3) := dk_180 hN_cX11_goesAway rfl rfl rfl
theorem dX11_goesAway_100 : decode cX11_goesAway 100 = .ok (.iconst 4, 1) := dk_7 hN_cX11_goesAway rfl rfl
theorem dX11_goesAway_101 : decode cX11_goesAway 101 = .ok (.iload_n 2, 1) := dk_28 hN_cX11_goesAway rfl rfl
theorem dX11_goesAway_102 : decode cX11_goesAway 102 = .ok (.imul, 1) := dk_104 hN_cX11_goesAway rfl rfl
theorem dX11_goesAway_103 : decode cX11_goesAway 103 = .ok (.iconst 4, 1) := dk_7 hN_cX11_goesAway rfl rfl
theorem dX11_goesAway_104 : decode cX11_goesAway 104 = .ok (.iadd, 1) := dk_96 hN_cX11_goesAway rfl rfl
theorem dX11_goesAway_105 : decode cX11_goesAway 105 = .ok (.iload_n 3, 1) := dk_29 hN_cX11_goesAway rfl rfl
theorem dX11_goesAway_106 : decode cX11_goesAway 106 = .ok (.iadd, 1) := dk_96 hN_cX11_goesAway rfl rfl
theorem dX11_goesAway_107 : decode cX11_goesAway 107 = .ok (.iaload, 1) := dk_46 hN_cX11_goesAway rfl rfl
theorem dX11_goesAway_108 : decode cX11_goesAway 108 = .ok (.iastore, 1) := dk_79 hN_cX11_goesAway rfl rfl
theorem dX11_goesAway_109 : decode cX11_goesAway 109 = .ok (.iinc 3 1, 3) := dk_132 hN_cX11_goesAway rfl rfl rfl rfl
theorem dX11_goesAway_112 : decode cX11_goesAway 112 = .ok (.goto (-58), 3) := dk_167 hN_cX11_goesAway rfl rfl rfl
theorem dX11_goesAway_159 : decode cX11_goesAway 159 = .ok (.iload_n 3, 1) := dk_29 hN_cX11_goesAway rfl rfl
theorem dX11_goesAway_160 : decode cX11_goesAway 160 = .ok (.iconst 4, 1) := dk_7 hN_cX11_goesAway rfl rfl
theorem dX11_goesAway_161 : decode cX11_goesAway 161 = .ok (.if_icmp .ge 34, 3) := dk_162 hN_cX11_goesAway rfl rfl rfl
theorem dX11_goesAway_195 : decode cX11_goesAway 195 = .ok (.return_, 1) := dk_177 hN_cX11_goesAway rfl rfl
theorem dX11_goesAway_164 : decode cX11_goesAway 164 = .ok (.aload_n 0, 1) := dk_42 hN_cX11_goesAway rfl rfl
theorem dX11_goesAway_165 : decode cX11_goesAway 165 = .ok (.getfield 20, 3) := dk_180 hN_cX11_goesAway rfl rfl rfl
theorem dX11_goesAway_168 : decode cX11_goesAway 168 = .ok (.bipush 17, 2) := dk_16 hN_cX11_goesAway rfl rfl rfl
theorem dX11_goesAway_170 : decode cX11_goesAway 170 = .ok (.iconst 4, 1) := dk_7 hN_cX11_goesAway rfl rfl
theorem dX11_goesAway_171 : decode cX11_goesAway 171 = .ok (.iload_n 2, 1) := dk_28 hN_cX11_goesAway rfl rfl
theorem dX11_goesAway_172 : decode cX11_goesAway 172 = .ok (.imul, 1) := dk_104 hN_cX11_goesAway rfl rfl
theorem dX11_goesAway_173 : decode cX11_goesAway 173 = .ok (.iadd, 1) := dk_96 hN_cX11_goesAway rfl rfl
theorem dX11_goesAway_174 : decode cX11_goesAway 174 = .ok (.iload_n 3, 1) := dk_29 hN_cX11_goesAway rfl rfl
theorem dX11_goesAway_175 : decode cX11_goesAway 175 = .ok (.iadd, 1) := dk_96 hN_cX11_goesAway rfl rfl
theorem dX11_goesAway_176 : decode cX11_goesAway 176 = .ok (.iconst 0, 1) := dk_3 hN_cX11_goesAway rfl rfl
theorem dX11_goesAway_177 : decode cX11_goesAway 177 = .ok (.iastore, 1) := dk_79 hN_cX11_goesAway rfl rfl
theorem dX11_goesAway_178 : decode cX11_goesAway 178 = .ok (.aload_n 0, 1) := dk_42 hN_cX11_goesAway rfl rfl
theorem dX11_goesAway_179 : decode cX11_goesAway 179 = .ok (.getfield 26, 3) := dk_180 hN_cX11_goesAway rfl rfl rfl
theorem dX11_goesAway_182 : decode cX11_goesAway 182 = .ok (.iconst 4, 1) := dk_7 hN_cX11_goesAway rfl rfl
theorem dX11_goesAway_183 : decode cX11_goesAway 183 = .ok (.iload_n 2, 1) := dk_28 hN_cX11_goesAway rfl rfl
theorem dX11_goesAway_184 : decode cX11_goesAway 184 = .ok (.imul, 1) := dk_104 hN_cX11_goesAway rfl rfl
theorem dX11_goesAway_185 : decode cX11_goesAway 185 = .ok (.iload_n 3, 1) := dk_29 hN_cX11_goesAway rfl rfl
theorem dX11_goesAway_186 : decode cX11_goesAway 186 = .ok (.iadd, 1) := dk_96 hN_cX11_goesAway rfl rfl
theorem dX11_goesAway_187 : decode cX11_goesAway 187 = .ok (.iconst 0, 1) := dk_3 hN_cX11_goesAway rfl rfl
theorem dX11_goesAway_188 : decode cX11_goesAway 188 = .ok (.iastore, 1) := dk_79 hN_cX11_goesAway rfl rfl
theorem dX11_goesAway_189 : decode cX11_goesAway 189 = .ok (.iinc 3 1, 3) := dk_132 hN_cX11_goesAway rfl rfl rfl rfl
theorem dX11_goesAway_192 : decode cX11_goesAway 192 = .ok (.goto (-33), 3) := dk_167 hN_cX11_goesAway rfl rfl rfl
theorem dX11_drop_0 : decode cX11_drop 0 = .ok (.aload_n 0, 1) := dk_42 hN_cX11_drop rfl rfl
theorem dX11_drop_1 : decode cX11_drop 1 = .ok (.invokevirtual 174, 3) := dk_182 hN_cX11_drop rfl rfl rfl
theorem dX11_drop_4 : decode cX11_drop 4 = .ok (.aload_n 0, 1) := dk_42 hN_cX11_drop rfl rfl
theorem dX11_drop_5 : decode cX11_drop 5 = .ok (.iload_n 1, 1) := dk_27 hN_cX11_drop rfl rfl
theorem dX11_drop_6 : decode cX11_drop 6 = .ok (.invokevirtual 244, 3) := dk_182 hN_cX11_drop rfl rfl rfl
theorem dX11_drop_9 : decode cX11_drop 9 = .ok (.ifCond .ne 9, 3) := dk_154 hN_cX11_drop rfl rfl rfl
theorem dX11_drop_18 : decode cX11_drop 18 = .ok (.aload_n 0, 1) := dk_42 hN_cX11_drop rfl rfl
theorem dX11_drop_19 : decode cX11_drop 19 = .ok (.getfield 20, 3) := dk_180 hN_cX11_drop rfl rfl rfl
theorem dX11_drop_22 : decode cX11_drop 22 = .ok (.iconst 0, 1) := dk_3 hN_cX11_drop rfl rfl
theorem dX11_drop_23 : decode cX11_drop 23 = .ok (.aload_n 0, 1) := dk_42 hN_cX11_drop rfl rfl
theorem dX11_drop_24 : decode cX11_drop 24 = .ok (.getfield 29, 3) := dk_180 hN_cX11_drop rfl rfl rfl
theorem dX11_drop_27 : decode cX11_drop 27 = .ok (.iconst 0, 1) := dk_3 hN_cX11_drop rfl rfl
theorem dX11_drop_28 : decode cX11_drop 28 = .ok (.bipush 49, 2) := dk_16 hN_cX11_drop rfl rfl rfl
theorem dX11_drop_30 : decode cX11_drop 30 = .ok (.invokestatic 399, 3) := dk_184 hN_cX11_drop rfl rfl rfl
theorem dX11_drop_33 : decode cX11_drop 33 = .ok (.aload_n 0, 1) := dk_42 hN_cX11_drop rfl rfl
theorem dX11_drop_34 : decode cX11_drop 34 = .ok (.iload_n 1, 1) := dk_27 hN_cX11_drop rfl rfl
theorem dX11_drop_35 : decode cX11_drop 35 = .ok (.invokevirtual 407, 3) := dk_182 hN_cX11_drop rfl rfl rfl
theorem dX11_drop_38 : decode cX11_drop 38 = .ok (.aload_n 0, 1) := dk_42 hN_cX11_drop rfl rfl
theorem dX11_drop_39 : decode cX11_drop 39 = .ok (.iconst 1, 1) := dk_4 hN_cX11_drop rfl rfl
theorem dX11_drop_40 : decode cX11_drop 40 = .ok (.iload_n 1, 1) := dk_27 hN_cX11_drop rfl rfl
theorem dX11_drop_41 : decode cX11_drop 41 = .ok (.bipush (-2), 2) := dk_16 hN_cX11_drop rfl rfl rfl
theorem dX11_drop_43 : decode cX11_drop 43 = .ok (.bipush (-2), 2) := dk_16 hN_cX11_drop rfl rfl rfl
theorem dX11_drop_45 : decode cX11_drop 45 = .ok (.bipush (-2), 2) := dk_16 hN_cX11_drop rfl rfl rfl
theorem dX11_drop_47 : decode cX11_drop 47 = .ok (.invokevirtual 403, 3) := dk_182 hN_cX11_drop rfl rfl rfl
theorem dX11_drop_50 : decode cX11_drop 50 = .ok (.ireturn, 1) := dk_172 hN_cX11_drop rfl rfl
theorem dX11_drop_12 : decode cX11_drop 12 = .ok (.aload_n 0, 1) := dk_42 hN_cX11_drop rfl rfl
theorem dX11_drop_13 : decode cX11_drop 13 = .ok (.iconst 1, 1) := dk_4 hN_cX11_drop rfl rfl
theorem dX11_drop_14 : decode cX11_drop 14 = .ok (.invokevirtual 336, 3) := dk_182 hN_cX11_drop rfl rfl rfl
theorem dX11_drop_17 : decode cX11_drop 17 = .ok (.ireturn, 1) := dk_172 hN_cX11_drop rfl rfl
theorem dX11_forget_0 : decode cX11_forget 0 = .ok (.aload_n 0, 1) := dk_42 hN_cX11_forget rfl rfl
theorem dX11_forget_1 : decode cX11_forget 1 = .ok (.invokevirtual 174, 3) := dk_182 hN_cX11_forget rfl rfl rfl
theorem dX11_forget_4 : decode cX11_forget 4 = .ok (.aload_n 0, 1) := dk_42 hN_cX11_forget rfl rfl
theorem dX11_forget_5 : decode cX11_forget 5 = .ok (.iload_n 1, 1) := dk_27 hN_cX11_forget rfl rfl
theorem dX11_forget_6 : decode cX11_forget 6 = .ok (.invokevirtual 296, 3) := dk_182 hN_cX11_forget rfl rfl rfl
theorem dX11_forget_9 : decode cX11_forget 9 = .ok (.ifCond .ne 9, 3) := dk_154 hN_cX11_forget rfl rfl rfl
theorem dX11_forget_18 : decode cX11_forget 18 = .ok (.iconst 0, 1) := dk_3 hN_cX11_forget rfl rfl
theorem dX11_forget_19 : decode cX11_forget 19 = .ok (.istore_n 2, 1) := dk_61 hN_cX11_forget rfl rfl
theorem dX11_forget_20 : decode cX11_forget 20 = .ok (.iconst 0, 1) := dk_3 hN_cX11_forget rfl rfl
theorem dX11_forget_21 : decode cX11_forget 21 = .ok (.istore_n 3, 1) := dk_62 hN_cX11_forget rfl rfl
theorem dX11_forget_12 : decode cX11_forget 12 = .ok (.aload_n 0, 1) := dk_42 hN_cX11_forget rfl rfl
theorem dX11_forget_13 : decode cX11_forget 13 = .ok (.iconst 1, 1) := dk_4 hN_cX11_forget rfl rfl
theorem dX11_forget_14 : decode cX11_forget 14 = .ok (.invokevirtual 336, 3) := dk_182 hN_cX11_forget rfl rfl rfl
theorem dX11_forget_17 : decode cX11_forget 17 = .ok (.ireturn, 1) := dk_172 hN_cX11_forget rfl rfl
theorem dX11_forget_22 : decode cX11_forget 22 = .ok (.iload_n 3, 1) := dk_29 hN_cX11_forget rfl rfl
theorem dX11_forget_23 : decode cX11_forget 23 = .ok (.aload_n 0, 1) := dk_42 hN_cX11_forget rfl rfl
theorem dX11_forget_24 : decode cX11_forget 24 = .ok (.getfield 20, 3) := dk_180 hN_cX11_forget rfl rfl rfl
theorem dX11_forget_27 : decode cX11_forget 27 = .ok (.iconst 0, 1) := dk_3 hN_cX11_forget rfl rfl
theorem dX11_forget_28 : decode cX11_forget 28 = .ok (.iaload, 1) := dk_46 hN_cX11_forget rfl rfl
theorem dX11_forget_29 : decode cX11_forget 29 = .ok (.if_icmp .ge 44, 3) := dk_162 hN_cX11_forget rfl rfl rfl
theorem dX11_forget_73 : decode cX11_forget 73 = .ok (.iload_n 2, 1) := dk_28 hN_cX11_forget rfl rfl
theorem dX11_forget_74 : decode cX11_forget 74 = .ok (.ifCond .ne 9, 3) := dk_154 hN_cX11_forget rfl rfl rfl
theorem dX11_forget_83 : decode cX11_forget 83 = .ok (.aload_n 0, 1) := dk_42 hN_cX11_forget rfl rfl
theorem dX11_forget_84 : decode cX11_forget 84 = .ok (.getfield 20, 3) := dk_180 hN_cX11_forget rfl rfl rfl
theorem dX11_forget_87 : decode cX11_forget 87 = .ok (.iconst 0, 1) := dk_3 hN_cX11_forget rfl rfl
theorem dX11_forget_88 : decode cX11_forget 88 = .ok (.aload_n 0, 1) := dk_42 hN_cX11_forget rfl rfl
theorem dX11_forget_89 : decode cX11_forget 89 = .ok (.getfield 29, 3) := dk_180 hN_cX11_forget rfl rfl rfl
theorem dX11_forget_92 : decode cX11_forget 92 = .ok (.iconst 0, 1) := dk_3 hN_cX11_forget rfl rfl
theorem dX11_forget_93 : decode cX11_forget 93 = .ok (.bipush 49, 2) := dk_16 hN_cX11_forget rfl rfl rfl
theorem dX11_forget_95 : decode cX11_forget 95 = .ok (.invokestatic 399, 3) := dk_184 hN_cX11_forget rfl rfl rfl
theorem dX11_forget_98 : decode cX11_forget 98 = .ok (.aload_n 0, 1) := dk_42 hN_cX11_forget rfl rfl
theorem dX11_forget_99 : decode cX11_forget 99 = .ok (.getfield 20, 3) := dk_180 hN_cX11_forget rfl rfl rfl
theorem dX11_forget_102 : decode cX11_forget 102 = .ok (.iconst 0, 1) := dk_3 hN_cX11_forget rfl rfl
theorem dX11_forget_103 : decode cX11_forget 103 = .ok (.iaload, 1) := dk_46 hN_cX11_forget rfl rfl
theorem dX11_forget_104 : decode cX11_forget 104 = .ok (.iconst 1, 1) := dk_4 hN_cX11_forget rfl rfl
theorem dX11_forget_105 : decode cX11_forget 105 = .ok (.isub, 1) := dk_100 hN_cX11_forget rfl rfl
theorem dX11_forget_106 : decode cX11_forget 106 = .ok (.istore_n 3, 1) := dk_62 hN_cX11_forget rfl rfl
theorem dX11_forget_77 : decode cX11_forget 77 = .ok (.aload_n 0, 1) := dk_42 hN_cX11_forget rfl rfl
theorem dX11_forget_78 : decode cX11_forget 78 = .ok (.iconst 5, 1) := dk_8 hN_cX11_forget rfl rfl
theorem dX11_forget_79 : decode cX11_forget 79 = .ok (.invokevirtual 336, 3) := dk_182 hN_cX11_forget rfl rfl rfl
theorem dX11_forget_82 : decode cX11_forget 82 = .ok (.ireturn, 1) := dk_172 hN_cX11_forget rfl rfl
theorem dX11_forget_32 : decode cX11_forget 32 = .ok (.iload_n 2, 1) := dk_28 hN_cX11_forget rfl rfl
theorem dX11_forget_33 : decode cX11_forget 33 = .ok (.ifCond .ne 28, 3) := dk_154 hN_cX11_forget rfl rfl rfl
theorem dX11_forget_61 : decode cX11_forget 61 = .ok (.iconst 1, 1) := dk_4 hN_cX11_forget rfl rfl
theorem dX11_forget_62 : decode cX11_forget 62 = .ok (.goto 4, 3) := dk_167 hN_cX11_forget rfl rfl rfl
theorem dX11_forget_66 : decode cX11_forget 66 = .ok (.istore_n 2, 1) := dk_61 hN_cX11_forget rfl rfl
theorem dX11_forget_67 : decode cX11_forget 67 = .ok (.iinc 3 1, 3) := dk_132 hN_cX11_forget rfl rfl rfl rfl
theorem dX11_forget_70 : decode cX11_forget 70 = .ok (.goto (-48), 3) := dk_167 hN_cX11_forget rfl rfl rfl
theorem dX11_forget_36 : decode cX11_forget 36 = .ok (.aload_n 0, 1) := dk_42 hN_cX11_forget rfl rfl
theorem dX11_forget_37 : decode cX11_forget 37 = .ok (.getfield 20, 3) := dk_180 hN_cX11_forget rfl rfl rfl
theorem dX11_forget_40 : decode cX11_forget 40 = .ok (.iconst 1, 1) := dk_4 hN_cX11_forget rfl rfl
theorem dX11_forget_41 : decode cX11_forget 41 = .ok (.iload_n 3, 1) := dk_29 hN_cX11_forget rfl rfl
theorem dX11_forget_42 : decode cX11_forget 42 = .ok (.iadd, 1) := dk_96 hN_cX11_forget rfl rfl
theorem dX11_forget_43 : decode cX11_forget 43 = .ok (.iaload, 1) := dk_46 hN_cX11_forget rfl rfl
theorem dX11_forget_44 : decode cX11_forget 44 = .ok (.iload_n 1, 1) := dk_27 hN_cX11_forget rfl rfl
theorem dX11_forget_45 : decode cX11_forget 45 = .ok (.if_icmp .eq 16, 3) := dk_159 hN_cX11_forget rfl rfl rfl
theorem dX11_forget_48 : decode cX11_forget 48 = .ok (.aload_n 0, 1) := dk_42 hN_cX11_forget rfl rfl
theorem dX11_forget_49 : decode cX11_forget 49 = .ok (.getfield 20, 3) := dk_180 hN_cX11_forget rfl rfl rfl
theorem dX11_forget_52 : decode cX11_forget 52 = .ok (.bipush 9, 2) := dk_16 hN_cX11_forget rfl rfl rfl
theorem dX11_forget_54 : decode cX11_forget 54 = .ok (.iload_n 3, 1) := dk_29 hN_cX11_forget rfl rfl
theorem dX11_forget_55 : decode cX11_forget 55 = .ok (.iadd, 1) := dk_96 hN_cX11_forget rfl rfl
theorem dX11_forget_56 : decode cX11_forget 56 = .ok (.iaload, 1) := dk_46 hN_cX11_forget rfl rfl
theorem dX11_forget_57 : decode cX11_forget 57 = .ok (.iload_n 1, 1) := dk_27 hN_cX11_forget rfl rfl
theorem dX11_forget_58 : decode cX11_forget 58 = .ok (.if_icmp .ne 7, 3) := dk_160 hN_cX11_forget rfl rfl rfl
theorem dX11_forget_65 : decode cX11_forget 65 = .ok (.iconst 0, 1) := dk_3 hN_cX11_forget rfl rfl
theorem dX11_forget_107 : decode cX11_forget 107 = .ok (.iload_n 3, 1) := dk_29 hN_cX11_forget rfl rfl
theorem dX11_forget_108 : decode cX11_forget 108 = .ok (.ifCond .lt 282, 3) := dk_155 hN_cX11_forget rfl rfl rfl
theorem dX11_forget_390 : decode cX11_forget 390 = .ok (.aload_n 0, 1) := dk_42 hN_cX11_forget rfl rfl
theorem dX11_forget_391 : decode cX11_forget 391 = .ok (.iconst 2, 1) := dk_5 hN_cX11_forget rfl rfl
theorem dX11_forget_392 : decode cX11_forget 392 = .ok (.iload_n 1, 1) := dk_27 hN_cX11_forget rfl rfl
theorem dX11_forget_393 : decode cX11_forget 393 = .ok (.bipush (-2), 2) := dk_16 hN_cX11_forget rfl rfl rfl
theorem dX11_forget_395 : decode cX11_forget 395 = .ok (.bipush (-2), 2) := dk_16 hN_cX11_forget rfl rfl rfl
theorem dX11_forget_397 : decode cX11_forget 397 = .ok (.bipush (-2), 2) := dk_16 hN_cX11_forget rfl rfl rfl
theorem dX11_forget_399 : decode cX11_forget 399 = .ok (.invokevirtual 403, 3) := dk_182 hN_cX11_forget rfl rfl rfl
theorem dX11_forget_402 : decode cX11_forget 402 = .ok (.ireturn, 1) := dk_172 hN_cX11_forget rfl rfl
theorem dX11_forget_111 : decode cX11_forget 111 = .ok (.aload_n 0, 1) := dk_42 hN_cX11_forget rfl rfl
theorem dX11_forget_112 : decode cX11_forget 112 = .ok (.getfield 20, 3) := dk_180 hN_cX11_forget rfl rfl rfl
theorem dX11_forget_115 : decode cX11_forget 115 = .ok (.iconst 1, 1) := dk_4 hN_cX11_forget rfl rfl
theorem dX11_forget_116 : decode cX11_forget 116 = .ok (.iload_n 3, 1) := dk_29 hN_cX11_forget rfl rfl
theorem dX11_forget_117 : decode cX11_forget 117 = .ok (.iadd, 1) := dk_96 hN_cX11_forget rfl rfl
theorem dX11_forget_118 : decode cX11_forget 118 = .ok (.iaload, 1) := dk_46 hN_cX11_forget rfl rfl
theorem dX11_forget_119 : decode cX11_forget 119 = .ok (.iload_n 1, 1) := dk_27 hN_cX11_forget rfl rfl
theorem dX11_forget_120 : decode cX11_forget 120 = .ok (.if_icmp .ne 7, 3) := dk_160 hN_cX11_forget rfl rfl rfl
theorem dX11_forget_127 : decode cX11_forget 127 = .ok (.iconst 0, 1) := dk_3 hN_cX11_forget rfl rfl
theorem dX11_forget_128 : decode cX11_forget 128 = .ok (.istore 4, 2) := dk_54 hN_cX11_forget rfl rfl rfl
theorem dX11_forget_130 : decode cX11_forget 130 = .ok (.iload 4, 2) := dk_21 hN_cX11_forget rfl rfl rfl
theorem dX11_forget_132 : decode cX11_forget 132 = .ok (.ifCond .ne 19, 3) := dk_154 hN_cX11_forget rfl rfl rfl
theorem dX11_forget_135 : decode cX11_forget 135 = .ok (.aload_n 0, 1) := dk_42 hN_cX11_forget rfl rfl
theorem dX11_forget_136 : decode cX11_forget 136 = .ok (.getfield 20, 3) := dk_180 hN_cX11_forget rfl rfl rfl
theorem dX11_forget_139 : decode cX11_forget 139 = .ok (.bipush 9, 2) := dk_16 hN_cX11_forget rfl rfl rfl
theorem dX11_forget_141 : decode cX11_forget 141 = .ok (.iload_n 3, 1) := dk_29 hN_cX11_forget rfl rfl
theorem dX11_forget_142 : decode cX11_forget 142 = .ok (.iadd, 1) := dk_96 hN_cX11_forget rfl rfl
theorem dX11_forget_143 : decode cX11_forget 143 = .ok (.iaload, 1) := dk_46 hN_cX11_forget rfl rfl
theorem dX11_forget_144 : decode cX11_forget 144 = .ok (.iload_n 1, 1) := dk_27 hN_cX11_forget rfl rfl
theorem dX11_forget_145 : decode cX11_forget 145 = .ok (.if_icmp .eq 6, 3) := dk_159 hN_cX11_forget rfl rfl rfl
theorem dX11_forget_151 : decode cX11_forget 151 = .ok (.aload_n 0, 1) := dk_42 hN_cX11_forget rfl rfl
theorem dX11_forget_152 : decode cX11_forget 152 = .ok (.getfield 20, 3) := dk_180 hN_cX11_forget rfl rfl rfl
theorem dX11_forget_155 : decode cX11_forget 155 = .ok (.bipush 9, 2) := dk_16 hN_cX11_forget rfl rfl rfl
theorem dX11_forget_157 : decode cX11_forget 157 = .ok (.iload_n 3, 1) := dk_29 hN_cX11_forget rfl rfl
theorem dX11_forget_158 : decode cX11_forget 158 = .ok (.iadd, 1) := dk_96 hN_cX11_forget rfl rfl
theorem dX11_forget_159 : decode cX11_forget 159 = .ok (.iaload, 1) := dk_46 hN_cX11_forget rfl rfl
theorem dX11_forget_160 : decode cX11_forget 160 = .ok (.bipush (-2), 2) := dk_16 hN_cX11_forget rfl rfl rfl
theorem dX11_forget_162 : decode cX11_forget 162 = .ok (.if_icmp .ne 11, 3) := dk_160 hN_cX11_forget rfl rfl rfl
theorem dX11_forget_173 : decode cX11_forget 173 = .ok (.bipush 17, 2) := dk_16 hN_cX11_forget rfl rfl rfl
theorem dX11_forget_175 : decode cX11_forget 175 = .ok (.iconst 4, 1) := dk_7 hN_cX11_forget rfl rfl
theorem dX11_forget_176 : decode cX11_forget 176 = .ok (.iload_n 3, 1) := dk_29 hN_cX11_forget rfl rfl
theorem dX11_forget_177 : decode cX11_forget 177 = .ok (.imul, 1) := dk_104 hN_cX11_forget rfl rfl
theorem dX11_forget_178 : decode cX11_forget 178 = .ok (.iadd, 1) := dk_96 hN_cX11_forget rfl rfl
theorem dX11_forget_179 : decode cX11_forget 179 = .ok (.istore 5, 2) := dk_54 hN_cX11_forget rfl rfl rfl
theorem dX11_forget_181 : decode cX11_forget 181 = .ok (.iload 4, 2) := dk_21 hN_cX11_forget rfl rfl rfl
theorem dX11_forget_183 : decode cX11_forget 183 = .ok (.ifCond .eq 23, 3) := dk_153 hN_cX11_forget rfl rfl rfl
theorem dX11_forget_206 : decode cX11_forget 206 = .ok (.aload_n 0, 1) := dk_42 hN_cX11_forget rfl rfl
theorem dX11_forget_207 : decode cX11_forget 207 = .ok (.getfield 20, 3) := dk_180 hN_cX11_forget rfl rfl rfl
theorem dX11_forget_210 : decode cX11_forget 210 = .ok (.iload 5, 2) := dk_21 hN_cX11_forget rfl rfl rfl
theorem dX11_forget_212 : decode cX11_forget 212 = .ok (.iaload, 1) := dk_46 hN_cX11_forget rfl rfl
theorem dX11_forget_213 : decode cX11_forget 213 = .ok (.aload_n 0, 1) := dk_42 hN_cX11_forget rfl rfl
theorem dX11_forget_214 : decode cX11_forget 214 = .ok (.getfield 20, 3) := dk_180 hN_cX11_forget rfl rfl rfl
theorem dX11_forget_217 : decode cX11_forget 217 = .ok (.iload 5, 2) := dk_21 hN_cX11_forget rfl rfl rfl
theorem dX11_forget_219 : decode cX11_forget 219 = .ok (.iconst 1, 1) := dk_4 hN_cX11_forget rfl rfl
theorem dX11_forget_220 : decode cX11_forget 220 = .ok (.iadd, 1) := dk_96 hN_cX11_forget rfl rfl
theorem dX11_forget_221 : decode cX11_forget 221 = .ok (.iaload, 1) := dk_46 hN_cX11_forget rfl rfl
theorem dX11_forget_222 : decode cX11_forget 222 = .ok (.iadd, 1) := dk_96 hN_cX11_forget rfl rfl
theorem dX11_forget_223 : decode cX11_forget 223 = .ok (.istore 6, 2) := dk_54 hN_cX11_forget rfl rfl rfl
theorem dX11_forget_225 : decode cX11_forget 225 = .ok (.iload 4, 2) := dk_21 hN_cX11_forget rfl rfl rfl
theorem dX11_forget_227 : decode cX11_forget 227 = .ok (.ifCond .eq 25, 3) := dk_153 hN_cX11_forget rfl rfl rfl
theorem dX11_forget_252 : decode cX11_forget 252 = .ok (.aload_n 0, 1) := dk_42 hN_cX11_forget rfl rfl
theorem dX11_forget_253 : decode cX11_forget 253 = .ok (.getfield 20, 3) := dk_180 hN_cX11_forget rfl rfl rfl
theorem dX11_forget_256 : decode cX11_forget 256 = .ok (.iload 5, 2) := dk_21 hN_cX11_forget rfl rfl rfl
theorem dX11_forget_258 : decode cX11_forget 258 = .ok (.iconst 2, 1) := dk_5 hN_cX11_forget rfl rfl
theorem dX11_forget_259 : decode cX11_forget 259 = .ok (.iadd, 1) := dk_96 hN_cX11_forget rfl rfl
theorem dX11_forget_260 : decode cX11_forget 260 = .ok (.iaload, 1) := dk_46 hN_cX11_forget rfl rfl
theorem dX11_forget_261 : decode cX11_forget 261 = .ok (.aload_n 0, 1) := dk_42 hN_cX11_forget rfl rfl
theorem dX11_forget_262 : decode cX11_forget 262 = .ok (.getfield 20, 3) := dk_180 hN_cX11_forget rfl rfl rfl
theorem dX11_forget_265 : decode cX11_forget 265 = .ok (.iload 5, 2) := dk_21 hN_cX11_forget rfl rfl rfl
theorem dX11_forget_267 : decode cX11_forget 267 = .ok (.iconst 3, 1) := dk_6 hN_cX11_forget rfl rfl
theorem dX11_forget_268 : decode cX11_forget 268 = .ok (.iadd, 1) := dk_96 hN_cX11_forget rfl rfl
theorem dX11_forget_269 : decode cX11_forget 269 = .ok (.iaload, 1) := dk_46 hN_cX11_forget rfl rfl
theorem dX11_forget_270 : decode cX11_forget 270 = .ok (.iadd, 1) := dk_96 hN_cX11_forget rfl rfl
theorem dX11_forget_271 : decode cX11_forget 271 = .ok (.istore 7, 2) := dk_54 hN_cX11_forget rfl rfl rfl
theorem dX11_forget_273 : decode cX11_forget 273 = .ok (.aload_n 0, 1) := dk_42 hN_cX11_forget rfl rfl
theorem dX11_forget_274 : decode cX11_forget 274 = .ok (.getfield 20, 3) := dk_180 hN_cX11_forget rfl rfl rfl
theorem dX11_forget_277 : decode cX11_forget 277 = .ok (.iconst 1, 1) := dk_4 hN_cX11_forget rfl rfl
theorem dX11_forget_278 : decode cX11_forget 278 = .ok (.iload_n 3, 1) := dk_29 hN_cX11_forget rfl rfl
theorem dX11_forget_279 : decode cX11_forget 279 = .ok (.iadd, 1) := dk_96 hN_cX11_forget rfl rfl
theorem dX11_forget_280 : decode cX11_forget 280 = .ok (.iload 4, 2) := dk_21 hN_cX11_forget rfl rfl rfl
theorem dX11_forget_282 : decode cX11_forget 282 = .ok (.ifCond .eq 15, 3) := dk_153 hN_cX11_forget rfl rfl rfl
theorem dX11_forget_297 : decode cX11_forget 297 = .ok (.aload_n 0, 1) := dk_42 hN_cX11_forget rfl rfl
theorem dX11_forget_298 : decode cX11_forget 298 = .ok (.getfield 20, 3) := dk_180 hN_cX11_forget rfl rfl rfl
theorem dX11_forget_301 : decode cX11_forget 301 = .ok (.iconst 1, 1) := dk_4 hN_cX11_forget rfl rfl
theorem dX11_forget_302 : decode cX11_forget 302 = .ok (.iload_n 3, 1) := dk_29 hN_cX11_forget rfl rfl
theorem dX11_forget_303 : decode cX11_forget 303 = .ok (.iadd, 1) := dk_96 hN_cX11_forget rfl rfl
theorem dX11_forget_304 : decode cX11_forget 304 = .ok (.iaload, 1) := dk_46 hN_cX11_forget rfl rfl
theorem dX11_forget_305 : decode cX11_forget 305 = .ok (.iastore, 1) := dk_79 hN_cX11_forget rfl rfl
theorem dX11_forget_306 : decode cX11_forget 306 = .ok (.aload_n 0, 1) := dk_42 hN_cX11_forget rfl rfl
theorem dX11_forget_307 : decode cX11_forget 307 = .ok (.getfield 20, 3) := dk_180 hN_cX11_forget rfl rfl rfl
theorem dX11_forget_310 : decode cX11_forget 310 = .ok (.bipush 9, 2) := dk_16 hN_cX11_forget rfl rfl rfl
theorem dX11_forget_312 : decode cX11_forget 312 = .ok (.iload_n 3, 1) := dk_29 hN_cX11_forget rfl rfl
theorem dX11_forget_313 : decode cX11_forget 313 = .ok (.iadd, 1) := dk_96 hN_cX11_forget rfl rfl
theorem dX11_forget_314 : decode cX11_forget 314 = .ok (.bipush (-2), 2) := dk_16 hN_cX11_forget rfl rfl rfl
theorem dX11_forget_316 : decode cX11_forget 316 = .ok (.iastore, 1) := dk_79 hN_cX11_forget rfl rfl
theorem dX11_forget_317 : decode cX11_forget 317 = .ok (.aload_n 0, 1) := dk_42 hN_cX11_forget rfl rfl
theorem dX11_forget_318 : decode cX11_forget 318 = .ok (.getfield 20, 3) := dk_180 hN_cX11_forget rfl rfl rfl
theorem dX11_forget_321 : decode cX11_forget 321 = .ok (.iload 5, 2) := dk_21 hN_cX11_forget rfl rfl rfl
theorem dX11_forget_323 : decode cX11_forget 323 = .ok (.iload 6, 2) := dk_21 hN_cX11_forget rfl rfl rfl
theorem dX11_forget_325 : decode cX11_forget 325 = .ok (.iastore, 1) := dk_79 hN_cX11_forget rfl rfl
theorem dX11_forget_326 : decode cX11_forget 326 = .ok (.aload_n 0, 1) := dk_42 hN_cX11_forget rfl rfl
theorem dX11_forget_327 : decode cX11_forget 327 = .ok (.getfield 20, 3) := dk_180 hN_cX11_forget rfl rfl rfl
theorem dX11_forget_330 : decode cX11_forget 330 = .ok (.iload 5, 2) := dk_21 hN_cX11_forget rfl rfl rfl
theorem dX11_forget_332 : decode cX11_forget 332 = .ok (.iconst 1, 1) := dk_4 hN_cX11_forget rfl rfl
theorem dX11_forget_333 : decode cX11_forget 333 = .ok (.iadd, 1) := dk_96 hN_cX11_forget rfl rfl
theorem dX11_forget_334 : decode cX11_forget 334 = .ok (.iload 7, 2) := dk_21 hN_cX11_forget rfl rfl rfl
theorem dX11_forget_336 : decode cX11_forget 336 = .ok (.iastore, 1) := dk_79 hN_cX11_forget rfl rfl
theorem dX11_forget_337 : decode cX11_forget 337 = .ok (.aload_n 0, 1) := dk_42 hN_cX11_forget rfl rfl
theorem dX11_forget_338 : decode cX11_forget 338 = .ok (.getfield 20, 3) := dk_180 hN_cX11_forget rfl rfl rfl
theorem dX11_forget_341 : decode cX11_forget 341 = .ok (.iload 5, 2) := dk_21 hN_cX11_forget rfl rfl rfl
theorem dX11_forget_343 : decode cX11_forget 343 = .ok (.iconst 2, 1) := dk_5 hN_cX11_forget rfl rfl
theorem dX11_forget_344 : decode cX11_forget 344 = .ok (.iadd, 1) := dk_96 hN_cX11_forget rfl rfl
theorem dX11_forget_345 : decode cX11_forget 345 = .ok (.iconst 0, 1) := dk_3 hN_cX11_forget rfl rfl
theorem dX11_forget_346 : decode cX11_forget 346 = .ok (.iastore, 1) := dk_79 hN_cX11_forget rfl rfl
theorem dX11_forget_347 : decode cX11_forget 347 = .ok (.aload_n 0, 1) := dk_42 hN_cX11_forget rfl rfl
theorem dX11_forget_348 : decode cX11_forget 348 = .ok (.getfield 20, 3) := dk_180 hN_cX11_forget rfl rfl rfl
theorem dX11_forget_351 : decode cX11_forget 351 = .ok (.iload 5, 2) := dk_21 hN_cX11_forget rfl rfl rfl
theorem dX11_forget_353 : decode cX11_forget 353 = .ok (.iconst 3, 1) := dk_6 hN_cX11_forget rfl rfl
theorem dX11_forget_354 : decode cX11_forget 354 = .ok (.iadd, 1) := dk_96 hN_cX11_forget rfl rfl
theorem dX11_forget_355 : decode cX11_forget 355 = .ok (.iconst 0, 1) := dk_3 hN_cX11_forget rfl rfl
theorem dX11_forget_356 : decode cX11_forget 356 = .ok (.iastore, 1) := dk_79 hN_cX11_forget rfl rfl
theorem dX11_forget_357 : decode cX11_forget 357 = .ok (.iconst 0, 1) := dk_3 hN_cX11_forget rfl rfl
theorem dX11_forget_358 : decode cX11_forget 358 = .ok (.istore 8, 2) := dk_54 hN_cX11_forget rfl rfl rfl
theorem dX11_forget_165 : decode cX11_forget 165 = .ok (.aload_n 0, 1) := dk_42 hN_cX11_forget rfl rfl
theorem dX11_forget_166 : decode cX11_forget 166 = .ok (.iload_n 3, 1) := dk_29 hN_cX11_forget rfl rfl
theorem dX11_forget_167 : decode cX11_forget 167 = .ok (.invokevirtual 407, 3) := dk_182 hN_cX11_forget rfl rfl rfl
theorem dX11_forget_170 : decode cX11_forget 170 = .ok (.goto 214, 3) := dk_167 hN_cX11_forget rfl rfl rfl
theorem dX11_forget_384 : decode cX11_forget 384 = .ok (.iinc 3 (-1), 3) := dk_132 hN_cX11_forget rfl rfl rfl rfl
theorem dX11_forget_387 : decode cX11_forget 387 = .ok (.goto (-280), 3) := dk_167 hN_cX11_forget rfl rfl rfl
theorem dX11_forget_148 : decode cX11_forget 148 = .ok (.goto 236, 3) := dk_167 hN_cX11_forget rfl rfl rfl
theorem dX11_forget_123 : decode cX11_forget 123 = .ok (.iconst 1, 1) := dk_4 hN_cX11_forget rfl rfl
theorem dX11_forget_124 : decode cX11_forget 124 = .ok (.goto 4, 3) := dk_167 hN_cX11_forget rfl rfl rfl
theorem dX11_forget_186 : decode cX11_forget 186 = .ok (.aload_n 0, 1) := dk_42 hN_cX11_forget rfl rfl
theorem dX11_forget_187 : decode cX11_forget 187 = .ok (.getfield 20, 3) := dk_180 hN_cX11_forget rfl rfl rfl
theorem dX11_forget_190 : decode cX11_forget 190 = .ok (.iload 5, 2) := dk_21 hN_cX11_forget rfl rfl rfl
theorem dX11_forget_192 : decode cX11_forget 192 = .ok (.iaload, 1) := dk_46 hN_cX11_forget rfl rfl
theorem dX11_forget_193 : decode cX11_forget 193 = .ok (.aload_n 0, 1) := dk_42 hN_cX11_forget rfl rfl
theorem dX11_forget_194 : decode cX11_forget 194 = .ok (.getfield 20, 3) := dk_180 hN_cX11_forget rfl rfl rfl
theorem dX11_forget_197 : decode cX11_forget 197 = .ok (.iload 5, 2) := dk_21 hN_cX11_forget rfl rfl rfl
theorem dX11_forget_199 : decode cX11_forget 199 = .ok (.iconst 2, 1) := dk_5 hN_cX11_forget rfl rfl
theorem dX11_forget_200 : decode cX11_forget 200 = .ok (.iadd, 1) := dk_96 hN_cX11_forget rfl rfl
theorem dX11_forget_201 : decode cX11_forget 201 = .ok (.iaload, 1) := dk_46 hN_cX11_forget rfl rfl
theorem dX11_forget_202 : decode cX11_forget 202 = .ok (.iadd, 1) := dk_96 hN_cX11_forget rfl rfl
theorem dX11_forget_203 : decode cX11_forget 203 = .ok (.goto 20, 3) := dk_167 hN_cX11_forget rfl rfl rfl
theorem dX11_forget_230 : decode cX11_forget 230 = .ok (.aload_n 0, 1) := dk_42 hN_cX11_forget rfl rfl
theorem dX11_forget_231 : decode cX11_forget 231 = .ok (.getfield 20, 3) := dk_180 hN_cX11_forget rfl rfl rfl
theorem dX11_forget_234 : decode cX11_forget 234 = .ok (.iload 5, 2) := dk_21 hN_cX11_forget rfl rfl rfl
theorem dX11_forget_236 : decode cX11_forget 236 = .ok (.iconst 1, 1) := dk_4 hN_cX11_forget rfl rfl
theorem dX11_forget_237 : decode cX11_forget 237 = .ok (.iadd, 1) := dk_96 hN_cX11_forget rfl rfl
theorem dX11_forget_238 : decode cX11_forget 238 = .ok (.iaload, 1) := dk_46 hN_cX11_forget rfl rfl
theorem dX11_forget_239 : decode cX11_forget 239 = .ok (.aload_n 0, 1) := dk_42 hN_cX11_forget rfl rfl
theorem dX11_forget_240 : decode cX11_forget 240 = .ok (.getfield 20, 3) := dk_180 hN_cX11_forget rfl rfl rfl
theorem dX11_forget_243 : decode cX11_forget 243 = .ok (.iload 5, 2) := dk_21 hN_cX11_forget rfl rfl rfl
theorem dX11_forget_245 : decode cX11_forget 245 = .ok (.iconst 3, 1) := dk_6 hN_cX11_forget rfl rfl
theorem dX11_forget_246 : decode cX11_forget 246 = .ok (.iadd, 1) := dk_96 hN_cX11_forget rfl rfl
theorem dX11_forget_247 : decode cX11_forget 247 = .ok (.iaload, 1) := dk_46 hN_cX11_forget rfl rfl
theorem dX11_forget_248 : decode cX11_forget 248 = .ok (.iadd, 1) := dk_96 hN_cX11_forget rfl rfl
theorem dX11_forget_249 : decode cX11_forget 249 = .ok (.goto 22, 3) := dk_167 hN_cX11_forget rfl rfl rfl
theorem dX11_forget_285 : decode cX11_forget 285 = .ok (.aload_n 0, 1) := dk_42 hN_cX11_forget rfl rfl
theorem dX11_forget_286 : decode cX11_forget 286 = .ok (.getfield 20, 3) := dk_180 hN_cX11_forget rfl rfl rfl
theorem dX11_forget_289 : decode cX11_forget 289 = .ok (.bipush 9, 2) := dk_16 hN_cX11_forget rfl rfl rfl
theorem dX11_forget_291 : decode cX11_forget 291 = .ok (.iload_n 3, 1) := dk_29 hN_cX11_forget rfl rfl
theorem dX11_forget_292 : decode cX11_forget 292 = .ok (.iadd, 1) := dk_96 hN_cX11_forget rfl rfl
theorem dX11_forget_293 : decode cX11_forget 293 = .ok (.iaload, 1) := dk_46 hN_cX11_forget rfl rfl
theorem dX11_forget_294 : decode cX11_forget 294 = .ok (.goto 11, 3) := dk_167 hN_cX11_forget rfl rfl rfl
theorem dX11_forget_360 : decode cX11_forget 360 = .ok (.iload 8, 2) := dk_21 hN_cX11_forget rfl rfl rfl
theorem dX11_forget_362 : decode cX11_forget 362 = .ok (.iconst 4, 1) := dk_7 hN_cX11_forget rfl rfl
theorem dX11_forget_363 : decode cX11_forget 363 = .ok (.if_icmp .ge 21, 3) := dk_162 hN_cX11_forget rfl rfl rfl
theorem dX11_forget_366 : decode cX11_forget 366 = .ok (.aload_n 0, 1) := dk_42 hN_cX11_forget rfl rfl
theorem dX11_forget_367 : decode cX11_forget 367 = .ok (.getfield 26, 3) := dk_180 hN_cX11_forget rfl rfl rfl
theorem dX11_forget_370 : decode cX11_forget 370 = .ok (.iconst 4, 1) := dk_7 hN_cX11_forget rfl rfl
theorem dX11_forget_371 : decode cX11_forget 371 = .ok (.iload_n 3, 1) := dk_29 hN_cX11_forget rfl rfl
theorem dX11_forget_372 : decode cX11_forget 372 = .ok (.imul, 1) := dk_104 hN_cX11_forget rfl rfl
theorem dX11_forget_373 : decode cX11_forget 373 = .ok (.iload 8, 2) := dk_21 hN_cX11_forget rfl rfl rfl
theorem dX11_forget_375 : decode cX11_forget 375 = .ok (.iadd, 1) := dk_96 hN_cX11_forget rfl rfl
theorem dX11_forget_376 : decode cX11_forget 376 = .ok (.iconst 0, 1) := dk_3 hN_cX11_forget rfl rfl
theorem dX11_forget_377 : decode cX11_forget 377 = .ok (.iastore, 1) := dk_79 hN_cX11_forget rfl rfl
theorem dX11_forget_378 : decode cX11_forget 378 = .ok (.iinc 8 1, 3) := dk_132 hN_cX11_forget rfl rfl rfl rfl
theorem dX11_forget_381 : decode cX11_forget 381 = .ok (.goto (-21), 3) := dk_167 hN_cX11_forget rfl rfl rfl
theorem dX11_shift_0 : decode cX11_shift 0 = .ok (.aload_n 0, 1) := dk_42 hN_cX11_shift rfl rfl
theorem dX11_shift_1 : decode cX11_shift 1 = .ok (.invokevirtual 174, 3) := dk_182 hN_cX11_shift rfl rfl rfl
theorem dX11_shift_4 : decode cX11_shift 4 = .ok (.aload_n 0, 1) := dk_42 hN_cX11_shift rfl rfl
theorem dX11_shift_5 : decode cX11_shift 5 = .ok (.iload_n 1, 1) := dk_27 hN_cX11_shift rfl rfl
theorem dX11_shift_6 : decode cX11_shift 6 = .ok (.iload_n 2, 1) := dk_28 hN_cX11_shift rfl rfl
theorem dX11_shift_7 : decode cX11_shift 7 = .ok (.invokevirtual 305, 3) := dk_182 hN_cX11_shift rfl rfl rfl
theorem dX11_shift_10 : decode cX11_shift 10 = .ok (.ifCond .eq 17, 3) := dk_153 hN_cX11_shift rfl rfl rfl
theorem dX11_shift_27 : decode cX11_shift 27 = .ok (.aload_n 0, 1) := dk_42 hN_cX11_shift rfl rfl
theorem dX11_shift_28 : decode cX11_shift 28 = .ok (.iconst 1, 1) := dk_4 hN_cX11_shift rfl rfl
theorem dX11_shift_29 : decode cX11_shift 29 = .ok (.invokevirtual 336, 3) := dk_182 hN_cX11_shift rfl rfl rfl
theorem dX11_shift_32 : decode cX11_shift 32 = .ok (.ireturn, 1) := dk_172 hN_cX11_shift rfl rfl
theorem dX11_shift_13 : decode cX11_shift 13 = .ok (.aload_n 0, 1) := dk_42 hN_cX11_shift rfl rfl
theorem dX11_shift_14 : decode cX11_shift 14 = .ok (.iload_n 1, 1) := dk_27 hN_cX11_shift rfl rfl
theorem dX11_shift_15 : decode cX11_shift 15 = .ok (.iload_n 3, 1) := dk_29 hN_cX11_shift rfl rfl
theorem dX11_shift_16 : decode cX11_shift 16 = .ok (.invokevirtual 305, 3) := dk_182 hN_cX11_shift rfl rfl rfl
theorem dX11_shift_19 : decode cX11_shift 19 = .ok (.ifCond .eq 8, 3) := dk_153 hN_cX11_shift rfl rfl rfl
theorem dX11_shift_22 : decode cX11_shift 22 = .ok (.iload_n 2, 1) := dk_28 hN_cX11_shift rfl rfl
theorem dX11_shift_23 : decode cX11_shift 23 = .ok (.iload_n 3, 1) := dk_29 hN_cX11_shift rfl rfl
theorem dX11_shift_24 : decode cX11_shift 24 = .ok (.if_icmp .ne 9, 3) := dk_160 hN_cX11_shift rfl rfl rfl
theorem dX11_shift_33 : decode cX11_shift 33 = .ok (.iload 4, 2) := dk_21 hN_cX11_shift rfl rfl rfl
theorem dX11_shift_35 : decode cX11_shift 35 = .ok (.iconst 1, 1) := dk_4 hN_cX11_shift rfl rfl
theorem dX11_shift_36 : decode cX11_shift 36 = .ok (.bipush 60, 2) := dk_16 hN_cX11_shift rfl rfl rfl
theorem dX11_shift_38 : decode cX11_shift 38 = .ok (.invokestatic 170, 3) := dk_184 hN_cX11_shift rfl rfl rfl
theorem dX11_shift_41 : decode cX11_shift 41 = .ok (.ifCond .ne 9, 3) := dk_154 hN_cX11_shift rfl rfl rfl
theorem dX11_shift_50 : decode cX11_shift 50 = .ok (.aload_n 0, 1) := dk_42 hN_cX11_shift rfl rfl
theorem dX11_shift_51 : decode cX11_shift 51 = .ok (.getfield 20, 3) := dk_180 hN_cX11_shift rfl rfl rfl
theorem dX11_shift_54 : decode cX11_shift 54 = .ok (.bipush 17, 2) := dk_16 hN_cX11_shift rfl rfl rfl
theorem dX11_shift_56 : decode cX11_shift 56 = .ok (.iconst 4, 1) := dk_7 hN_cX11_shift rfl rfl
theorem dX11_shift_57 : decode cX11_shift 57 = .ok (.iload_n 1, 1) := dk_27 hN_cX11_shift rfl rfl
theorem dX11_shift_58 : decode cX11_shift 58 = .ok (.imul, 1) := dk_104 hN_cX11_shift rfl rfl
theorem dX11_shift_59 : decode cX11_shift 59 = .ok (.iadd, 1) := dk_96 hN_cX11_shift rfl rfl
theorem dX11_shift_60 : decode cX11_shift 60 = .ok (.iload_n 2, 1) := dk_28 hN_cX11_shift rfl rfl
theorem dX11_shift_61 : decode cX11_shift 61 = .ok (.iadd, 1) := dk_96 hN_cX11_shift rfl rfl
theorem dX11_shift_62 : decode cX11_shift 62 = .ok (.iaload, 1) := dk_46 hN_cX11_shift rfl rfl
theorem dX11_shift_63 : decode cX11_shift 63 = .ok (.iload 4, 2) := dk_21 hN_cX11_shift rfl rfl rfl
theorem dX11_shift_65 : decode cX11_shift 65 = .ok (.if_icmp .ge 9, 3) := dk_162 hN_cX11_shift rfl rfl rfl
theorem dX11_shift_74 : decode cX11_shift 74 = .ok (.aload_n 0, 1) := dk_42 hN_cX11_shift rfl rfl
theorem dX11_shift_75 : decode cX11_shift 75 = .ok (.getfield 20, 3) := dk_180 hN_cX11_shift rfl rfl rfl
theorem dX11_shift_78 : decode cX11_shift 78 = .ok (.iconst 0, 1) := dk_3 hN_cX11_shift rfl rfl
theorem dX11_shift_79 : decode cX11_shift 79 = .ok (.aload_n 0, 1) := dk_42 hN_cX11_shift rfl rfl
theorem dX11_shift_80 : decode cX11_shift 80 = .ok (.getfield 29, 3) := dk_180 hN_cX11_shift rfl rfl rfl
theorem dX11_shift_83 : decode cX11_shift 83 = .ok (.iconst 0, 1) := dk_3 hN_cX11_shift rfl rfl
theorem dX11_shift_84 : decode cX11_shift 84 = .ok (.bipush 49, 2) := dk_16 hN_cX11_shift rfl rfl rfl
theorem dX11_shift_86 : decode cX11_shift 86 = .ok (.invokestatic 399, 3) := dk_184 hN_cX11_shift rfl rfl rfl
theorem dX11_shift_89 : decode cX11_shift 89 = .ok (.aload_n 0, 1) := dk_42 hN_cX11_shift rfl rfl
theorem dX11_shift_90 : decode cX11_shift 90 = .ok (.getfield 20, 3) := dk_180 hN_cX11_shift rfl rfl rfl
theorem dX11_shift_93 : decode cX11_shift 93 = .ok (.bipush 17, 2) := dk_16 hN_cX11_shift rfl rfl rfl
theorem dX11_shift_95 : decode cX11_shift 95 = .ok (.iconst 4, 1) := dk_7 hN_cX11_shift rfl rfl
theorem dX11_shift_96 : decode cX11_shift 96 = .ok (.iload_n 1, 1) := dk_27 hN_cX11_shift rfl rfl
theorem dX11_shift_97 : decode cX11_shift 97 = .ok (.imul, 1) := dk_104 hN_cX11_shift rfl rfl
theorem dX11_shift_98 : decode cX11_shift 98 = .ok (.iadd, 1) := dk_96 hN_cX11_shift rfl rfl
theorem dX11_shift_99 : decode cX11_shift 99 = .ok (.iload_n 2, 1) := dk_28 hN_cX11_shift rfl rfl
theorem dX11_shift_100 : decode cX11_shift 100 = .ok (.iadd, 1) := dk_96 hN_cX11_shift rfl rfl
theorem dX11_shift_101 : decode cX11_shift 101 = .ok (.dup2, 1) := dk_92 hN_cX11_shift rfl rfl
theorem dX11_shift_102 : decode cX11_shift 102 = .ok (.iaload, 1) := dk_46 hN_cX11_shift rfl rfl
theorem dX11_shift_103 : decode cX11_shift 103 = .ok (.iload 4, 2) := dk_21 hN_cX11_shift rfl rfl rfl
theorem dX11_shift_105 : decode cX11_shift 105 = .ok (.isub, 1) := dk_100 hN_cX11_shift rfl rfl
theorem dX11_shift_106 : decode cX11_shift 106 = .ok (.iastore, 1) := dk_79 hN_cX11_shift rfl rfl
theorem dX11_shift_107 : decode cX11_shift 107 = .ok (.aload_n 0, 1) := dk_42 hN_cX11_shift rfl rfl
theorem dX11_shift_108 : decode cX11_shift 108 = .ok (.getfield 20, 3) := dk_180 hN_cX11_shift rfl rfl rfl
theorem dX11_shift_111 : decode cX11_shift 111 = .ok (.bipush 17, 2) := dk_16 hN_cX11_shift rfl rfl rfl
theorem dX11_shift_113 : decode cX11_shift 113 = .ok (.iconst 4, 1) := dk_7 hN_cX11_shift rfl rfl
theorem dX11_shift_114 : decode cX11_shift 114 = .ok (.iload_n 1, 1) := dk_27 hN_cX11_shift rfl rfl
theorem dX11_shift_115 : decode cX11_shift 115 = .ok (.imul, 1) := dk_104 hN_cX11_shift rfl rfl
theorem dX11_shift_116 : decode cX11_shift 116 = .ok (.iadd, 1) := dk_96 hN_cX11_shift rfl rfl
theorem dX11_shift_117 : decode cX11_shift 117 = .ok (.iload_n 3, 1) := dk_29 hN_cX11_shift rfl rfl
theorem dX11_shift_118 : decode cX11_shift 118 = .ok (.iadd, 1) := dk_96 hN_cX11_shift rfl rfl
theorem dX11_shift_119 : decode cX11_shift 119 = .ok (.dup2, 1) := dk_92 hN_cX11_shift rfl rfl
theorem dX11_shift_120 : decode cX11_shift 120 = .ok (.iaload, 1) := dk_46 hN_cX11_shift rfl rfl
theorem dX11_shift_121 : decode cX11_shift 121 = .ok (.iload 4, 2) := dk_21 hN_cX11_shift rfl rfl rfl
theorem dX11_shift_123 : decode cX11_shift 123 = .ok (.iadd, 1) := dk_96 hN_cX11_shift rfl rfl
theorem dX11_shift_124 : decode cX11_shift 124 = .ok (.iastore, 1) := dk_79 hN_cX11_shift rfl rfl
theorem dX11_shift_125 : decode cX11_shift 125 = .ok (.aload_n 0, 1) := dk_42 hN_cX11_shift rfl rfl
theorem dX11_shift_126 : decode cX11_shift 126 = .ok (.iconst 3, 1) := dk_6 hN_cX11_shift rfl rfl
theorem dX11_shift_127 : decode cX11_shift 127 = .ok (.iload_n 1, 1) := dk_27 hN_cX11_shift rfl rfl
theorem dX11_shift_128 : decode cX11_shift 128 = .ok (.iload_n 2, 1) := dk_28 hN_cX11_shift rfl rfl
theorem dX11_shift_129 : decode cX11_shift 129 = .ok (.iload_n 3, 1) := dk_29 hN_cX11_shift rfl rfl
theorem dX11_shift_130 : decode cX11_shift 130 = .ok (.iload 4, 2) := dk_21 hN_cX11_shift rfl rfl rfl
theorem dX11_shift_132 : decode cX11_shift 132 = .ok (.invokevirtual 403, 3) := dk_182 hN_cX11_shift rfl rfl rfl
theorem dX11_shift_135 : decode cX11_shift 135 = .ok (.ireturn, 1) := dk_172 hN_cX11_shift rfl rfl
theorem dX11_shift_68 : decode cX11_shift 68 = .ok (.aload_n 0, 1) := dk_42 hN_cX11_shift rfl rfl
theorem dX11_shift_69 : decode cX11_shift 69 = .ok (.iconst 5, 1) := dk_8 hN_cX11_shift rfl rfl
theorem dX11_shift_70 : decode cX11_shift 70 = .ok (.invokevirtual 336, 3) := dk_182 hN_cX11_shift rfl rfl rfl
theorem dX11_shift_73 : decode cX11_shift 73 = .ok (.ireturn, 1) := dk_172 hN_cX11_shift rfl rfl
theorem dX11_shift_44 : decode cX11_shift 44 = .ok (.aload_n 0, 1) := dk_42 hN_cX11_shift rfl rfl
theorem dX11_shift_45 : decode cX11_shift 45 = .ok (.iconst 2, 1) := dk_5 hN_cX11_shift rfl rfl
theorem dX11_shift_46 : decode cX11_shift 46 = .ok (.invokevirtual 336, 3) := dk_182 hN_cX11_shift rfl rfl rfl
theorem dX11_shift_49 : decode cX11_shift 49 = .ok (.ireturn, 1) := dk_172 hN_cX11_shift rfl rfl
theorem dX11_undo_0 : decode cX11_undo 0 = .ok (.aload_n 0, 1) := dk_42 hN_cX11_undo rfl rfl
theorem dX11_undo_1 : decode cX11_undo 1 = .ok (.invokevirtual 174, 3) := dk_182 hN_cX11_undo rfl rfl rfl
theorem dX11_undo_4 : decode cX11_undo 4 = .ok (.aload_n 0, 1) := dk_42 hN_cX11_undo rfl rfl
theorem dX11_undo_5 : decode cX11_undo 5 = .ok (.getfield 189, 3) := dk_180 hN_cX11_undo rfl rfl rfl
theorem dX11_undo_8 : decode cX11_undo 8 = .ok (.ifCond .ne 10, 3) := dk_154 hN_cX11_undo rfl rfl rfl
theorem dX11_undo_18 : decode cX11_undo 18 = .ok (.aload_n 0, 1) := dk_42 hN_cX11_undo rfl rfl
theorem dX11_undo_19 : decode cX11_undo 19 = .ok (.dup, 1) := dk_89 hN_cX11_undo rfl rfl
theorem dX11_undo_20 : decode cX11_undo 20 = .ok (.getfield 189, 3) := dk_180 hN_cX11_undo rfl rfl rfl
theorem dX11_undo_23 : decode cX11_undo 23 = .ok (.iconst 1, 1) := dk_4 hN_cX11_undo rfl rfl
theorem dX11_undo_24 : decode cX11_undo 24 = .ok (.isub, 1) := dk_100 hN_cX11_undo rfl rfl
theorem dX11_undo_25 : decode cX11_undo 25 = .ok (.putfield 189, 3) := dk_181 hN_cX11_undo rfl rfl rfl
theorem dX11_undo_28 : decode cX11_undo 28 = .ok (.aload_n 0, 1) := dk_42 hN_cX11_undo rfl rfl
theorem dX11_undo_29 : decode cX11_undo 29 = .ok (.getfield 20, 3) := dk_180 hN_cX11_undo rfl rfl rfl
theorem dX11_undo_32 : decode cX11_undo 32 = .ok (.iconst 0, 1) := dk_3 hN_cX11_undo rfl rfl
theorem dX11_undo_33 : decode cX11_undo 33 = .ok (.aload_n 0, 1) := dk_42 hN_cX11_undo rfl rfl
theorem dX11_undo_34 : decode cX11_undo 34 = .ok (.getfield 29, 3) := dk_180 hN_cX11_undo rfl rfl rfl
theorem dX11_undo_37 : decode cX11_undo 37 = .ok (.iconst 0, 1) := dk_3 hN_cX11_undo rfl rfl
theorem dX11_undo_38 : decode cX11_undo 38 = .ok (.bipush 49, 2) := dk_16 hN_cX11_undo rfl rfl rfl
theorem dX11_undo_40 : decode cX11_undo 40 = .ok (.invokestatic 399, 3) := dk_184 hN_cX11_undo rfl rfl rfl
theorem dX11_undo_43 : decode cX11_undo 43 = .ok (.iconst 5, 1) := dk_8 hN_cX11_undo rfl rfl
theorem dX11_undo_44 : decode cX11_undo 44 = .ok (.aload_n 0, 1) := dk_42 hN_cX11_undo rfl rfl
theorem dX11_undo_45 : decode cX11_undo 45 = .ok (.getfield 189, 3) := dk_180 hN_cX11_undo rfl rfl rfl
theorem dX11_undo_48 : decode cX11_undo 48 = .ok (.imul, 1) := dk_104 hN_cX11_undo rfl rfl
theorem dX11_undo_49 : decode cX11_undo 49 = .ok (.istore_n 1, 1) := dk_60 hN_cX11_undo rfl rfl
theorem dX11_undo_50 : decode cX11_undo 50 = .ok (.aload_n 0, 1) := dk_42 hN_cX11_undo rfl rfl
theorem dX11_undo_51 : decode cX11_undo 51 = .ok (.getfield 35, 3) := dk_180 hN_cX11_undo rfl rfl rfl
theorem dX11_undo_54 : decode cX11_undo 54 = .ok (.aload_n 0, 1) := dk_42 hN_cX11_undo rfl rfl
theorem dX11_undo_55 : decode cX11_undo 55 = .ok (.getfield 44, 3) := dk_180 hN_cX11_undo rfl rfl rfl
theorem dX11_undo_58 : decode cX11_undo 58 = .ok (.aload_n 0, 1) := dk_42 hN_cX11_undo rfl rfl
theorem dX11_undo_59 : decode cX11_undo 59 = .ok (.getfield 192, 3) := dk_180 hN_cX11_undo rfl rfl rfl
theorem dX11_undo_62 : decode cX11_undo 62 = .ok (.aload_n 0, 1) := dk_42 hN_cX11_undo rfl rfl
theorem dX11_undo_63 : decode cX11_undo 63 = .ok (.getfield 29, 3) := dk_180 hN_cX11_undo rfl rfl rfl
theorem dX11_undo_66 : decode cX11_undo 66 = .ok (.aload_n 0, 1) := dk_42 hN_cX11_undo rfl rfl
theorem dX11_undo_67 : decode cX11_undo 67 = .ok (.getfield 41, 3) := dk_180 hN_cX11_undo rfl rfl rfl
theorem dX11_undo_70 : decode cX11_undo 70 = .ok (.iload_n 1, 1) := dk_27 hN_cX11_undo rfl rfl
theorem dX11_undo_71 : decode cX11_undo 71 = .ok (.iaload, 1) := dk_46 hN_cX11_undo rfl rfl
theorem dX11_undo_72 : decode cX11_undo 72 = .ok (.aload_n 0, 1) := dk_42 hN_cX11_undo rfl rfl
theorem dX11_undo_73 : decode cX11_undo 73 = .ok (.getfield 41, 3) := dk_180 hN_cX11_undo rfl rfl rfl
theorem dX11_undo_76 : decode cX11_undo 76 = .ok (.iload_n 1, 1) := dk_27 hN_cX11_undo rfl rfl
theorem dX11_undo_77 : decode cX11_undo 77 = .ok (.iconst 1, 1) := dk_4 hN_cX11_undo rfl rfl
theorem dX11_undo_78 : decode cX11_undo 78 = .ok (.iadd, 1) := dk_96 hN_cX11_undo rfl rfl
theorem dX11_undo_79 : decode cX11_undo 79 = .ok (.iaload, 1) := dk_46 hN_cX11_undo rfl rfl
theorem dX11_undo_80 : decode cX11_undo 80 = .ok (.aload_n 0, 1) := dk_42 hN_cX11_undo rfl rfl
theorem dX11_undo_81 : decode cX11_undo 81 = .ok (.getfield 41, 3) := dk_180 hN_cX11_undo rfl rfl rfl
theorem dX11_undo_84 : decode cX11_undo 84 = .ok (.iload_n 1, 1) := dk_27 hN_cX11_undo rfl rfl
theorem dX11_undo_85 : decode cX11_undo 85 = .ok (.iconst 2, 1) := dk_5 hN_cX11_undo rfl rfl
theorem dX11_undo_86 : decode cX11_undo 86 = .ok (.iadd, 1) := dk_96 hN_cX11_undo rfl rfl
theorem dX11_undo_87 : decode cX11_undo 87 = .ok (.iaload, 1) := dk_46 hN_cX11_undo rfl rfl
theorem dX11_undo_88 : decode cX11_undo 88 = .ok (.aload_n 0, 1) := dk_42 hN_cX11_undo rfl rfl
theorem dX11_undo_89 : decode cX11_undo 89 = .ok (.getfield 41, 3) := dk_180 hN_cX11_undo rfl rfl rfl
theorem dX11_undo_92 : decode cX11_undo 92 = .ok (.iload_n 1, 1) := dk_27 hN_cX11_undo rfl rfl
theorem dX11_undo_93 : decode cX11_undo 93 = .ok (.iconst 3, 1) := dk_6 hN_cX11_undo rfl rfl
theorem dX11_undo_94 : decode cX11_undo 94 = .ok (.iadd, 1) := dk_96 hN_cX11_undo rfl rfl
theorem dX11_undo_95 : decode cX11_undo 95 = .ok (.iaload, 1) := dk_46 hN_cX11_undo rfl rfl
theorem dX11_undo_96 : decode cX11_undo 96 = .ok (.aload_n 0, 1) := dk_42 hN_cX11_undo rfl rfl
theorem dX11_undo_97 : decode cX11_undo 97 = .ok (.getfield 41, 3) := dk_180 hN_cX11_undo rfl rfl rfl
theorem dX11_undo_100 : decode cX11_undo 100 = .ok (.iload_n 1, 1) := dk_27 hN_cX11_undo rfl rfl
theorem dX11_undo_101 : decode cX11_undo 101 = .ok (.iconst 4, 1) := dk_7 hN_cX11_undo rfl rfl
theorem dX11_undo_102 : decode cX11_undo 102 = .ok (.iadd, 1) := dk_96 hN_cX11_undo rfl rfl
theorem dX11_undo_103 : decode cX11_undo 103 = .ok (.iaload, 1) := dk_46 hN_cX11_undo rfl rfl
theorem dX11_undo_104 : decode cX11_undo 104 = .ok (.invokestatic 395, 3) := dk_184 hN_cX11_undo rfl rfl rfl
theorem dX11_undo_107 : decode cX11_undo 107 = .ok (.aload_n 0, 1) := dk_42 hN_cX11_undo rfl rfl
theorem dX11_undo_108 : decode cX11_undo 108 = .ok (.aload_n 0, 1) := dk_42 hN_cX11_undo rfl rfl
theorem dX11_undo_109 : decode cX11_undo 109 = .ok (.getfield 192, 3) := dk_180 hN_cX11_undo rfl rfl rfl
theorem dX11_undo_112 : decode cX11_undo 112 = .ok (.bipush 20, 2) := dk_16 hN_cX11_undo rfl rfl rfl
theorem dX11_undo_114 : decode cX11_undo 114 = .ok (.if_icmp .ne 8, 3) := dk_160 hN_cX11_undo rfl rfl rfl
theorem dX11_undo_122 : decode cX11_undo 122 = .ok (.aload_n 0, 1) := dk_42 hN_cX11_undo rfl rfl
theorem dX11_undo_123 : decode cX11_undo 123 = .ok (.getfield 192, 3) := dk_180 hN_cX11_undo rfl rfl rfl
theorem dX11_undo_126 : decode cX11_undo 126 = .ok (.iconst 1, 1) := dk_4 hN_cX11_undo rfl rfl
theorem dX11_undo_127 : decode cX11_undo 127 = .ok (.iadd, 1) := dk_96 hN_cX11_undo rfl rfl
theorem dX11_undo_128 : decode cX11_undo 128 = .ok (.putfield 192, 3) := dk_181 hN_cX11_undo rfl rfl rfl
theorem dX11_undo_131 : decode cX11_undo 131 = .ok (.aload_n 0, 1) := dk_42 hN_cX11_undo rfl rfl
theorem dX11_undo_132 : decode cX11_undo 132 = .ok (.getfield 32, 3) := dk_180 hN_cX11_undo rfl rfl rfl
theorem dX11_undo_135 : decode cX11_undo 135 = .ok (.bipush 49, 2) := dk_16 hN_cX11_undo rfl rfl rfl
theorem dX11_undo_137 : decode cX11_undo 137 = .ok (.aload_n 0, 1) := dk_42 hN_cX11_undo rfl rfl
theorem dX11_undo_138 : decode cX11_undo 138 = .ok (.getfield 189, 3) := dk_180 hN_cX11_undo rfl rfl rfl
theorem dX11_undo_141 : decode cX11_undo 141 = .ok (.imul, 1) := dk_104 hN_cX11_undo rfl rfl
theorem dX11_undo_142 : decode cX11_undo 142 = .ok (.aload_n 0, 1) := dk_42 hN_cX11_undo rfl rfl
theorem dX11_undo_143 : decode cX11_undo 143 = .ok (.getfield 20, 3) := dk_180 hN_cX11_undo rfl rfl rfl
theorem dX11_undo_146 : decode cX11_undo 146 = .ok (.iconst 0, 1) := dk_3 hN_cX11_undo rfl rfl
theorem dX11_undo_147 : decode cX11_undo 147 = .ok (.bipush 49, 2) := dk_16 hN_cX11_undo rfl rfl rfl
theorem dX11_undo_149 : decode cX11_undo 149 = .ok (.invokestatic 399, 3) := dk_184 hN_cX11_undo rfl rfl rfl
theorem dX11_undo_152 : decode cX11_undo 152 = .ok (.aload_n 0, 1) := dk_42 hN_cX11_undo rfl rfl
theorem dX11_undo_153 : decode cX11_undo 153 = .ok (.invokevirtual 186, 3) := dk_182 hN_cX11_undo rfl rfl rfl
theorem dX11_undo_156 : decode cX11_undo 156 = .ok (.iconst 1, 1) := dk_4 hN_cX11_undo rfl rfl
theorem dX11_undo_157 : decode cX11_undo 157 = .ok (.ireturn, 1) := dk_172 hN_cX11_undo rfl rfl
theorem dX11_undo_117 : decode cX11_undo 117 = .ok (.bipush 20, 2) := dk_16 hN_cX11_undo rfl rfl rfl
theorem dX11_undo_119 : decode cX11_undo 119 = .ok (.goto 9, 3) := dk_167 hN_cX11_undo rfl rfl rfl
theorem dX11_undo_11 : decode cX11_undo 11 = .ok (.aload_n 0, 1) := dk_42 hN_cX11_undo rfl rfl
theorem dX11_undo_12 : decode cX11_undo 12 = .ok (.bipush 6, 2) := dk_16 hN_cX11_undo rfl rfl rfl
theorem dX11_undo_14 : decode cX11_undo 14 = .ok (.invokevirtual 336, 3) := dk_182 hN_cX11_undo rfl rfl rfl
theorem dX11_undo_17 : decode cX11_undo 17 = .ok (.ireturn, 1) := dk_172 hN_cX11_undo rfl rfl
theorem dX11_redo_0 : decode cX11_redo 0 = .ok (.aload_n 0, 1) := dk_42 hN_cX11_redo rfl rfl
theorem dX11_redo_1 : decode cX11_redo 1 = .ok (.invokevirtual 174, 3) := dk_182 hN_cX11_redo rfl rfl rfl
theorem dX11_redo_4 : decode cX11_redo 4 = .ok (.aload_n 0, 1) := dk_42 hN_cX11_redo rfl rfl
theorem dX11_redo_5 : decode cX11_redo 5 = .ok (.getfield 192, 3) := dk_180 hN_cX11_redo rfl rfl rfl
theorem dX11_redo_8 : decode cX11_redo 8 = .ok (.ifCond .ne 10, 3) := dk_154 hN_cX11_redo rfl rfl rfl
theorem dX11_redo_18 : decode cX11_redo 18 = .ok (.aload_n 0, 1) := dk_42 hN_cX11_redo rfl rfl
theorem dX11_redo_19 : decode cX11_redo 19 = .ok (.dup, 1) := dk_89 hN_cX11_redo rfl rfl
theorem dX11_redo_20 : decode cX11_redo 20 = .ok (.getfield 192, 3) := dk_180 hN_cX11_redo rfl rfl rfl
theorem dX11_redo_23 : decode cX11_redo 23 = .ok (.iconst 1, 1) := dk_4 hN_cX11_redo rfl rfl
theorem dX11_redo_24 : decode cX11_redo 24 = .ok (.isub, 1) := dk_100 hN_cX11_redo rfl rfl
theorem dX11_redo_25 : decode cX11_redo 25 = .ok (.putfield 192, 3) := dk_181 hN_cX11_redo rfl rfl rfl
theorem dX11_redo_28 : decode cX11_redo 28 = .ok (.aload_n 0, 1) := dk_42 hN_cX11_redo rfl rfl
theorem dX11_redo_29 : decode cX11_redo 29 = .ok (.getfield 20, 3) := dk_180 hN_cX11_redo rfl rfl rfl
theorem dX11_redo_32 : decode cX11_redo 32 = .ok (.iconst 0, 1) := dk_3 hN_cX11_redo rfl rfl
theorem dX11_redo_33 : decode cX11_redo 33 = .ok (.aload_n 0, 1) := dk_42 hN_cX11_redo rfl rfl
theorem dX11_redo_34 : decode cX11_redo 34 = .ok (.getfield 29, 3) := dk_180 hN_cX11_redo rfl rfl rfl
theorem dX11_redo_37 : decode cX11_redo 37 = .ok (.iconst 0, 1) := dk_3 hN_cX11_redo rfl rfl
theorem dX11_redo_38 : decode cX11_redo 38 = .ok (.bipush 49, 2) := dk_16 hN_cX11_redo rfl rfl rfl
theorem dX11_redo_40 : decode cX11_redo 40 = .ok (.invokestatic 399, 3) := dk_184 hN_cX11_redo rfl rfl rfl
theorem dX11_redo_43 : decode cX11_redo 43 = .ok (.iconst 5, 1) := dk_8 hN_cX11_redo rfl rfl
theorem dX11_redo_44 : decode cX11_redo 44 = .ok (.aload_n 0, 1) := dk_42 hN_cX11_redo rfl rfl
theorem dX11_redo_45 : decode cX11_redo 45 = .ok (.getfield 192, 3) := dk_180 hN_cX11_redo rfl rfl rfl
theorem dX11_redo_48 : decode cX11_redo 48 = .ok (.imul, 1) := dk_104 hN_cX11_redo rfl rfl
theorem dX11_redo_49 : decode cX11_redo 49 = .ok (.istore_n 1, 1) := dk_60 hN_cX11_redo rfl rfl
theorem dX11_redo_50 : decode cX11_redo 50 = .ok (.aload_n 0, 1) := dk_42 hN_cX11_redo rfl rfl
theorem dX11_redo_51 : decode cX11_redo 51 = .ok (.getfield 32, 3) := dk_180 hN_cX11_redo rfl rfl rfl
theorem dX11_redo_54 : decode cX11_redo 54 = .ok (.aload_n 0, 1) := dk_42 hN_cX11_redo rfl rfl
theorem dX11_redo_55 : decode cX11_redo 55 = .ok (.getfield 41, 3) := dk_180 hN_cX11_redo rfl rfl rfl
theorem dX11_redo_58 : decode cX11_redo 58 = .ok (.aload_n 0, 1) := dk_42 hN_cX11_redo rfl rfl
theorem dX11_redo_59 : decode cX11_redo 59 = .ok (.getfield 189, 3) := dk_180 hN_cX11_redo rfl rfl rfl
theorem dX11_redo_62 : decode cX11_redo 62 = .ok (.aload_n 0, 1) := dk_42 hN_cX11_redo rfl rfl
theorem dX11_redo_63 : decode cX11_redo 63 = .ok (.getfield 29, 3) := dk_180 hN_cX11_redo rfl rfl rfl
theorem dX11_redo_66 : decode cX11_redo 66 = .ok (.aload_n 0, 1) := dk_42 hN_cX11_redo rfl rfl
theorem dX11_redo_67 : decode cX11_redo 67 = .ok (.getfield 44, 3) := dk_180 hN_cX11_redo rfl rfl rfl
theorem dX11_redo_70 : decode cX11_redo 70 = .ok (.iload_n 1, 1) := dk_27 hN_cX11_redo rfl rfl
theorem dX11_redo_71 : decode cX11_redo 71 = .ok (.iaload, 1) := dk_46 hN_cX11_redo rfl rfl
theorem dX11_redo_72 : decode cX11_redo 72 = .ok (.aload_n 0, 1) := dk_42 hN_cX11_redo rfl rfl
theorem dX11_redo_73 : decode cX11_redo 73 = .ok (.getfield 44, 3) := dk_180 hN_cX11_redo rfl rfl rfl
theorem dX11_redo_76 : decode cX11_redo 76 = .ok (.iload_n 1, 1) := dk_27 hN_cX11_redo rfl rfl
theorem dX11_redo_77 : decode cX11_redo 77 = .ok (.iconst 1, 1) := dk_4 hN_cX11_redo rfl rfl
theorem dX11_redo_78 : decode cX11_redo 78 = .ok (.iadd, 1) := dk_96 hN_cX11_redo rfl rfl
theorem dX11_redo_79 : decode cX11_redo 79 = .ok (.iaload, 1) := dk_46 hN_cX11_redo rfl rfl
theorem dX11_redo_80 : decode cX11_redo 80 = .ok (.aload_n 0, 1) := dk_42 hN_cX11_redo rfl rfl
theorem dX11_redo_81 : decode cX11_redo 81 = .ok (.getfield 44, 3) := dk_180 hN_cX11_redo rfl rfl rfl
theorem dX11_redo_84 : decode cX11_redo 84 = .ok (.iload_n 1, 1) := dk_27 hN_cX11_redo rfl rfl
theorem dX11_redo_85 : decode cX11_redo 85 = .ok (.iconst 2, 1) := dk_5 hN_cX11_redo rfl rfl
theorem dX11_redo_86 : decode cX11_redo 86 = .ok (.iadd, 1) := dk_96 hN_cX11_redo rfl rfl
theorem dX11_redo_87 : decode cX11_redo 87 = .ok (.iaload, 1) := dk_46 hN_cX11_redo rfl rfl
theorem dX11_redo_88 : decode cX11_redo 88 = .ok (.aload_n 0, 1) := dk_42 hN_cX11_redo rfl rfl
theorem dX11_redo_89 : decode cX11_redo 89 = .ok (.getfield 44, 3) := dk_180 hN_cX11_redo rfl rfl rfl
theorem dX11_redo_92 : decode cX11_redo 92 = .ok (.iload_n 1, 1) := dk_27 hN_cX11_redo rfl rfl
theorem dX11_redo_93 : decode cX11_redo 93 = .ok (.iconst 3, 1) := dk_6 hN_cX11_redo rfl rfl
theorem dX11_redo_94 : decode cX11_redo 94 = .ok (.iadd, 1) := dk_96 hN_cX11_redo rfl rfl
theorem dX11_redo_95 : decode cX11_redo 95 = .ok (.iaload, 1) := dk_46 hN_cX11_redo rfl rfl
theorem dX11_redo_96 : decode cX11_redo 96 = .ok (.aload_n 0, 1) := dk_42 hN_cX11_redo rfl rfl
theorem dX11_redo_97 : decode cX11_redo 97 = .ok (.getfield 44, 3) := dk_180 hN_cX11_redo rfl rfl rfl
theorem dX11_redo_100 : decode cX11_redo 100 = .ok (.iload_n 1, 1) := dk_27 hN_cX11_redo rfl rfl
theorem dX11_redo_101 : decode cX11_redo 101 = .ok (.iconst 4, 1) := dk_7 hN_cX11_redo rfl rfl
theorem dX11_redo_102 : decode cX11_redo 102 = .ok (.iadd, 1) := dk_96 hN_cX11_redo rfl rfl
theorem dX11_redo_103 : decode cX11_redo 103 = .ok (.iaload, 1) := dk_46 hN_cX11_redo rfl rfl
theorem dX11_redo_104 : decode cX11_redo 104 = .ok (.invokestatic 395, 3) := dk_184 hN_cX11_redo rfl rfl rfl
theorem dX11_redo_107 : decode cX11_redo 107 = .ok (.aload_n 0, 1) := dk_42 hN_cX11_redo rfl rfl
theorem dX11_redo_108 : decode cX11_redo 108 = .ok (.aload_n 0, 1) := dk_42 hN_cX11_redo rfl rfl
theorem dX11_redo_109 : decode cX11_redo 109 = .ok (.getfield 189, 3) := dk_180 hN_cX11_redo rfl rfl rfl
theorem dX11_redo_112 : decode cX11_redo 112 = .ok (.bipush 20, 2) := dk_16 hN_cX11_redo rfl rfl rfl
theorem dX11_redo_114 : decode cX11_redo 114 = .ok (.if_icmp .ne 8, 3) := dk_160 hN_cX11_redo rfl rfl rfl
theorem dX11_redo_122 : decode cX11_redo 122 = .ok (.aload_n 0, 1) := dk_42 hN_cX11_redo rfl rfl
theorem dX11_redo_123 : decode cX11_redo 123 = .ok (.getfield 189, 3) := dk_180 hN_cX11_redo rfl rfl rfl
theorem dX11_redo_126 : decode cX11_redo 126 = .ok (.iconst 1, 1) := dk_4 hN_cX11_redo rfl rfl
theorem dX11_redo_127 : decode cX11_redo 127 = .ok (.iadd, 1) := dk_96 hN_cX11_redo rfl rfl
theorem dX11_redo_128 : decode cX11_redo 128 = .ok (.putfield 189, 3) := dk_181 hN_cX11_redo rfl rfl rfl
theorem dX11_redo_131 : decode cX11_redo 131 = .ok (.aload_n 0, 1) := dk_42 hN_cX11_redo rfl rfl
theorem dX11_redo_132 : decode cX11_redo 132 = .ok (.getfield 35, 3) := dk_180 hN_cX11_redo rfl rfl rfl
theorem dX11_redo_135 : decode cX11_redo 135 = .ok (.bipush 49, 2) := dk_16 hN_cX11_redo rfl rfl rfl
theorem dX11_redo_137 : decode cX11_redo 137 = .ok (.aload_n 0, 1) := dk_42 hN_cX11_redo rfl rfl
theorem dX11_redo_138 : decode cX11_redo 138 = .ok (.getfield 192, 3) := dk_180 hN_cX11_redo rfl rfl rfl
theorem dX11_redo_141 : decode cX11_redo 141 = .ok (.imul, 1) := dk_104 hN_cX11_redo rfl rfl
theorem dX11_redo_142 : decode cX11_redo 142 = .ok (.aload_n 0, 1) := dk_42 hN_cX11_redo rfl rfl
theorem dX11_redo_143 : decode cX11_redo 143 = .ok (.getfield 20, 3) := dk_180 hN_cX11_redo rfl rfl rfl
theorem dX11_redo_146 : decode cX11_redo 146 = .ok (.iconst 0, 1) := dk_3 hN_cX11_redo rfl rfl
theorem dX11_redo_147 : decode cX11_redo 147 = .ok (.bipush 49, 2) := dk_16 hN_cX11_redo rfl rfl rfl
theorem dX11_redo_149 : decode cX11_redo 149 = .ok (.invokestatic 399, 3) := dk_184 hN_cX11_redo rfl rfl rfl
theorem dX11_redo_152 : decode cX11_redo 152 = .ok (.aload_n 0, 1) := dk_42 hN_cX11_redo rfl rfl
theorem dX11_redo_153 : decode cX11_redo 153 = .ok (.invokevirtual 186, 3) := dk_182 hN_cX11_redo rfl rfl rfl
theorem dX11_redo_156 : decode cX11_redo 156 = .ok (.iconst 1, 1) := dk_4 hN_cX11_redo rfl rfl
theorem dX11_redo_157 : decode cX11_redo 157 = .ok (.ireturn, 1) := dk_172 hN_cX11_redo rfl rfl
theorem dX11_redo_117 : decode cX11_redo 117 = .ok (.bipush 20, 2) := dk_16 hN_cX11_redo rfl rfl rfl
theorem dX11_redo_119 : decode cX11_redo 119 = .ok (.goto 9, 3) := dk_167 hN_cX11_redo rfl rfl rfl
theorem dX11_redo_11 : decode cX11_redo 11 = .ok (.aload_n 0, 1) := dk_42 hN_cX11_redo rfl rfl
theorem dX11_redo_12 : decode cX11_redo 12 = .ok (.bipush 6, 2) := dk_16 hN_cX11_redo rfl rfl rfl
theorem dX11_redo_14 : decode cX11_redo 14 = .ok (.invokevirtual 336, 3) := dk_182 hN_cX11_redo rfl rfl rfl
theorem dX11_redo_17 : decode cX11_redo 17 = .ok (.ireturn, 1) := dk_172 hN_cX11_redo rfl rfl
theorem dX11_mark_0 : decode cX11_mark 0 = .ok (.aload_n 0, 1) := dk_42 hN_cX11_mark rfl rfl
theorem dX11_mark_1 : decode cX11_mark 1 = .ok (.invokevirtual 174, 3) := dk_182 hN_cX11_mark rfl rfl rfl
theorem dX11_mark_4 : decode cX11_mark 4 = .ok (.aload_n 0, 1) := dk_42 hN_cX11_mark rfl rfl
theorem dX11_mark_5 : decode cX11_mark 5 = .ok (.getfield 183, 3) := dk_180 hN_cX11_mark rfl rfl rfl
theorem dX11_mark_8 : decode cX11_mark 8 = .ok (.ifCond .ne 9, 3) := dk_154 hN_cX11_mark rfl rfl rfl
theorem dX11_mark_17 : decode cX11_mark 17 = .ok (.aload_n 0, 1) := dk_42 hN_cX11_mark rfl rfl
theorem dX11_mark_18 : decode cX11_mark 18 = .ok (.getfield 195, 3) := dk_180 hN_cX11_mark rfl rfl rfl
theorem dX11_mark_21 : decode cX11_mark 21 = .ok (.iconst 4, 1) := dk_7 hN_cX11_mark rfl rfl
theorem dX11_mark_22 : decode cX11_mark 22 = .ok (.if_icmp .ne 9, 3) := dk_160 hN_cX11_mark rfl rfl rfl
theorem dX11_mark_31 : decode cX11_mark 31 = .ok (.aload_n 0, 1) := dk_42 hN_cX11_mark rfl rfl
theorem dX11_mark_32 : decode cX11_mark 32 = .ok (.getfield 20, 3) := dk_180 hN_cX11_mark rfl rfl rfl
theorem dX11_mark_35 : decode cX11_mark 35 = .ok (.iconst 0, 1) := dk_3 hN_cX11_mark rfl rfl
theorem dX11_mark_36 : decode cX11_mark 36 = .ok (.aload_n 0, 1) := dk_42 hN_cX11_mark rfl rfl
theorem dX11_mark_37 : decode cX11_mark 37 = .ok (.getfield 38, 3) := dk_180 hN_cX11_mark rfl rfl rfl
theorem dX11_mark_40 : decode cX11_mark 40 = .ok (.bipush 49, 2) := dk_16 hN_cX11_mark rfl rfl rfl
theorem dX11_mark_42 : decode cX11_mark 42 = .ok (.aload_n 0, 1) := dk_42 hN_cX11_mark rfl rfl
theorem dX11_mark_43 : decode cX11_mark 43 = .ok (.getfield 195, 3) := dk_180 hN_cX11_mark rfl rfl rfl
theorem dX11_mark_46 : decode cX11_mark 46 = .ok (.imul, 1) := dk_104 hN_cX11_mark rfl rfl
theorem dX11_mark_47 : decode cX11_mark 47 = .ok (.bipush 49, 2) := dk_16 hN_cX11_mark rfl rfl rfl
theorem dX11_mark_49 : decode cX11_mark 49 = .ok (.invokestatic 399, 3) := dk_184 hN_cX11_mark rfl rfl rfl
theorem dX11_mark_52 : decode cX11_mark 52 = .ok (.aload_n 0, 1) := dk_42 hN_cX11_mark rfl rfl
theorem dX11_mark_53 : decode cX11_mark 53 = .ok (.dup, 1) := dk_89 hN_cX11_mark rfl rfl
theorem dX11_mark_54 : decode cX11_mark 54 = .ok (.getfield 195, 3) := dk_180 hN_cX11_mark rfl rfl rfl
theorem dX11_mark_57 : decode cX11_mark 57 = .ok (.iconst 1, 1) := dk_4 hN_cX11_mark rfl rfl
theorem dX11_mark_58 : decode cX11_mark 58 = .ok (.iadd, 1) := dk_96 hN_cX11_mark rfl rfl
theorem dX11_mark_59 : decode cX11_mark 59 = .ok (.putfield 195, 3) := dk_181 hN_cX11_mark rfl rfl rfl
theorem dX11_mark_62 : decode cX11_mark 62 = .ok (.aload_n 0, 1) := dk_42 hN_cX11_mark rfl rfl
theorem dX11_mark_63 : decode cX11_mark 63 = .ok (.getfield 195, 3) := dk_180 hN_cX11_mark rfl rfl rfl
theorem dX11_mark_66 : decode cX11_mark 66 = .ok (.iconst 1, 1) := dk_4 hN_cX11_mark rfl rfl
theorem dX11_mark_67 : decode cX11_mark 67 = .ok (.isub, 1) := dk_100 hN_cX11_mark rfl rfl
theorem dX11_mark_68 : decode cX11_mark 68 = .ok (.ireturn, 1) := dk_172 hN_cX11_mark rfl rfl
theorem dX11_mark_25 : decode cX11_mark 25 = .ok (.aload_n 0, 1) := dk_42 hN_cX11_mark rfl rfl
theorem dX11_mark_26 : decode cX11_mark 26 = .ok (.iconst 3, 1) := dk_6 hN_cX11_mark rfl rfl
theorem dX11_mark_27 : decode cX11_mark 27 = .ok (.invokevirtual 177, 3) := dk_182 hN_cX11_mark rfl rfl rfl
theorem dX11_mark_30 : decode cX11_mark 30 = .ok (.ireturn, 1) := dk_172 hN_cX11_mark rfl rfl
theorem dX11_mark_11 : decode cX11_mark 11 = .ok (.aload_n 0, 1) := dk_42 hN_cX11_mark rfl rfl
theorem dX11_mark_12 : decode cX11_mark 12 = .ok (.iconst 1, 1) := dk_4 hN_cX11_mark rfl rfl
theorem dX11_mark_13 : decode cX11_mark 13 = .ok (.invokevirtual 177, 3) := dk_182 hN_cX11_mark rfl rfl rfl
theorem dX11_mark_16 : decode cX11_mark 16 = .ok (.ireturn, 1) := dk_172 hN_cX11_mark rfl rfl
theorem dX11_back_0 : decode cX11_back 0 = .ok (.aload_n 0, 1) := dk_42 hN_cX11_back rfl rfl
theorem dX11_back_1 : decode cX11_back 1 = .ok (.invokevirtual 174, 3) := dk_182 hN_cX11_back rfl rfl rfl
theorem dX11_back_4 : decode cX11_back 4 = .ok (.iload_n 1, 1) := dk_27 hN_cX11_back rfl rfl
theorem dX11_back_5 : decode cX11_back 5 = .ok (.iconst 0, 1) := dk_3 hN_cX11_back rfl rfl
theorem dX11_back_6 : decode cX11_back 6 = .ok (.aload_n 0, 1) := dk_42 hN_cX11_back rfl rfl
theorem dX11_back_7 : decode cX11_back 7 = .ok (.getfield 195, 3) := dk_180 hN_cX11_back rfl rfl rfl
theorem dX11_back_10 : decode cX11_back 10 = .ok (.iconst 1, 1) := dk_4 hN_cX11_back rfl rfl
theorem dX11_back_11 : decode cX11_back 11 = .ok (.isub, 1) := dk_100 hN_cX11_back rfl rfl
theorem dX11_back_12 : decode cX11_back 12 = .ok (.invokestatic 170, 3) := dk_184 hN_cX11_back rfl rfl rfl
theorem dX11_back_15 : decode cX11_back 15 = .ok (.ifCond .ne 9, 3) := dk_154 hN_cX11_back rfl rfl rfl
theorem dX11_back_24 : decode cX11_back 24 = .ok (.aload_n 0, 1) := dk_42 hN_cX11_back rfl rfl
theorem dX11_back_25 : decode cX11_back 25 = .ok (.getfield 38, 3) := dk_180 hN_cX11_back rfl rfl rfl
theorem dX11_back_28 : decode cX11_back 28 = .ok (.bipush 49, 2) := dk_16 hN_cX11_back rfl rfl rfl
theorem dX11_back_30 : decode cX11_back 30 = .ok (.iload_n 1, 1) := dk_27 hN_cX11_back rfl rfl
theorem dX11_back_31 : decode cX11_back 31 = .ok (.imul, 1) := dk_104 hN_cX11_back rfl rfl
theorem dX11_back_32 : decode cX11_back 32 = .ok (.aload_n 0, 1) := dk_42 hN_cX11_back rfl rfl
theorem dX11_back_33 : decode cX11_back 33 = .ok (.getfield 20, 3) := dk_180 hN_cX11_back rfl rfl rfl
theorem dX11_back_36 : decode cX11_back 36 = .ok (.iconst 0, 1) := dk_3 hN_cX11_back rfl rfl
theorem dX11_back_37 : decode cX11_back 37 = .ok (.bipush 49, 2) := dk_16 hN_cX11_back rfl rfl rfl
theorem dX11_back_39 : decode cX11_back 39 = .ok (.invokestatic 399, 3) := dk_184 hN_cX11_back rfl rfl rfl
theorem dX11_back_42 : decode cX11_back 42 = .ok (.aload_n 0, 1) := dk_42 hN_cX11_back rfl rfl
theorem dX11_back_43 : decode cX11_back 43 = .ok (.iconst 0, 1) := dk_3 hN_cX11_back rfl rfl
theorem dX11_back_44 : decode cX11_back 44 = .ok (.putfield 189, 3) := dk_181 hN_cX11_back rfl rfl rfl
theorem dX11_back_47 : decode cX11_back 47 = .ok (.aload_n 0, 1) := dk_42 hN_cX11_back rfl rfl
theorem dX11_back_48 : decode cX11_back 48 = .ok (.iconst 0, 1) := dk_3 hN_cX11_back rfl rfl
theorem dX11_back_49 : decode cX11_back 49 = .ok (.putfield 192, 3) := dk_181 hN_cX11_back rfl rfl rfl
theorem dX11_back_52 : decode cX11_back 52 = .ok (.aload_n 0, 1) := dk_42 hN_cX11_back rfl rfl
theorem dX11_back_53 : decode cX11_back 53 = .ok (.invokevirtual 186, 3) := dk_182 hN_cX11_back rfl rfl rfl
theorem dX11_back_56 : decode cX11_back 56 = .ok (.iconst 1, 1) := dk_4 hN_cX11_back rfl rfl
theorem dX11_back_57 : decode cX11_back 57 = .ok (.ireturn, 1) := dk_172 hN_cX11_back rfl rfl
theorem dX11_back_18 : decode cX11_back 18 = .ok (.aload_n 0, 1) := dk_42 hN_cX11_back rfl rfl
theorem dX11_back_19 : decode cX11_back 19 = .ok (.iconst 1, 1) := dk_4 hN_cX11_back rfl rfl
theorem dX11_back_20 : decode cX11_back 20 = .ok (.invokevirtual 336, 3) := dk_182 hN_cX11_back rfl rfl rfl
theorem dX11_back_23 : decode cX11_back 23 = .ok (.ireturn, 1) := dk_172 hN_cX11_back rfl rfl
theorem dX11_act_0 : decode cX11_act 0 = .ok (.aload_n 0, 1) := dk_42 hN_cX11_act rfl rfl
theorem dX11_act_1 : decode cX11_act 1 = .ok (.invokevirtual 174, 3) := dk_182 hN_cX11_act rfl rfl rfl
theorem dX11_act_4 : decode cX11_act 4 = .ok (.aload_n 0, 1) := dk_42 hN_cX11_act rfl rfl
theorem dX11_act_5 : decode cX11_act 5 = .ok (.getfield 183, 3) := dk_180 hN_cX11_act rfl rfl rfl
theorem dX11_act_8 : decode cX11_act 8 = .ok (.ifCond .eq 39, 3) := dk_153 hN_cX11_act rfl rfl rfl
theorem dX11_act_47 : decode cX11_act 47 = .ok (.aload_n 0, 1) := dk_42 hN_cX11_act rfl rfl
theorem dX11_act_48 : decode cX11_act 48 = .ok (.iconst 1, 1) := dk_4 hN_cX11_act rfl rfl
theorem dX11_act_49 : decode cX11_act 49 = .ok (.invokevirtual 177, 3) := dk_182 hN_cX11_act rfl rfl rfl
theorem dX11_act_52 : decode cX11_act 52 = .ok (.ireturn, 1) := dk_172 hN_cX11_act rfl rfl
theorem dX11_act_11 : decode cX11_act 11 = .ok (.iload_n 1, 1) := dk_27 hN_cX11_act rfl rfl
theorem dX11_act_12 : decode cX11_act 12 = .ok (.iconst 0, 1) := dk_3 hN_cX11_act rfl rfl
theorem dX11_act_13 : decode cX11_act 13 = .ok (.aload_n 0, 1) := dk_42 hN_cX11_act rfl rfl
theorem dX11_act_14 : decode cX11_act 14 = .ok (.getfield 189, 3) := dk_180 hN_cX11_act rfl rfl rfl
theorem dX11_act_17 : decode cX11_act 17 = .ok (.iconst 1, 1) := dk_4 hN_cX11_act rfl rfl
theorem dX11_act_18 : decode cX11_act 18 = .ok (.isub, 1) := dk_100 hN_cX11_act rfl rfl
theorem dX11_act_19 : decode cX11_act 19 = .ok (.invokestatic 170, 3) := dk_184 hN_cX11_act rfl rfl rfl
theorem dX11_act_22 : decode cX11_act 22 = .ok (.ifCond .eq 25, 3) := dk_153 hN_cX11_act rfl rfl rfl
theorem dX11_act_25 : decode cX11_act 25 = .ok (.iload_n 2, 1) := dk_28 hN_cX11_act rfl rfl
theorem dX11_act_26 : decode cX11_act 26 = .ok (.iconst 0, 1) := dk_3 hN_cX11_act rfl rfl
theorem dX11_act_27 : decode cX11_act 27 = .ok (.iconst 4, 1) := dk_7 hN_cX11_act rfl rfl
theorem dX11_act_28 : decode cX11_act 28 = .ok (.invokestatic 170, 3) := dk_184 hN_cX11_act rfl rfl rfl
theorem dX11_act_31 : decode cX11_act 31 = .ok (.ifCond .eq 16, 3) := dk_153 hN_cX11_act rfl rfl rfl
theorem dX11_act_34 : decode cX11_act 34 = .ok (.aload_n 0, 1) := dk_42 hN_cX11_act rfl rfl
theorem dX11_act_35 : decode cX11_act 35 = .ok (.getfield 41, 3) := dk_180 hN_cX11_act rfl rfl rfl
theorem dX11_act_38 : decode cX11_act 38 = .ok (.iconst 5, 1) := dk_8 hN_cX11_act rfl rfl
theorem dX11_act_39 : decode cX11_act 39 = .ok (.iload_n 1, 1) := dk_27 hN_cX11_act rfl rfl
theorem dX11_act_40 : decode cX11_act 40 = .ok (.imul, 1) := dk_104 hN_cX11_act rfl rfl
theorem dX11_act_41 : decode cX11_act 41 = .ok (.iload_n 2, 1) := dk_28 hN_cX11_act rfl rfl
theorem dX11_act_42 : decode cX11_act 42 = .ok (.iadd, 1) := dk_96 hN_cX11_act rfl rfl
theorem dX11_act_43 : decode cX11_act 43 = .ok (.iaload, 1) := dk_46 hN_cX11_act rfl rfl
theorem dX11_act_44 : decode cX11_act 44 = .ok (.goto 8, 3) := dk_167 hN_cX11_act rfl rfl rfl
theorem dX11_times_0 : decode cX11_times 0 = .ok (.aload_n 0, 1) := dk_42 hN_cX11_times rfl rfl
theorem dX11_times_1 : decode cX11_times 1 = .ok (.invokevirtual 174, 3) := dk_182 hN_cX11_times rfl rfl rfl
theorem dX11_times_4 : decode cX11_times 4 = .ok (.aload_n 0, 1) := dk_42 hN_cX11_times rfl rfl
theorem dX11_times_5 : decode cX11_times 5 = .ok (.iload_n 1, 1) := dk_27 hN_cX11_times rfl rfl
theorem dX11_times_6 : decode cX11_times 6 = .ok (.iload_n 2, 1) := dk_28 hN_cX11_times rfl rfl
theorem dX11_times_7 : decode cX11_times 7 = .ok (.invokevirtual 305, 3) := dk_182 hN_cX11_times rfl rfl rfl
theorem dX11_times_10 : decode cX11_times 10 = .ok (.ifCond .eq 19, 3) := dk_153 hN_cX11_times rfl rfl rfl
theorem dX11_times_29 : decode cX11_times 29 = .ok (.aload_n 0, 1) := dk_42 hN_cX11_times rfl rfl
theorem dX11_times_30 : decode cX11_times 30 = .ok (.iconst 1, 1) := dk_4 hN_cX11_times rfl rfl
theorem dX11_times_31 : decode cX11_times 31 = .ok (.invokevirtual 177, 3) := dk_182 hN_cX11_times rfl rfl rfl
theorem dX11_times_34 : decode cX11_times 34 = .ok (.ireturn, 1) := dk_172 hN_cX11_times rfl rfl
theorem dX11_times_13 : decode cX11_times 13 = .ok (.aload_n 0, 1) := dk_42 hN_cX11_times rfl rfl
theorem dX11_times_14 : decode cX11_times 14 = .ok (.getfield 20, 3) := dk_180 hN_cX11_times rfl rfl rfl
theorem dX11_times_17 : decode cX11_times 17 = .ok (.bipush 17, 2) := dk_16 hN_cX11_times rfl rfl rfl
theorem dX11_times_19 : decode cX11_times 19 = .ok (.iconst 4, 1) := dk_7 hN_cX11_times rfl rfl
theorem dX11_times_20 : decode cX11_times 20 = .ok (.iload_n 1, 1) := dk_27 hN_cX11_times rfl rfl
theorem dX11_times_21 : decode cX11_times 21 = .ok (.imul, 1) := dk_104 hN_cX11_times rfl rfl
theorem dX11_times_22 : decode cX11_times 22 = .ok (.iadd, 1) := dk_96 hN_cX11_times rfl rfl
theorem dX11_times_23 : decode cX11_times 23 = .ok (.iload_n 2, 1) := dk_28 hN_cX11_times rfl rfl
theorem dX11_times_24 : decode cX11_times 24 = .ok (.iadd, 1) := dk_96 hN_cX11_times rfl rfl
theorem dX11_times_25 : decode cX11_times 25 = .ok (.iaload, 1) := dk_46 hN_cX11_times rfl rfl
theorem dX11_times_26 : decode cX11_times 26 = .ok (.goto 8, 3) := dk_167 hN_cX11_times rfl rfl rfl
theorem dX11_look_0 : decode cX11_look 0 = .ok (.aload_n 0, 1) := dk_42 hN_cX11_look rfl rfl
theorem dX11_look_1 : decode cX11_look 1 = .ok (.invokevirtual 174, 3) := dk_182 hN_cX11_look rfl rfl rfl
theorem dX11_look_4 : decode cX11_look 4 = .ok (.aload_n 0, 1) := dk_42 hN_cX11_look rfl rfl
theorem dX11_look_5 : decode cX11_look 5 = .ok (.iload_n 1, 1) := dk_27 hN_cX11_look rfl rfl
theorem dX11_look_6 : decode cX11_look 6 = .ok (.invokevirtual 244, 3) := dk_182 hN_cX11_look rfl rfl rfl
theorem dX11_look_9 : decode cX11_look 9 = .ok (.ifCond .eq 23, 3) := dk_153 hN_cX11_look rfl rfl rfl
theorem dX11_look_32 : decode cX11_look 32 = .ok (.aload_n 0, 1) := dk_42 hN_cX11_look rfl rfl
theorem dX11_look_33 : decode cX11_look 33 = .ok (.iconst 1, 1) := dk_4 hN_cX11_look rfl rfl
theorem dX11_look_34 : decode cX11_look 34 = .ok (.invokevirtual 177, 3) := dk_182 hN_cX11_look rfl rfl rfl
theorem dX11_look_37 : decode cX11_look 37 = .ok (.ireturn, 1) := dk_172 hN_cX11_look rfl rfl
theorem dX11_look_12 : decode cX11_look 12 = .ok (.aload_n 0, 1) := dk_42 hN_cX11_look rfl rfl
theorem dX11_look_13 : decode cX11_look 13 = .ok (.getfield 20, 3) := dk_180 hN_cX11_look rfl rfl rfl
theorem dX11_look_16 : decode cX11_look 16 = .ok (.iload_n 2, 1) := dk_28 hN_cX11_look rfl rfl
theorem dX11_look_17 : decode cX11_look 17 = .ok (.ifCond .eq 8, 3) := dk_153 hN_cX11_look rfl rfl rfl
theorem dX11_look_25 : decode cX11_look 25 = .ok (.iconst 1, 1) := dk_4 hN_cX11_look rfl rfl
theorem dX11_look_26 : decode cX11_look 26 = .ok (.iload_n 1, 1) := dk_27 hN_cX11_look rfl rfl
theorem dX11_look_27 : decode cX11_look 27 = .ok (.iadd, 1) := dk_96 hN_cX11_look rfl rfl
theorem dX11_look_28 : decode cX11_look 28 = .ok (.iaload, 1) := dk_46 hN_cX11_look rfl rfl
theorem dX11_look_29 : decode cX11_look 29 = .ok (.goto 8, 3) := dk_167 hN_cX11_look rfl rfl rfl
theorem dX11_look_20 : decode cX11_look 20 = .ok (.bipush 9, 2) := dk_16 hN_cX11_look rfl rfl rfl
theorem dX11_look_22 : decode cX11_look 22 = .ok (.goto 4, 3) := dk_167 hN_cX11_look rfl rfl rfl
theorem dX11_coins_0 : decode cX11_coins 0 = .ok (.aload_n 0, 1) := dk_42 hN_cX11_coins rfl rfl
theorem dX11_coins_1 : decode cX11_coins 1 = .ok (.invokevirtual 174, 3) := dk_182 hN_cX11_coins rfl rfl rfl
theorem dX11_coins_4 : decode cX11_coins 4 = .ok (.aload_n 0, 1) := dk_42 hN_cX11_coins rfl rfl
theorem dX11_coins_5 : decode cX11_coins 5 = .ok (.iload_n 1, 1) := dk_27 hN_cX11_coins rfl rfl
theorem dX11_coins_6 : decode cX11_coins 6 = .ok (.iload_n 2, 1) := dk_28 hN_cX11_coins rfl rfl
theorem dX11_coins_7 : decode cX11_coins 7 = .ok (.invokevirtual 305, 3) := dk_182 hN_cX11_coins rfl rfl rfl
theorem dX11_coins_10 : decode cX11_coins 10 = .ok (.ifCond .eq 16, 3) := dk_153 hN_cX11_coins rfl rfl rfl
theorem dX11_coins_26 : decode cX11_coins 26 = .ok (.aload_n 0, 1) := dk_42 hN_cX11_coins rfl rfl
theorem dX11_coins_27 : decode cX11_coins 27 = .ok (.iconst 1, 1) := dk_4 hN_cX11_coins rfl rfl
theorem dX11_coins_28 : decode cX11_coins 28 = .ok (.invokevirtual 177, 3) := dk_182 hN_cX11_coins rfl rfl rfl
theorem dX11_coins_31 : decode cX11_coins 31 = .ok (.ireturn, 1) := dk_172 hN_cX11_coins rfl rfl
theorem dX11_coins_13 : decode cX11_coins 13 = .ok (.aload_n 0, 1) := dk_42 hN_cX11_coins rfl rfl
theorem dX11_coins_14 : decode cX11_coins 14 = .ok (.getfield 26, 3) := dk_180 hN_cX11_coins rfl rfl rfl
theorem dX11_coins_17 : decode cX11_coins 17 = .ok (.iconst 4, 1) := dk_7 hN_cX11_coins rfl rfl
theorem dX11_coins_18 : decode cX11_coins 18 = .ok (.iload_n 1, 1) := dk_27 hN_cX11_coins rfl rfl
theorem dX11_coins_19 : decode cX11_coins 19 = .ok (.imul, 1) := dk_104 hN_cX11_coins rfl rfl
theorem dX11_coins_20 : decode cX11_coins 20 = .ok (.iload_n 2, 1) := dk_28 hN_cX11_coins rfl rfl
theorem dX11_coins_21 : decode cX11_coins 21 = .ok (.iadd, 1) := dk_96 hN_cX11_coins rfl rfl
theorem dX11_coins_22 : decode cX11_coins 22 = .ok (.iaload, 1) := dk_46 hN_cX11_coins rfl rfl
theorem dX11_coins_23 : decode cX11_coins 23 = .ok (.goto 8, 3) := dk_167 hN_cX11_coins rfl rfl rfl
theorem dX11_led_0 : decode cX11_led 0 = .ok (.iconst 0, 1) := dk_3 hN_cX11_led rfl rfl
theorem dX11_led_1 : decode cX11_led 1 = .ok (.istore_n 2, 1) := dk_61 hN_cX11_led rfl rfl
theorem dX11_led_2 : decode cX11_led 2 = .ok (.iconst 0, 1) := dk_3 hN_cX11_led rfl rfl
theorem dX11_led_3 : decode cX11_led 3 = .ok (.istore_n 3, 1) := dk_62 hN_cX11_led rfl rfl
theorem dX11_led_4 : decode cX11_led 4 = .ok (.aload_n 0, 1) := dk_42 hN_cX11_led rfl rfl
theorem dX11_led_5 : decode cX11_led 5 = .ok (.getfield 183, 3) := dk_180 hN_cX11_led rfl rfl rfl
theorem dX11_led_8 : decode cX11_led 8 = .ok (.ifCond .eq 91, 3) := dk_153 hN_cX11_led rfl rfl rfl
theorem dX11_led_99 : decode cX11_led 99 = .ok (.aload_n 0, 1) := dk_42 hN_cX11_led rfl rfl
theorem dX11_led_100 : decode cX11_led 100 = .ok (.iconst 1, 1) := dk_4 hN_cX11_led rfl rfl
theorem dX11_led_101 : decode cX11_led 101 = .ok (.putfield 69, 3) := dk_181 hN_cX11_led rfl rfl rfl
theorem dX11_led_104 : decode cX11_led 104 = .ok (.iconst 0, 1) := dk_3 hN_cX11_led rfl rfl
theorem dX11_led_105 : decode cX11_led 105 = .ok (.ireturn, 1) := dk_172 hN_cX11_led rfl rfl
theorem dX11_led_11 : decode cX11_led 11 = .ok (.iload_n 3, 1) := dk_29 hN_cX11_led rfl rfl
theorem dX11_led_12 : decode cX11_led 12 = .ok (.aload_n 0, 1) := dk_42 hN_cX11_led rfl rfl
theorem dX11_led_13 : decode cX11_led 13 = .ok (.getfield 20, 3) := dk_180 hN_cX11_led rfl rfl rfl
theorem dX11_led_16 : decode cX11_led 16 = .ok (.iconst 0, 1) := dk_3 hN_cX11_led rfl rfl
theorem dX11_led_17 : decode cX11_led 17 = .ok (.iaload, 1) := dk_46 hN_cX11_led rfl rfl
theorem dX11_led_18 : decode cX11_led 18 = .ok (.if_icmp .ge 81, 3) := dk_162 hN_cX11_led rfl rfl rfl
theorem dX11_led_21 : decode cX11_led 21 = .ok (.iconst 0, 1) := dk_3 hN_cX11_led rfl rfl
theorem dX11_led_22 : decode cX11_led 22 = .ok (.istore 4, 2) := dk_54 hN_cX11_led rfl rfl rfl
theorem dX11_led_24 : decode cX11_led 24 = .ok (.iload 4, 2) := dk_21 hN_cX11_led rfl rfl rfl
theorem dX11_led_26 : decode cX11_led 26 = .ok (.aload_n 0, 1) := dk_42 hN_cX11_led rfl rfl
theorem dX11_led_27 : decode cX11_led 27 = .ok (.getfield 20, 3) := dk_180 hN_cX11_led rfl rfl rfl
theorem dX11_led_30 : decode cX11_led 30 = .ok (.iload_n 3, 1) := dk_29 hN_cX11_led rfl rfl
theorem dX11_led_31 : decode cX11_led 31 = .ok (.invokestatic 247, 3) := dk_184 hN_cX11_led rfl rfl rfl
theorem dX11_led_34 : decode cX11_led 34 = .ok (.if_icmp .ge 59, 3) := dk_162 hN_cX11_led rfl rfl rfl
theorem dX11_led_93 : decode cX11_led 93 = .ok (.iinc 3 1, 3) := dk_132 hN_cX11_led rfl rfl rfl rfl
theorem dX11_led_96 : decode cX11_led 96 = .ok (.goto (-92), 3) := dk_167 hN_cX11_led rfl rfl rfl
theorem dX11_led_37 : decode cX11_led 37 = .ok (.aload_n 0, 1) := dk_42 hN_cX11_led rfl rfl
theorem dX11_led_38 : decode cX11_led 38 = .ok (.getfield 20, 3) := dk_180 hN_cX11_led rfl rfl rfl
theorem dX11_led_41 : decode cX11_led 41 = .ok (.bipush 17, 2) := dk_16 hN_cX11_led rfl rfl rfl
theorem dX11_led_43 : decode cX11_led 43 = .ok (.iconst 4, 1) := dk_7 hN_cX11_led rfl rfl
theorem dX11_led_44 : decode cX11_led 44 = .ok (.iload_n 3, 1) := dk_29 hN_cX11_led rfl rfl
theorem dX11_led_45 : decode cX11_led 45 = .ok (.imul, 1) := dk_104 hN_cX11_led rfl rfl
theorem dX11_led_46 : decode cX11_led 46 = .ok (.iadd, 1) := dk_96 hN_cX11_led rfl rfl
theorem dX11_led_47 : decode cX11_led 47 = .ok (.iload 4, 2) := dk_21 hN_cX11_led rfl rfl rfl
theorem dX11_led_49 : decode cX11_led 49 = .ok (.iadd, 1) := dk_96 hN_cX11_led rfl rfl
theorem dX11_led_50 : decode cX11_led 50 = .ok (.iaload, 1) := dk_46 hN_cX11_led rfl rfl
theorem dX11_led_51 : decode cX11_led 51 = .ok (.ifCond .eq 36, 3) := dk_153 hN_cX11_led rfl rfl rfl
theorem dX11_led_87 : decode cX11_led 87 = .ok (.iinc 4 1, 3) := dk_132 hN_cX11_led rfl rfl rfl rfl
theorem dX11_led_90 : decode cX11_led 90 = .ok (.goto (-66), 3) := dk_167 hN_cX11_led rfl rfl rfl
theorem dX11_led_54 : decode cX11_led 54 = .ok (.aload_n 0, 1) := dk_42 hN_cX11_led rfl rfl
theorem dX11_led_55 : decode cX11_led 55 = .ok (.iload_n 3, 1) := dk_29 hN_cX11_led rfl rfl
theorem dX11_led_56 : decode cX11_led 56 = .ok (.iload 4, 2) := dk_21 hN_cX11_led rfl rfl rfl
theorem dX11_led_58 : decode cX11_led 58 = .ok (.invokevirtual 308, 3) := dk_182 hN_cX11_led rfl rfl rfl
theorem dX11_led_61 : decode cX11_led 61 = .ok (.ifCond .eq 6, 3) := dk_153 hN_cX11_led rfl rfl rfl
theorem dX11_led_67 : decode cX11_led 67 = .ok (.iload_n 2, 1) := dk_28 hN_cX11_led rfl rfl
theorem dX11_led_68 : decode cX11_led 68 = .ok (.iload_n 1, 1) := dk_27 hN_cX11_led rfl rfl
theorem dX11_led_69 : decode cX11_led 69 = .ok (.if_icmp .ne 15, 3) := dk_160 hN_cX11_led rfl rfl rfl
theorem dX11_led_84 : decode cX11_led 84 = .ok (.iinc 2 1, 3) := dk_132 hN_cX11_led rfl rfl rfl rfl
theorem dX11_led_72 : decode cX11_led 72 = .ok (.aload_n 0, 1) := dk_42 hN_cX11_led rfl rfl
theorem dX11_led_73 : decode cX11_led 73 = .ok (.iconst 0, 1) := dk_3 hN_cX11_led rfl rfl
theorem dX11_led_74 : decode cX11_led 74 = .ok (.putfield 69, 3) := dk_181 hN_cX11_led rfl rfl rfl
theorem dX11_led_77 : decode cX11_led 77 = .ok (.iconst 4, 1) := dk_7 hN_cX11_led rfl rfl
theorem dX11_led_78 : decode cX11_led 78 = .ok (.iload_n 3, 1) := dk_29 hN_cX11_led rfl rfl
theorem dX11_led_79 : decode cX11_led 79 = .ok (.imul, 1) := dk_104 hN_cX11_led rfl rfl
theorem dX11_led_80 : decode cX11_led 80 = .ok (.iload 4, 2) := dk_21 hN_cX11_led rfl rfl rfl
theorem dX11_led_82 : decode cX11_led 82 = .ok (.iadd, 1) := dk_96 hN_cX11_led rfl rfl
theorem dX11_led_83 : decode cX11_led 83 = .ok (.ireturn, 1) := dk_172 hN_cX11_led rfl rfl
theorem dX11_led_64 : decode cX11_led 64 = .ok (.goto 23, 3) := dk_167 hN_cX11_led rfl rfl rfl
theorem dX11_size_0 : decode cX11_size 0 = .ok (.aload_n 0, 1) := dk_42 hN_cX11_size rfl rfl
theorem dX11_size_1 : decode cX11_size 1 = .ok (.iconst 0, 1) := dk_3 hN_cX11_size rfl rfl
theorem dX11_size_2 : decode cX11_size 2 = .ok (.putfield 69, 3) := dk_181 hN_cX11_size rfl rfl rfl
theorem dX11_size_5 : decode cX11_size 5 = .ok (.iload_n 1, 1) := dk_27 hN_cX11_size rfl rfl
theorem dX11_size_6 : decode cX11_size 6 = .ok (.bipush 10, 2) := dk_16 hN_cX11_size rfl rfl rfl
theorem dX11_size_8 : decode cX11_size 8 = .ok (.if_icmp .ne 8, 3) := dk_160 hN_cX11_size rfl rfl rfl
theorem dX11_size_16 : decode cX11_size 16 = .ok (.aload_n 0, 1) := dk_42 hN_cX11_size rfl rfl
theorem dX11_size_17 : decode cX11_size 17 = .ok (.getfield 183, 3) := dk_180 hN_cX11_size rfl rfl rfl
theorem dX11_size_20 : decode cX11_size 20 = .ok (.ifCond .ne 19, 3) := dk_154 hN_cX11_size rfl rfl rfl
theorem dX11_size_39 : decode cX11_size 39 = .ok (.iload_n 1, 1) := dk_27 hN_cX11_size rfl rfl
theorem dX11_size_40 : decode cX11_size 40 = .ok (.tableswitch 127 0 9 #[56, 64, 72, 79, 87, 95, 104, 112, 117, 122], 56) := by decide +kernel
theorem dX11_size_167 : decode cX11_size 167 = .ok (.iconst (-1), 1) := dk_2 hN_cX11_size rfl rfl
theorem dX11_size_168 : decode cX11_size 168 = .ok (.ireturn, 1) := dk_172 hN_cX11_size rfl rfl
theorem dX11_size_96 : decode cX11_size 96 = .ok (.aload_n 0, 1) := dk_42 hN_cX11_size rfl rfl
theorem dX11_size_97 : decode cX11_size 97 = .ok (.getfield 20, 3) := dk_180 hN_cX11_size rfl rfl rfl
theorem dX11_size_100 : decode cX11_size 100 = .ok (.bipush 50, 2) := dk_16 hN_cX11_size rfl rfl rfl
theorem dX11_size_102 : decode cX11_size 102 = .ok (.iaload, 1) := dk_46 hN_cX11_size rfl rfl
theorem dX11_size_103 : decode cX11_size 103 = .ok (.ireturn, 1) := dk_172 hN_cX11_size rfl rfl
theorem dX11_size_104 : decode cX11_size 104 = .ok (.aload_n 0, 1) := dk_42 hN_cX11_size rfl rfl
theorem dX11_size_105 : decode cX11_size 105 = .ok (.getfield 20, 3) := dk_180 hN_cX11_size rfl rfl rfl
theorem dX11_size_108 : decode cX11_size 108 = .ok (.bipush 51, 2) := dk_16 hN_cX11_size rfl rfl rfl
theorem dX11_size_110 : decode cX11_size 110 = .ok (.iaload, 1) := dk_46 hN_cX11_size rfl rfl
theorem dX11_size_111 : decode cX11_size 111 = .ok (.ireturn, 1) := dk_172 hN_cX11_size rfl rfl
theorem dX11_size_112 : decode cX11_size 112 = .ok (.aload_n 0, 1) := dk_42 hN_cX11_size rfl rfl
theorem dX11_size_113 : decode cX11_size 113 = .ok (.getfield 20, 3) := dk_180 hN_cX11_size rfl rfl rfl
theorem dX11_size_116 : decode cX11_size 116 = .ok (.iconst 0, 1) := dk_3 hN_cX11_size rfl rfl
theorem dX11_size_117 : decode cX11_size 117 = .ok (.iaload, 1) := dk_46 hN_cX11_size rfl rfl
theorem dX11_size_118 : decode cX11_size 118 = .ok (.ireturn, 1) := dk_172 hN_cX11_size rfl rfl
theorem dX11_size_119 : decode cX11_size 119 = .ok (.aload_n 0, 1) := dk_42 hN_cX11_size rfl rfl
theorem dX11_size_120 : decode cX11_size 120 = .ok (.getfield 20, 3) := dk_180 hN_cX11_size rfl rfl rfl
theorem dX11_size_123 : decode cX11_size 123 = .ok (.bipush 52, 2) := dk_16 hN_cX11_size rfl rfl rfl
theorem dX11_size_125 : decode cX11_size 125 = .ok (.iaload, 1) := dk_46 hN_cX11_size rfl rfl
theorem dX11_size_126 : decode cX11_size 126 = .ok (.ireturn, 1) := dk_172 hN_cX11_size rfl rfl
theorem dX11_size_127 : decode cX11_size 127 = .ok (.aload_n 0, 1) := dk_42 hN_cX11_size rfl rfl
theorem dX11_size_128 : decode cX11_size 128 = .ok (.getfield 20, 3) := dk_180 hN_cX11_size rfl rfl rfl
theorem dX11_size_131 : decode cX11_size 131 = .ok (.bipush 85, 2) := dk_16 hN_cX11_size rfl rfl rfl
theorem dX11_size_133 : decode cX11_size 133 = .ok (.iaload, 1) := dk_46 hN_cX11_size rfl rfl
theorem dX11_size_134 : decode cX11_size 134 = .ok (.ireturn, 1) := dk_172 hN_cX11_size rfl rfl
theorem dX11_size_135 : decode cX11_size 135 = .ok (.aload_n 0, 1) := dk_42 hN_cX11_size rfl rfl
theorem dX11_size_136 : decode cX11_size 136 = .ok (.getfield 20, 3) := dk_180 hN_cX11_size rfl rfl rfl
theorem dX11_size_139 : decode cX11_size 139 = .ok (.sipush 158, 3) := dk_17 hN_cX11_size rfl rfl rfl
theorem dX11_size_142 : decode cX11_size 142 = .ok (.iaload, 1) := dk_46 hN_cX11_size rfl rfl
theorem dX11_size_143 : decode cX11_size 143 = .ok (.ireturn, 1) := dk_172 hN_cX11_size rfl rfl
theorem dX11_size_144 : decode cX11_size 144 = .ok (.aload_n 0, 1) := dk_42 hN_cX11_size rfl rfl
theorem dX11_size_145 : decode cX11_size 145 = .ok (.getfield 20, 3) := dk_180 hN_cX11_size rfl rfl rfl
theorem dX11_size_148 : decode cX11_size 148 = .ok (.bipush 49, 2) := dk_16 hN_cX11_size rfl rfl rfl
theorem dX11_size_150 : decode cX11_size 150 = .ok (.iaload, 1) := dk_46 hN_cX11_size rfl rfl
theorem dX11_size_151 : decode cX11_size 151 = .ok (.ireturn, 1) := dk_172 hN_cX11_size rfl rfl
theorem dX11_size_152 : decode cX11_size 152 = .ok (.aload_n 0, 1) := dk_42 hN_cX11_size rfl rfl
theorem dX11_size_153 : decode cX11_size 153 = .ok (.getfield 189, 3) := dk_180 hN_cX11_size rfl rfl rfl
theorem dX11_size_156 : decode cX11_size 156 = .ok (.ireturn, 1) := dk_172 hN_cX11_size rfl rfl
theorem dX11_size_157 : decode cX11_size 157 = .ok (.aload_n 0, 1) := dk_42 hN_cX11_size rfl rfl
theorem dX11_size_158 : decode cX11_size 158 = .ok (.getfield 192, 3) := dk_180 hN_cX11_size rfl rfl rfl
theorem dX11_size_161 : decode cX11_size 161 = .ok (.ireturn, 1) := dk_172 hN_cX11_size rfl rfl
theorem dX11_size_162 : decode cX11_size 162 = .ok (.aload_n 0, 1) := dk_42 hN_cX11_size rfl rfl
theorem dX11_size_163 : decode cX11_size 163 = .ok (.getfield 195, 3) := dk_180 hN_cX11_size rfl rfl rfl
theorem dX11_size_166 : decode cX11_size 166 = .ok (.ireturn, 1) := dk_172 hN_cX11_size rfl rfl
theorem dX11_size_23 : decode cX11_size 23 = .ok (.iload_n 1, 1) := dk_27 hN_cX11_size rfl rfl
theorem dX11_size_24 : decode cX11_size 24 = .ok (.iconst 0, 1) := dk_3 hN_cX11_size rfl rfl
theorem dX11_size_25 : decode cX11_size 25 = .ok (.bipush 9, 2) := dk_16 hN_cX11_size rfl rfl rfl
theorem dX11_size_27 : decode cX11_size 27 = .ok (.invokestatic 170, 3) := dk_184 hN_cX11_size rfl rfl rfl
theorem dX11_size_30 : decode cX11_size 30 = .ok (.ifCond .eq 7, 3) := dk_153 hN_cX11_size rfl rfl rfl
theorem dX11_size_37 : decode cX11_size 37 = .ok (.iconst (-1), 1) := dk_2 hN_cX11_size rfl rfl
theorem dX11_size_38 : decode cX11_size 38 = .ok (.ireturn, 1) := dk_172 hN_cX11_size rfl rfl
theorem dX11_size_33 : decode cX11_size 33 = .ok (.iconst 0, 1) := dk_3 hN_cX11_size rfl rfl
theorem dX11_size_34 : decode cX11_size 34 = .ok (.goto 4, 3) := dk_167 hN_cX11_size rfl rfl rfl
theorem dX11_size_11 : decode cX11_size 11 = .ok (.aload_n 0, 1) := dk_42 hN_cX11_size rfl rfl
theorem dX11_size_12 : decode cX11_size 12 = .ok (.getfield 75, 3) := dk_180 hN_cX11_size rfl rfl rfl
theorem dX11_size_15 : decode cX11_size 15 = .ok (.ireturn, 1) := dk_172 hN_cX11_size rfl rfl
theorem dX11_trouble_0 : decode cX11_trouble 0 = .ok (.aload_n 0, 1) := dk_42 hN_cX11_trouble rfl rfl
theorem dX11_trouble_1 : decode cX11_trouble 1 = .ok (.iconst 0, 1) := dk_3 hN_cX11_trouble rfl rfl
theorem dX11_trouble_2 : decode cX11_trouble 2 = .ok (.putfield 69, 3) := dk_181 hN_cX11_trouble rfl rfl rfl
theorem dX11_trouble_5 : decode cX11_trouble 5 = .ok (.aload_n 0, 1) := dk_42 hN_cX11_trouble rfl rfl
theorem dX11_trouble_6 : decode cX11_trouble 6 = .ok (.getfield 72, 3) := dk_180 hN_cX11_trouble rfl rfl rfl
theorem dX11_trouble_9 : decode cX11_trouble 9 = .ok (.ireturn, 1) := dk_172 hN_cX11_trouble rfl rfl
