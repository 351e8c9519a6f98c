theorem dX0_init_0 : decode cX0_init 0 = .ok (.aload_n 0, 1) := by decide +kernel
theorem dX0_init_1 : decode cX0_init 1 = .ok (.invokespecial 5, 3) := by decide +kernel
theorem dX0_init_4 : decode cX0_init 4 = .ok (.aload_n 0, 1) := by decide +kernel
theorem dX0_init_5 : decode cX0_init 5 = .ok (.bipush 34, 2) := by decide +kernel
theorem dX0_init_7 : decode cX0_init 7 = .ok (.bipush 65, 2) := by decide +kernel
theorem dX0_init_9 : decode cX0_init 9 = .ok (.multianewarray 11 2, 4) := by decide +kernel
theorem dX0_init_13 : decode cX0_init 13 = .ok (.putfield 13, 3) := by decide +kernel
theorem dX0_init_16 : decode cX0_init 16 = .ok (.aload_n 0, 1) := by decide +kernel
theorem dX0_init_17 : decode cX0_init 17 = .ok (.bipush 32, 2) := by decide +kernel
theorem dX0_init_19 : decode cX0_init 19 = .ok (.newarray .int, 2) := by decide +kernel
theorem dX0_init_21 : decode cX0_init 21 = .ok (.putfield 16, 3) := by decide +kernel
theorem dX0_init_24 : decode cX0_init 24 = .ok (.aload_n 0, 1) := by decide +kernel
theorem dX0_init_25 : decode cX0_init 25 = .ok (.bipush 64, 2) := by decide +kernel
theorem dX0_init_27 : decode cX0_init 27 = .ok (.newarray .int, 2) := by decide +kernel
theorem dX0_init_29 : decode cX0_init 29 = .ok (.putfield 20, 3) := by decide +kernel
theorem dX0_init_32 : decode cX0_init 32 = .ok (.aload_n 0, 1) := by decide +kernel
theorem dX0_init_33 : decode cX0_init 33 = .ok (.lconst 1, 1) := by decide +kernel
theorem dX0_init_34 : decode cX0_init 34 = .ok (.putfield 23, 3) := by decide +kernel
theorem dX0_init_37 : decode cX0_init 37 = .ok (.aload_n 0, 1) := by decide +kernel
theorem dX0_init_38 : decode cX0_init 38 = .ok (.aload_n 1, 1) := by decide +kernel
theorem dX0_init_39 : decode cX0_init 39 = .ok (.putfield 27, 3) := by decide +kernel
theorem dX0_init_42 : decode cX0_init 42 = .ok (.aload_n 0, 1) := by decide +kernel
theorem dX0_init_43 : decode cX0_init 43 = .ok (.aload_n 2, 1) := by decide +kernel
theorem dX0_init_44 : decode cX0_init 44 = .ok (.putfield 31, 3) := by decide +kernel
theorem dX0_init_47 : decode cX0_init 47 = .ok (.aload_n 0, 1) := by decide +kernel
theorem dX0_init_48 : decode cX0_init 48 = .ok (.aload_n 1, 1) := by decide +kernel
theorem dX0_init_49 : decode cX0_init 49 = .ok (.getfield 35, 3) := by decide +kernel
theorem dX0_init_52 : decode cX0_init 52 = .ok (.iconst 1, 1) := by decide +kernel
theorem dX0_init_53 : decode cX0_init 53 = .ok (.isub, 1) := by decide +kernel
theorem dX0_init_54 : decode cX0_init 54 = .ok (.putfield 41, 3) := by decide +kernel
theorem dX0_init_57 : decode cX0_init 57 = .ok (.return_, 1) := by decide +kernel
theorem dX1_init_0 : decode cX1_init 0 = .ok (.aload_n 0, 1) := by decide +kernel
theorem dX1_init_1 : decode cX1_init 1 = .ok (.invokespecial 3, 3) := by decide +kernel
theorem dX1_init_4 : decode cX1_init 4 = .ok (.aload_n 0, 1) := by decide +kernel
theorem dX1_init_5 : decode cX1_init 5 = .ok (.bipush 8, 2) := by decide +kernel
theorem dX1_init_7 : decode cX1_init 7 = .ok (.newarray .int, 2) := by decide +kernel
theorem dX1_init_9 : decode cX1_init 9 = .ok (.putfield 9, 3) := by decide +kernel
theorem dX1_init_12 : decode cX1_init 12 = .ok (.aload_n 0, 1) := by decide +kernel
theorem dX1_init_13 : decode cX1_init 13 = .ok (.bipush 8, 2) := by decide +kernel
theorem dX1_init_15 : decode cX1_init 15 = .ok (.newarray .int, 2) := by decide +kernel
theorem dX1_init_17 : decode cX1_init 17 = .ok (.putfield 15, 3) := by decide +kernel
theorem dX1_init_20 : decode cX1_init 20 = .ok (.aload_n 0, 1) := by decide +kernel
theorem dX1_init_21 : decode cX1_init 21 = .ok (.bipush 32, 2) := by decide +kernel
theorem dX1_init_23 : decode cX1_init 23 = .ok (.newarray .int, 2) := by decide +kernel
theorem dX1_init_25 : decode cX1_init 25 = .ok (.putfield 18, 3) := by decide +kernel
theorem dX1_init_28 : decode cX1_init 28 = .ok (.aload_n 0, 1) := by decide +kernel
theorem dX1_init_29 : decode cX1_init 29 = .ok (.bipush 8, 2) := by decide +kernel
theorem dX1_init_31 : decode cX1_init 31 = .ok (.newarray .int, 2) := by decide +kernel
theorem dX1_init_33 : decode cX1_init 33 = .ok (.putfield 21, 3) := by decide +kernel
theorem dX1_init_36 : decode cX1_init 36 = .ok (.aload_n 0, 1) := by decide +kernel
theorem dX1_init_37 : decode cX1_init 37 = .ok (.bipush 8, 2) := by decide +kernel
theorem dX1_init_39 : decode cX1_init 39 = .ok (.newarray .int, 2) := by decide +kernel
theorem dX1_init_41 : decode cX1_init 41 = .ok (.putfield 24, 3) := by decide +kernel
theorem dX1_init_44 : decode cX1_init 44 = .ok (.aload_n 0, 1) := by decide +kernel
theorem dX1_init_45 : decode cX1_init 45 = .ok (.bipush 72, 2) := by decide +kernel
theorem dX1_init_47 : decode cX1_init 47 = .ok (.newarray .int, 2) := by decide +kernel
theorem dX1_init_49 : decode cX1_init 49 = .ok (.putfield 27, 3) := by decide +kernel
theorem dX1_init_52 : decode cX1_init 52 = .ok (.aload_n 0, 1) := by decide +kernel
theorem dX1_init_53 : decode cX1_init 53 = .ok (.iconst 4, 1) := by decide +kernel
theorem dX1_init_54 : decode cX1_init 54 = .ok (.newarray .int, 2) := by decide +kernel
theorem dX1_init_56 : decode cX1_init 56 = .ok (.putfield 30, 3) := by decide +kernel
theorem dX1_init_59 : decode cX1_init 59 = .ok (.aload_n 0, 1) := by decide +kernel
theorem dX1_init_60 : decode cX1_init 60 = .ok (.bipush 24, 2) := by decide +kernel
theorem dX1_init_62 : decode cX1_init 62 = .ok (.newarray .int, 2) := by decide +kernel
theorem dX1_init_64 : decode cX1_init 64 = .ok (.putfield 33, 3) := by decide +kernel
theorem dX1_init_67 : decode cX1_init 67 = .ok (.aload_n 0, 1) := by decide +kernel
theorem dX1_init_68 : decode cX1_init 68 = .ok (.bipush 24, 2) := by decide +kernel
theorem dX1_init_70 : decode cX1_init 70 = .ok (.newarray .int, 2) := by decide +kernel
theorem dX1_init_72 : decode cX1_init 72 = .ok (.putfield 36, 3) := by decide +kernel
theorem dX1_init_75 : decode cX1_init 75 = .ok (.return_, 1) := by decide +kernel
theorem dX1_clear_0 : decode cX1_clear 0 = .ok (.aload_n 0, 1) := by decide +kernel
theorem dX1_clear_1 : decode cX1_clear 1 = .ok (.iconst 0, 1) := by decide +kernel
theorem dX1_clear_2 : decode cX1_clear 2 = .ok (.putfield 39, 3) := by decide +kernel
theorem dX1_clear_5 : decode cX1_clear 5 = .ok (.aload_n 0, 1) := by decide +kernel
theorem dX1_clear_6 : decode cX1_clear 6 = .ok (.iconst 0, 1) := by decide +kernel
theorem dX1_clear_7 : decode cX1_clear 7 = .ok (.putfield 43, 3) := by decide +kernel
theorem dX1_clear_10 : decode cX1_clear 10 = .ok (.aload_n 0, 1) := by decide +kernel
theorem dX1_clear_11 : decode cX1_clear 11 = .ok (.iconst 0, 1) := by decide +kernel
theorem dX1_clear_12 : decode cX1_clear 12 = .ok (.putfield 46, 3) := by decide +kernel
theorem dX1_clear_15 : decode cX1_clear 15 = .ok (.aload_n 0, 1) := by decide +kernel
theorem dX1_clear_16 : decode cX1_clear 16 = .ok (.iconst 0, 1) := by decide +kernel
theorem dX1_clear_17 : decode cX1_clear 17 = .ok (.putfield 49, 3) := by decide +kernel
theorem dX1_clear_20 : decode cX1_clear 20 = .ok (.aload_n 0, 1) := by decide +kernel
theorem dX1_clear_21 : decode cX1_clear 21 = .ok (.iconst 0, 1) := by decide +kernel
theorem dX1_clear_22 : decode cX1_clear 22 = .ok (.putfield 52, 3) := by decide +kernel
theorem dX1_clear_25 : decode cX1_clear 25 = .ok (.aload_n 0, 1) := by decide +kernel
theorem dX1_clear_26 : decode cX1_clear 26 = .ok (.iconst 0, 1) := by decide +kernel
theorem dX1_clear_27 : decode cX1_clear 27 = .ok (.putfield 55, 3) := by decide +kernel
theorem dX1_clear_30 : decode cX1_clear 30 = .ok (.aload_n 0, 1) := by decide +kernel
theorem dX1_clear_31 : decode cX1_clear 31 = .ok (.iconst 0, 1) := by decide +kernel
theorem dX1_clear_32 : decode cX1_clear 32 = .ok (.putfield 58, 3) := by decide +kernel
theorem dX1_clear_35 : decode cX1_clear 35 = .ok (.iconst 0, 1) := by decide +kernel
theorem dX1_clear_36 : decode cX1_clear 36 = .ok (.istore_n 1, 1) := by decide +kernel
theorem dX1_clear_37 : decode cX1_clear 37 = .ok (.iload_n 1, 1) := by decide +kernel
theorem dX1_clear_38 : decode cX1_clear 38 = .ok (.aload_n 0, 1) := by decide +kernel
theorem dX1_clear_39 : decode cX1_clear 39 = .ok (.getfield 18, 3) := by decide +kernel
theorem dX1_clear_42 : decode cX1_clear 42 = .ok (.arraylength, 1) := by decide +kernel
theorem dX1_clear_43 : decode cX1_clear 43 = .ok (.if_icmp .ge 16, 3) := by decide +kernel
theorem dX1_clear_46 : decode cX1_clear 46 = .ok (.aload_n 0, 1) := by decide +kernel
theorem dX1_clear_47 : decode cX1_clear 47 = .ok (.getfield 18, 3) := by decide +kernel
theorem dX1_clear_50 : decode cX1_clear 50 = .ok (.iload_n 1, 1) := by decide +kernel
theorem dX1_clear_51 : decode cX1_clear 51 = .ok (.iconst 0, 1) := by decide +kernel
theorem dX1_clear_52 : decode cX1_clear 52 = .ok (.iastore, 1) := by decide +kernel
theorem dX1_clear_53 : decode cX1_clear 53 = .ok (.iinc 1 1, 3) := by decide +kernel
theorem dX1_clear_56 : decode cX1_clear 56 = .ok (.goto (-19), 3) := by decide +kernel
theorem dX1_clear_59 : decode cX1_clear 59 = .ok (.return_, 1) := by decide +kernel
theorem dX2_init_0 : decode cX2_init 0 = .ok (.aload_n 0, 1) := by decide +kernel
theorem dX2_init_1 : decode cX2_init 1 = .ok (.invokespecial 1, 3) := by decide +kernel
theorem dX2_init_4 : decode cX2_init 4 = .ok (.aload_n 0, 1) := by decide +kernel
theorem dX2_init_5 : decode cX2_init 5 = .ok (.lconst 1, 1) := by decide +kernel
theorem dX2_init_6 : decode cX2_init 6 = .ok (.putfield 7, 3) := by decide +kernel
theorem dX2_init_9 : decode cX2_init 9 = .ok (.return_, 1) := by decide +kernel
theorem dX3_init_0 : decode cX3_init 0 = .ok (.aload_n 0, 1) := by decide +kernel
theorem dX3_init_1 : decode cX3_init 1 = .ok (.invokespecial 3, 3) := by decide +kernel
theorem dX3_init_4 : decode cX3_init 4 = .ok (.aload_n 0, 1) := by decide +kernel
theorem dX3_init_5 : decode cX3_init 5 = .ok (.bipush 18, 2) := by decide +kernel
theorem dX3_init_7 : decode cX3_init 7 = .ok (.newarray .int, 2) := by decide +kernel
theorem dX3_init_9 : decode cX3_init 9 = .ok (.putfield 9, 3) := by decide +kernel
theorem dX3_init_12 : decode cX3_init 12 = .ok (.aload_n 0, 1) := by decide +kernel
theorem dX3_init_13 : decode cX3_init 13 = .ok (.sipush 400, 3) := by decide +kernel
theorem dX3_init_16 : decode cX3_init 16 = .ok (.newarray .int, 2) := by decide +kernel
theorem dX3_init_18 : decode cX3_init 18 = .ok (.putfield 15, 3) := by decide +kernel
theorem dX3_init_21 : decode cX3_init 21 = .ok (.return_, 1) := by decide +kernel
theorem dX3_hasRay_0 : decode cX3_hasRay 0 = .ok (.iload_n 1, 1) := by decide +kernel
theorem dX3_hasRay_1 : decode cX3_hasRay 1 = .ok (.ifCond .lt 15, 3) := by decide +kernel
theorem dX3_hasRay_4 : decode cX3_hasRay 4 = .ok (.iload_n 1, 1) := by decide +kernel
theorem dX3_hasRay_5 : decode cX3_hasRay 5 = .ok (.aload_n 0, 1) := by decide +kernel
theorem dX3_hasRay_6 : decode cX3_hasRay 6 = .ok (.getfield 24, 3) := by decide +kernel
theorem dX3_hasRay_9 : decode cX3_hasRay 9 = .ok (.if_icmp .ge 7, 3) := by decide +kernel
theorem dX3_hasRay_12 : decode cX3_hasRay 12 = .ok (.iconst 1, 1) := by decide +kernel
theorem dX3_hasRay_13 : decode cX3_hasRay 13 = .ok (.goto 4, 3) := by decide +kernel
theorem dX3_hasRay_16 : decode cX3_hasRay 16 = .ok (.iconst 0, 1) := by decide +kernel
theorem dX3_hasRay_17 : decode cX3_hasRay 17 = .ok (.ireturn, 1) := by decide +kernel
theorem dX4_init_0 : decode cX4_init 0 = .ok (.aload_n 0, 1) := by decide +kernel
theorem dX4_init_1 : decode cX4_init 1 = .ok (.invokespecial 3, 3) := by decide +kernel
theorem dX4_init_4 : decode cX4_init 4 = .ok (.aload_n 0, 1) := by decide +kernel
theorem dX4_init_5 : decode cX4_init 5 = .ok (.bipush 20, 2) := by decide +kernel
theorem dX4_init_7 : decode cX4_init 7 = .ok (.iconst 5, 1) := by decide +kernel
theorem dX4_init_8 : decode cX4_init 8 = .ok (.multianewarray 11 2, 4) := by decide +kernel
theorem dX4_init_12 : decode cX4_init 12 = .ok (.putfield 13, 3) := by decide +kernel
theorem dX4_init_15 : decode cX4_init 15 = .ok (.aload_n 0, 1) := by decide +kernel
theorem dX4_init_16 : decode cX4_init 16 = .ok (.bipush 21, 2) := by decide +kernel
theorem dX4_init_18 : decode cX4_init 18 = .ok (.bipush 49, 2) := by decide +kernel
theorem dX4_init_20 : decode cX4_init 20 = .ok (.multianewarray 11 2, 4) := by decide +kernel
theorem dX4_init_24 : decode cX4_init 24 = .ok (.putfield 18, 3) := by decide +kernel
theorem dX4_init_27 : decode cX4_init 27 = .ok (.aload_n 0, 1) := by decide +kernel
theorem dX4_init_28 : decode cX4_init 28 = .ok (.iconst 4, 1) := by decide +kernel
theorem dX4_init_29 : decode cX4_init 29 = .ok (.bipush 49, 2) := by decide +kernel
theorem dX4_init_31 : decode cX4_init 31 = .ok (.multianewarray 11 2, 4) := by decide +kernel
theorem dX4_init_35 : decode cX4_init 35 = .ok (.putfield 21, 3) := by decide +kernel
theorem dX4_init_38 : decode cX4_init 38 = .ok (.aload_n 0, 1) := by decide +kernel
theorem dX4_init_39 : decode cX4_init 39 = .ok (.aload_n 1, 1) := by decide +kernel
theorem dX4_init_40 : decode cX4_init 40 = .ok (.putfield 24, 3) := by decide +kernel
theorem dX4_init_43 : decode cX4_init 43 = .ok (.return_, 1) := by decide +kernel
theorem dX4_takeBack_0 : decode cX4_takeBack 0 = .ok (.aload_n 0, 1) := by decide +kernel
theorem dX4_takeBack_1 : decode cX4_takeBack 1 = .ok (.getfield 28, 3) := by decide +kernel
theorem dX4_takeBack_4 : decode cX4_takeBack 4 = .ok (.ifCond .ne 5, 3) := by decide +kernel
theorem dX4_takeBack_7 : decode cX4_takeBack 7 = .ok (.iconst 0, 1) := by decide +kernel
theorem dX4_takeBack_8 : decode cX4_takeBack 8 = .ok (.ireturn, 1) := by decide +kernel
theorem dX4_takeBack_9 : decode cX4_takeBack 9 = .ok (.aload_n 0, 1) := by decide +kernel
theorem dX4_takeBack_10 : decode cX4_takeBack 10 = .ok (.getfield 24, 3) := by decide +kernel
theorem dX4_takeBack_13 : decode cX4_takeBack 13 = .ok (.aload_n 0, 1) := by decide +kernel
theorem dX4_takeBack_14 : decode cX4_takeBack 14 = .ok (.getfield 18, 3) := by decide +kernel
theorem dX4_takeBack_17 : decode cX4_takeBack 17 = .ok (.aload_n 0, 1) := by decide +kernel
theorem dX4_takeBack_18 : decode cX4_takeBack 18 = .ok (.getfield 28, 3) := by decide +kernel
theorem dX4_takeBack_21 : decode cX4_takeBack 21 = .ok (.aaload, 1) := by decide +kernel
theorem dX4_takeBack_22 : decode cX4_takeBack 22 = .ok (.invokevirtual 41, 3) := by decide +kernel
theorem dX4_takeBack_25 : decode cX4_takeBack 25 = .ok (.aload_n 0, 1) := by decide +kernel
theorem dX4_takeBack_26 : decode cX4_takeBack 26 = .ok (.dup, 1) := by decide +kernel
theorem dX4_takeBack_27 : decode cX4_takeBack 27 = .ok (.getfield 28, 3) := by decide +kernel
theorem dX4_takeBack_30 : decode cX4_takeBack 30 = .ok (.iconst 1, 1) := by decide +kernel
theorem dX4_takeBack_31 : decode cX4_takeBack 31 = .ok (.isub, 1) := by decide +kernel
theorem dX4_takeBack_32 : decode cX4_takeBack 32 = .ok (.putfield 28, 3) := by decide +kernel
theorem dX4_takeBack_35 : decode cX4_takeBack 35 = .ok (.aload_n 0, 1) := by decide +kernel
theorem dX4_takeBack_36 : decode cX4_takeBack 36 = .ok (.getfield 24, 3) := by decide +kernel
theorem dX4_takeBack_39 : decode cX4_takeBack 39 = .ok (.aload_n 0, 1) := by decide +kernel
theorem dX4_takeBack_40 : decode cX4_takeBack 40 = .ok (.getfield 18, 3) := by decide +kernel
theorem dX4_takeBack_43 : decode cX4_takeBack 43 = .ok (.aload_n 0, 1) := by decide +kernel
theorem dX4_takeBack_44 : decode cX4_takeBack 44 = .ok (.getfield 28, 3) := by decide +kernel
theorem dX4_takeBack_47 : decode cX4_takeBack 47 = .ok (.aaload, 1) := by decide +kernel
theorem dX4_takeBack_48 : decode cX4_takeBack 48 = .ok (.invokevirtual 45, 3) := by decide +kernel
theorem dX4_takeBack_51 : decode cX4_takeBack 51 = .ok (.iconst 1, 1) := by decide +kernel
theorem dX4_takeBack_52 : decode cX4_takeBack 52 = .ok (.ireturn, 1) := by decide +kernel
theorem dX4_makeAgain_0 : decode cX4_makeAgain 0 = .ok (.aload_n 0, 1) := by decide +kernel
theorem dX4_makeAgain_1 : decode cX4_makeAgain 1 = .ok (.getfield 28, 3) := by decide +kernel
theorem dX4_makeAgain_4 : decode cX4_makeAgain 4 = .ok (.aload_n 0, 1) := by decide +kernel
theorem dX4_makeAgain_5 : decode cX4_makeAgain 5 = .ok (.getfield 32, 3) := by decide +kernel
theorem dX4_makeAgain_8 : decode cX4_makeAgain 8 = .ok (.if_icmp .lt 5, 3) := by decide +kernel
theorem dX4_makeAgain_11 : decode cX4_makeAgain 11 = .ok (.iconst 0, 1) := by decide +kernel
theorem dX4_makeAgain_12 : decode cX4_makeAgain 12 = .ok (.ireturn, 1) := by decide +kernel
theorem dX4_makeAgain_13 : decode cX4_makeAgain 13 = .ok (.aload_n 0, 1) := by decide +kernel
theorem dX4_makeAgain_14 : decode cX4_makeAgain 14 = .ok (.dup, 1) := by decide +kernel
theorem dX4_makeAgain_15 : decode cX4_makeAgain 15 = .ok (.getfield 28, 3) := by decide +kernel
theorem dX4_makeAgain_18 : decode cX4_makeAgain 18 = .ok (.iconst 1, 1) := by decide +kernel
theorem dX4_makeAgain_19 : decode cX4_makeAgain 19 = .ok (.iadd, 1) := by decide +kernel
theorem dX4_makeAgain_20 : decode cX4_makeAgain 20 = .ok (.putfield 28, 3) := by decide +kernel
theorem dX4_makeAgain_23 : decode cX4_makeAgain 23 = .ok (.aload_n 0, 1) := by decide +kernel
theorem dX4_makeAgain_24 : decode cX4_makeAgain 24 = .ok (.getfield 24, 3) := by decide +kernel
theorem dX4_makeAgain_27 : decode cX4_makeAgain 27 = .ok (.aload_n 0, 1) := by decide +kernel
theorem dX4_makeAgain_28 : decode cX4_makeAgain 28 = .ok (.getfield 18, 3) := by decide +kernel
theorem dX4_makeAgain_31 : decode cX4_makeAgain 31 = .ok (.aload_n 0, 1) := by decide +kernel
theorem dX4_makeAgain_32 : decode cX4_makeAgain 32 = .ok (.getfield 28, 3) := by decide +kernel
theorem dX4_makeAgain_35 : decode cX4_makeAgain 35 = .ok (.aaload, 1) := by decide +kernel
theorem dX4_makeAgain_36 : decode cX4_makeAgain 36 = .ok (.invokevirtual 45, 3) := by decide +kernel
theorem dX4_makeAgain_39 : decode cX4_makeAgain 39 = .ok (.iconst 1, 1) := by decide +kernel
theorem dX4_makeAgain_40 : decode cX4_makeAgain 40 = .ok (.ireturn, 1) := by decide +kernel
theorem dX4_goBack_0 : decode cX4_goBack 0 = .ok (.iload_n 1, 1) := by decide +kernel
theorem dX4_goBack_1 : decode cX4_goBack 1 = .ok (.ifCond .lt 11, 3) := by decide +kernel
theorem dX4_goBack_4 : decode cX4_goBack 4 = .ok (.iload_n 1, 1) := by decide +kernel
theorem dX4_goBack_5 : decode cX4_goBack 5 = .ok (.aload_n 0, 1) := by decide +kernel
theorem dX4_goBack_6 : decode cX4_goBack 6 = .ok (.getfield 35, 3) := by decide +kernel
theorem dX4_goBack_9 : decode cX4_goBack 9 = .ok (.if_icmp .lt 5, 3) := by decide +kernel
theorem dX4_goBack_12 : decode cX4_goBack 12 = .ok (.iconst 0, 1) := by decide +kernel
theorem dX4_goBack_13 : decode cX4_goBack 13 = .ok (.ireturn, 1) := by decide +kernel
theorem dX4_goBack_14 : decode cX4_goBack 14 = .ok (.aload_n 0, 1) := by decide +kernel
theorem dX4_goBack_15 : decode cX4_goBack 15 = .ok (.getfield 24, 3) := by decide +kernel
theorem dX4_goBack_18 : decode cX4_goBack 18 = .ok (.aload_n 0, 1) := by decide +kernel
theorem dX4_goBack_19 : decode cX4_goBack 19 = .ok (.getfield 21, 3) := by decide +kernel
theorem dX4_goBack_22 : decode cX4_goBack 22 = .ok (.iload_n 1, 1) := by decide +kernel
theorem dX4_goBack_23 : decode cX4_goBack 23 = .ok (.aaload, 1) := by decide +kernel
theorem dX4_goBack_24 : decode cX4_goBack 24 = .ok (.invokevirtual 45, 3) := by decide +kernel
theorem dX4_goBack_27 : decode cX4_goBack 27 = .ok (.aload_n 0, 1) := by decide +kernel
theorem dX4_goBack_28 : decode cX4_goBack 28 = .ok (.iconst 0, 1) := by decide +kernel
theorem dX4_goBack_29 : decode cX4_goBack 29 = .ok (.putfield 28, 3) := by decide +kernel
theorem dX4_goBack_32 : decode cX4_goBack 32 = .ok (.aload_n 0, 1) := by decide +kernel
theorem dX4_goBack_33 : decode cX4_goBack 33 = .ok (.iconst 0, 1) := by decide +kernel
theorem dX4_goBack_34 : decode cX4_goBack 34 = .ok (.putfield 32, 3) := by decide +kernel
theorem dX4_goBack_37 : decode cX4_goBack 37 = .ok (.iconst 1, 1) := by decide +kernel
theorem dX4_goBack_38 : decode cX4_goBack 38 = .ok (.ireturn, 1) := by decide +kernel
theorem dX5_init_0 : decode cX5_init 0 = .ok (.aload_n 0, 1) := by decide +kernel
theorem dX5_init_1 : decode cX5_init 1 = .ok (.invokespecial 3, 3) := by decide +kernel
theorem dX5_init_4 : decode cX5_init 4 = .ok (.aload_n 0, 1) := by decide +kernel
theorem dX5_init_5 : decode cX5_init 5 = .ok (.iconst 1, 1) := by decide +kernel
theorem dX5_init_6 : decode cX5_init 6 = .ok (.putfield 9, 3) := by decide +kernel
theorem dX5_init_9 : decode cX5_init 9 = .ok (.aload_n 0, 1) := by decide +kernel
theorem dX5_init_10 : decode cX5_init 10 = .ok (.sipush 256, 3) := by decide +kernel
theorem dX5_init_13 : decode cX5_init 13 = .ok (.newarray .boolean, 2) := by decide +kernel
theorem dX5_init_15 : decode cX5_init 15 = .ok (.putfield 15, 3) := by decide +kernel
theorem dX5_init_18 : decode cX5_init 18 = .ok (.return_, 1) := by decide +kernel
set_option maxRecDepth 20000 in
theorem ggX6_init_X1_init : GoodIn wsX6_init wsX1_init := goodIn_r _ [13, 14, 2, 3, 15, 16, 17, 18, 19, 20, 21, 22, 23, 24, 25, 26, 27, 28, 29, 30, 31, 32, 33, 34, 35, 36, 37, 38, 39, 40] (by decide +kernel) (by decide +kernel)
set_option maxRecDepth 20000 in
theorem gX6_init_X1_init_n11 : GoodIn wsX6_init (wsX1_init) := ggX6_init_X1_init
theorem dX6_init_0 : decode cX6_init 0 = .ok (.aload_n 0, 1) := by decide +kernel
theorem dX6_init_1 : decode cX6_init 1 = .ok (.invokespecial 3, 3) := by decide +kernel
theorem dX6_init_4 : decode cX6_init 4 = .ok (.aload_n 0, 1) := by decide +kernel
theorem dX6_init_5 : decode cX6_init 5 = .ok (.new 9, 3) := by decide +kernel
theorem dX6_init_8 : decode cX6_init 8 = .ok (.dup, 1) := by decide +kernel
theorem dX6_init_9 : decode cX6_init 9 = .ok (.invokespecial 11, 3) := by decide +kernel
theorem dX6_init_12 : decode cX6_init 12 = .ok (.putfield 12, 3) := by decide +kernel
theorem dX6_init_15 : decode cX6_init 15 = .ok (.aload_n 0, 1) := by decide +kernel
theorem dX6_init_16 : decode cX6_init 16 = .ok (.bipush 6, 2) := by decide +kernel
theorem dX6_init_18 : decode cX6_init 18 = .ok (.newarray .long, 2) := by decide +kernel
theorem dX6_init_20 : decode cX6_init 20 = .ok (.putfield 18, 3) := by decide +kernel
theorem dX6_init_23 : decode cX6_init 23 = .ok (.aload_n 0, 1) := by decide +kernel
theorem dX6_init_24 : decode cX6_init 24 = .ok (.bipush 9, 2) := by decide +kernel
theorem dX6_init_26 : decode cX6_init 26 = .ok (.newarray .long, 2) := by decide +kernel
theorem dX6_init_28 : decode cX6_init 28 = .ok (.putfield 22, 3) := by decide +kernel
theorem dX6_init_31 : decode cX6_init 31 = .ok (.aload_n 0, 1) := by decide +kernel
theorem dX6_init_32 : decode cX6_init 32 = .ok (.aload_n 1, 1) := by decide +kernel
theorem dX6_init_33 : decode cX6_init 33 = .ok (.putfield 25, 3) := by decide +kernel
theorem dX6_init_36 : decode cX6_init 36 = .ok (.return_, 1) := by decide +kernel
set_option maxRecDepth 20000 in
theorem ggX6_read_X1_clear : GoodIn wsX6_read wsX1_clear := goodIn_r _ [15, 16, 17, 18, 19, 20, 21, 22, 23, 194, 195, 196, 197, 198, 199, 200, 201, 202, 203, 204, 205, 206, 207, 208, 209] (by decide +kernel) (by decide +kernel)
set_option maxRecDepth 20000 in
theorem gX6_read_X1_clear : GoodIn wsX6_read (wsV RX6 29 RX1 yX1_clear wsX1_clear) := goodIn_app (goodIn_of _ (by decide +kernel)) ggX6_read_X1_clear
set_option maxRecDepth 20000 in
theorem ggX6_read_X6_next : GoodIn wsX6_read wsX6_next := goodIn_r _ [28, 10, 9, 4, 29, 30, 31, 32, 33, 34, 27, 35, 36, 37, 38, 39, 40, 41, 42, 182, 183, 184, 185, 186, 187, 188, 189, 190, 191, 192, 193] (by decide +kernel) (by decide +kernel)
set_option maxRecDepth 20000 in
theorem gX6_read_X6_next : GoodIn wsX6_read (wsV RX6 51 RX6 yX6_next wsX6_next) := goodIn_app (goodIn_of _ (by decide +kernel)) ggX6_read_X6_next
set_option maxRecDepth 20000 in
theorem ggX6_read_X6_readLine : GoodIn wsX6_read wsX6_readLine := goodIn_r _ [46, 47, 48, 49, 50, 51, 27, 52, 32, 10, 29, 4, 53, 54, 55, 56, 57, 58, 59, 60, 61, 62, 63, 64, 65, 66, 67, 68, 69, 70, 71, 72, 73, 74, 75, 76, 77, 78, 79, 80, 81, 82, 83, 84, 85, 86, 87, 88, 89, 90, 91, 92, 93, 94, 95, 96, 97, 98, 99, 100, 101, 102, 103, 104, 105, 1, 106, 31, 107, 108, 109, 110, 2, 3, 24, 25, 26, 28, 9, 30, 33, 34, 35, 36, 37, 38, 39, 40, 41, 42, 111, 112, 113, 114, 115, 116, 117, 118, 119, 120, 121, 122, 123, 124, 125, 126, 127, 128, 129, 130, 131, 132, 133, 134, 135, 136, 137, 138, 139, 140, 141, 142, 143, 144, 145, 146, 147, 148, 149, 150, 151, 152, 153, 154, 155, 156, 157, 158, 159, 160, 161, 162, 163, 164, 165, 166, 167, 168, 169, 170, 171, 172, 173, 174, 175, 176, 177, 182, 183, 184, 185, 186, 187, 188, 189, 190, 191, 192, 193, 194, 195, 196, 197, 198, 199, 200, 201, 202, 203, 204, 205, 206, 207, 208, 209] (by decide +kernel) (by decide +kernel)
set_option maxRecDepth 20000 in
theorem gX6_read_X6_readLine : GoodIn wsX6_read (wsV RX6 54 RX6 yX6_readLine wsX6_readLine) := goodIn_app (goodIn_of _ (by decide +kernel)) ggX6_read_X6_readLine
theorem dX6_read_0 : decode cX6_read 0 = .ok (.aload_n 0, 1) := by decide +kernel
theorem dX6_read_1 : decode cX6_read 1 = .ok (.getfield 12, 3) := by decide +kernel
theorem dX6_read_4 : decode cX6_read 4 = .ok (.invokevirtual 29, 3) := by decide +kernel
theorem dX6_read_7 : decode cX6_read 7 = .ok (.aload_n 0, 1) := by decide +kernel
theorem dX6_read_8 : decode cX6_read 8 = .ok (.iconst 0, 1) := by decide +kernel
theorem dX6_read_9 : decode cX6_read 9 = .ok (.putfield 32, 3) := by decide +kernel
theorem dX6_read_12 : decode cX6_read 12 = .ok (.aload_n 0, 1) := by decide +kernel
theorem dX6_read_13 : decode cX6_read 13 = .ok (.iconst 0, 1) := by decide +kernel
theorem dX6_read_14 : decode cX6_read 14 = .ok (.putfield 36, 3) := by decide +kernel
theorem dX6_read_17 : decode cX6_read 17 = .ok (.aload_n 0, 1) := by decide +kernel
theorem dX6_read_18 : decode cX6_read 18 = .ok (.iload_n 1, 1) := by decide +kernel
theorem dX6_read_19 : decode cX6_read 19 = .ok (.aload_n 0, 1) := by decide +kernel
theorem dX6_read_20 : decode cX6_read 20 = .ok (.getfield 25, 3) := by decide +kernel
theorem dX6_read_23 : decode cX6_read 23 = .ok (.arraylength, 1) := by decide +kernel
theorem dX6_read_24 : decode cX6_read 24 = .ok (.invokestatic 39, 3) := by decide +kernel
theorem dX6_read_27 : decode cX6_read 27 = .ok (.putfield 45, 3) := by decide +kernel
theorem dX6_read_30 : decode cX6_read 30 = .ok (.aload_n 0, 1) := by decide +kernel
theorem dX6_read_31 : decode cX6_read 31 = .ok (.iconst 0, 1) := by decide +kernel
theorem dX6_read_32 : decode cX6_read 32 = .ok (.putfield 48, 3) := by decide +kernel
theorem dX6_read_35 : decode cX6_read 35 = .ok (.aload_n 0, 1) := by decide +kernel
theorem dX6_read_36 : decode cX6_read 36 = .ok (.invokevirtual 51, 3) := by decide +kernel
theorem dX6_read_39 : decode cX6_read 39 = .ok (.iconst 1, 1) := by decide +kernel
theorem dX6_read_40 : decode cX6_read 40 = .ok (.istore_n 2, 1) := by decide +kernel
theorem dX6_read_41 : decode cX6_read 41 = .ok (.iconst 0, 1) := by decide +kernel
theorem dX6_read_42 : decode cX6_read 42 = .ok (.istore_n 3, 1) := by decide +kernel
theorem dX6_read_43 : decode cX6_read 43 = .ok (.iload_n 2, 1) := by decide +kernel
theorem dX6_read_44 : decode cX6_read 44 = .ok (.ifCond .eq 37, 3) := by decide +kernel
theorem dX6_read_47 : decode cX6_read 47 = .ok (.iload_n 3, 1) := by decide +kernel
theorem dX6_read_48 : decode cX6_read 48 = .ok (.aload_n 0, 1) := by decide +kernel
theorem dX6_read_49 : decode cX6_read 49 = .ok (.getfield 45, 3) := by decide +kernel
theorem dX6_read_52 : decode cX6_read 52 = .ok (.if_icmp .gt 29, 3) := by decide +kernel
theorem dX6_read_55 : decode cX6_read 55 = .ok (.aload_n 0, 1) := by decide +kernel
theorem dX6_read_56 : decode cX6_read 56 = .ok (.invokevirtual 54, 3) := by decide +kernel
theorem dX6_read_59 : decode cX6_read 59 = .ok (.ifCond .eq 14, 3) := by decide +kernel
theorem dX6_read_62 : decode cX6_read 62 = .ok (.aload_n 0, 1) := by decide +kernel
theorem dX6_read_63 : decode cX6_read 63 = .ok (.invokevirtual 58, 3) := by decide +kernel
theorem dX6_read_66 : decode cX6_read 66 = .ok (.ifCond .eq 7, 3) := by decide +kernel
theorem dX6_read_69 : decode cX6_read 69 = .ok (.iconst 1, 1) := by decide +kernel
theorem dX6_read_70 : decode cX6_read 70 = .ok (.goto 4, 3) := by decide +kernel
theorem dX6_read_73 : decode cX6_read 73 = .ok (.iconst 0, 1) := by decide +kernel
theorem dX6_read_74 : decode cX6_read 74 = .ok (.istore_n 2, 1) := by decide +kernel
theorem dX6_read_75 : decode cX6_read 75 = .ok (.iinc 3 1, 3) := by decide +kernel
theorem dX6_read_78 : decode cX6_read 78 = .ok (.goto (-35), 3) := by decide +kernel
theorem dX6_read_81 : decode cX6_read 81 = .ok (.return_, 1) := by decide +kernel
set_option maxRecDepth 20000 in
theorem ggX6_readLine_X6_says : GoodIn wsX6_readLine wsX6_says := goodIn_r _ [7, 8, 9, 10, 11, 12, 13, 14, 15, 16, 17, 18, 19, 20, 21, 22, 23, 24, 25, 26, 27, 28, 29, 30, 31, 32, 33, 34, 35, 36, 37, 38, 39, 40, 41, 42, 43, 44, 45, 46, 47, 48, 49, 50, 51, 52, 53, 54, 55, 56, 57, 58, 59, 60, 157, 158, 159, 160, 161, 162, 163, 164, 165, 166, 167, 168] (by decide +kernel) (by decide +kernel)
set_option maxRecDepth 20000 in
theorem gX6_readLine_X6_says : GoodIn wsX6_readLine (wsV RX6 78 RX6 yX6_says wsX6_says) := goodIn_app (goodIn_of _ (by decide +kernel)) ggX6_readLine_X6_says
set_option maxRecDepth 20000 in
theorem ggX6_readLine_X6_refuse : GoodIn wsX6_readLine wsX6_refuse := goodIn_r _ [71, 72, 10, 73, 157, 158, 159, 160, 161, 162, 163, 164, 165, 166, 167, 168] (by decide +kernel) (by decide +kernel)
set_option maxRecDepth 20000 in
theorem gX6_readLine_X6_refuse : GoodIn wsX6_readLine (wsV RX6 70 RX6 yX6_refuse wsX6_refuse) := goodIn_app (goodIn_of _ (by decide +kernel)) ggX6_readLine_X6_refuse
theorem dX6_readLine_0 : decode cX6_readLine 0 = .ok (.aload_n 0, 1) := by decide +kernel
theorem dX6_readLine_1 : decode cX6_readLine 1 = .ok (.ldc 77, 2) := by decide +kernel
theorem dX6_readLine_3 : decode cX6_readLine 3 = .ok (.invokevirtual 78, 3) := by decide +kernel
theorem dX6_readLine_6 : decode cX6_readLine 6 = .ok (.ifCond .eq 8, 3) := by decide +kernel
theorem dX6_readLine_9 : decode cX6_readLine 9 = .ok (.aload_n 0, 1) := by decide +kernel
theorem dX6_readLine_10 : decode cX6_readLine 10 = .ok (.invokevirtual 82, 3) := by decide +kernel
theorem dX6_readLine_13 : decode cX6_readLine 13 = .ok (.ireturn, 1) := by decide +kernel
theorem dX6_readLine_14 : decode cX6_readLine 14 = .ok (.aload_n 0, 1) := by decide +kernel
theorem dX6_readLine_15 : decode cX6_readLine 15 = .ok (.ldc 85, 2) := by decide +kernel
theorem dX6_readLine_17 : decode cX6_readLine 17 = .ok (.invokevirtual 78, 3) := by decide +kernel
theorem dX6_readLine_20 : decode cX6_readLine 20 = .ok (.ifCond .eq 13, 3) := by decide +kernel
theorem dX6_readLine_23 : decode cX6_readLine 23 = .ok (.aload_n 0, 1) := by decide +kernel
theorem dX6_readLine_24 : decode cX6_readLine 24 = .ok (.aload_n 0, 1) := by decide +kernel
theorem dX6_readLine_25 : decode cX6_readLine 25 = .ok (.getfield 18, 3) := by decide +kernel
theorem dX6_readLine_28 : decode cX6_readLine 28 = .ok (.iconst 1, 1) := by decide +kernel
theorem dX6_readLine_29 : decode cX6_readLine 29 = .ok (.invokevirtual 87, 3) := by decide +kernel
theorem dX6_readLine_32 : decode cX6_readLine 32 = .ok (.ireturn, 1) := by decide +kernel
theorem dX6_readLine_33 : decode cX6_readLine 33 = .ok (.aload_n 0, 1) := by decide +kernel
theorem dX6_readLine_34 : decode cX6_readLine 34 = .ok (.ldc 91, 2) := by decide +kernel
theorem dX6_readLine_36 : decode cX6_readLine 36 = .ok (.invokevirtual 78, 3) := by decide +kernel
theorem dX6_readLine_39 : decode cX6_readLine 39 = .ok (.ifCond .eq 13, 3) := by decide +kernel
theorem dX6_readLine_42 : decode cX6_readLine 42 = .ok (.aload_n 0, 1) := by decide +kernel
theorem dX6_readLine_43 : decode cX6_readLine 43 = .ok (.aload_n 0, 1) := by decide +kernel
theorem dX6_readLine_44 : decode cX6_readLine 44 = .ok (.getfield 22, 3) := by decide +kernel
theorem dX6_readLine_47 : decode cX6_readLine 47 = .ok (.iconst 0, 1) := by decide +kernel
theorem dX6_readLine_48 : decode cX6_readLine 48 = .ok (.invokevirtual 87, 3) := by decide +kernel
theorem dX6_readLine_51 : decode cX6_readLine 51 = .ok (.ireturn, 1) := by decide +kernel
theorem dX6_readLine_52 : decode cX6_readLine 52 = .ok (.aload_n 0, 1) := by decide +kernel
theorem dX6_readLine_53 : decode cX6_readLine 53 = .ok (.ldc 93, 2) := by decide +kernel
theorem dX6_readLine_55 : decode cX6_readLine 55 = .ok (.invokevirtual 78, 3) := by decide +kernel
theorem dX6_readLine_58 : decode cX6_readLine 58 = .ok (.ifCond .eq 8, 3) := by decide +kernel
theorem dX6_readLine_61 : decode cX6_readLine 61 = .ok (.aload_n 0, 1) := by decide +kernel
theorem dX6_readLine_62 : decode cX6_readLine 62 = .ok (.invokevirtual 95, 3) := by decide +kernel
theorem dX6_readLine_65 : decode cX6_readLine 65 = .ok (.ireturn, 1) := by decide +kernel
theorem dX6_readLine_66 : decode cX6_readLine 66 = .ok (.aload_n 0, 1) := by decide +kernel
theorem dX6_readLine_67 : decode cX6_readLine 67 = .ok (.ldc 98, 2) := by decide +kernel
theorem dX6_readLine_69 : decode cX6_readLine 69 = .ok (.invokevirtual 78, 3) := by decide +kernel
theorem dX6_readLine_72 : decode cX6_readLine 72 = .ok (.ifCond .eq 8, 3) := by decide +kernel
theorem dX6_readLine_75 : decode cX6_readLine 75 = .ok (.aload_n 0, 1) := by decide +kernel
theorem dX6_readLine_76 : decode cX6_readLine 76 = .ok (.invokevirtual 100, 3) := by decide +kernel
theorem dX6_readLine_79 : decode cX6_readLine 79 = .ok (.ireturn, 1) := by decide +kernel
theorem dX6_readLine_80 : decode cX6_readLine 80 = .ok (.aload_n 0, 1) := by decide +kernel
theorem dX6_readLine_81 : decode cX6_readLine 81 = .ok (.ldc 103, 2) := by decide +kernel
theorem dX6_readLine_83 : decode cX6_readLine 83 = .ok (.invokevirtual 78, 3) := by decide +kernel
theorem dX6_readLine_86 : decode cX6_readLine 86 = .ok (.ifCond .eq 8, 3) := by decide +kernel
theorem dX6_readLine_89 : decode cX6_readLine 89 = .ok (.aload_n 0, 1) := by decide +kernel
theorem dX6_readLine_90 : decode cX6_readLine 90 = .ok (.invokevirtual 105, 3) := by decide +kernel
theorem dX6_readLine_93 : decode cX6_readLine 93 = .ok (.ireturn, 1) := by decide +kernel
theorem dX6_readLine_94 : decode cX6_readLine 94 = .ok (.aload_n 0, 1) := by decide +kernel
theorem dX6_readLine_95 : decode cX6_readLine 95 = .ok (.ldc 108, 2) := by decide +kernel
theorem dX6_readLine_97 : decode cX6_readLine 97 = .ok (.invokevirtual 78, 3) := by decide +kernel
theorem dX6_readLine_100 : decode cX6_readLine 100 = .ok (.ifCond .eq 8, 3) := by decide +kernel
theorem dX6_readLine_103 : decode cX6_readLine 103 = .ok (.aload_n 0, 1) := by decide +kernel
theorem dX6_readLine_104 : decode cX6_readLine 104 = .ok (.invokevirtual 110, 3) := by decide +kernel
theorem dX6_readLine_107 : decode cX6_readLine 107 = .ok (.ireturn, 1) := by decide +kernel
theorem dX6_readLine_108 : decode cX6_readLine 108 = .ok (.aload_n 0, 1) := by decide +kernel
theorem dX6_readLine_109 : decode cX6_readLine 109 = .ok (.iconst 1, 1) := by decide +kernel
theorem dX6_readLine_110 : decode cX6_readLine 110 = .ok (.invokevirtual 70, 3) := by decide +kernel
theorem dX6_readLine_113 : decode cX6_readLine 113 = .ok (.ireturn, 1) := by decide +kernel
theorem dX6_refuse_0 : decode cX6_refuse 0 = .ok (.aload_n 0, 1) := by decide +kernel
theorem dX6_refuse_1 : decode cX6_refuse 1 = .ok (.iload_n 1, 1) := by decide +kernel
theorem dX6_refuse_2 : decode cX6_refuse 2 = .ok (.putfield 32, 3) := by decide +kernel
theorem dX6_refuse_5 : decode cX6_refuse 5 = .ok (.aload_n 0, 1) := by decide +kernel
theorem dX6_refuse_6 : decode cX6_refuse 6 = .ok (.aload_n 0, 1) := by decide +kernel
theorem dX6_refuse_7 : decode cX6_refuse 7 = .ok (.getfield 189, 3) := by decide +kernel
theorem dX6_refuse_10 : decode cX6_refuse 10 = .ok (.putfield 36, 3) := by decide +kernel
theorem dX6_refuse_13 : decode cX6_refuse 13 = .ok (.iconst 0, 1) := by decide +kernel
theorem dX6_refuse_14 : decode cX6_refuse 14 = .ok (.ireturn, 1) := by decide +kernel
theorem dX6_says_0 : decode cX6_says 0 = .ok (.aload_n 0, 1) := by decide +kernel
theorem dX6_says_1 : decode cX6_says 1 = .ok (.getfield 61, 3) := by decide +kernel
theorem dX6_says_4 : decode cX6_says 4 = .ok (.iconst 2, 1) := by decide +kernel
theorem dX6_says_5 : decode cX6_says 5 = .ok (.if_icmp .ne 19, 3) := by decide +kernel
theorem dX6_says_8 : decode cX6_says 8 = .ok (.aload_n 0, 1) := by decide +kernel
theorem dX6_says_9 : decode cX6_says 9 = .ok (.getfield 48, 3) := by decide +kernel
theorem dX6_says_12 : decode cX6_says 12 = .ok (.aload_n 0, 1) := by decide +kernel
theorem dX6_says_13 : decode cX6_says 13 = .ok (.getfield 189, 3) := by decide +kernel
theorem dX6_says_16 : decode cX6_says 16 = .ok (.isub, 1) := by decide +kernel
theorem dX6_says_17 : decode cX6_says 17 = .ok (.aload_n 1, 1) := by decide +kernel
theorem dX6_says_18 : decode cX6_says 18 = .ok (.invokevirtual 198, 3) := by decide +kernel
theorem dX6_says_21 : decode cX6_says 21 = .ok (.if_icmp .eq 5, 3) := by decide +kernel
theorem dX6_says_24 : decode cX6_says 24 = .ok (.iconst 0, 1) := by decide +kernel
theorem dX6_says_25 : decode cX6_says 25 = .ok (.ireturn, 1) := by decide +kernel
theorem dX6_says_26 : decode cX6_says 26 = .ok (.iconst 0, 1) := by decide +kernel
theorem dX6_says_27 : decode cX6_says 27 = .ok (.istore_n 2, 1) := by decide +kernel
theorem dX6_says_28 : decode cX6_says 28 = .ok (.iload_n 2, 1) := by decide +kernel
theorem dX6_says_29 : decode cX6_says 29 = .ok (.aload_n 1, 1) := by decide +kernel
theorem dX6_says_30 : decode cX6_says 30 = .ok (.invokevirtual 198, 3) := by decide +kernel
theorem dX6_says_33 : decode cX6_says 33 = .ok (.if_icmp .ge 30, 3) := by decide +kernel
theorem dX6_says_36 : decode cX6_says 36 = .ok (.aload_n 0, 1) := by decide +kernel
theorem dX6_says_37 : decode cX6_says 37 = .ok (.getfield 25, 3) := by decide +kernel
theorem dX6_says_40 : decode cX6_says 40 = .ok (.aload_n 0, 1) := by decide +kernel
theorem dX6_says_41 : decode cX6_says 41 = .ok (.getfield 189, 3) := by decide +kernel
theorem dX6_says_44 : decode cX6_says 44 = .ok (.iload_n 2, 1) := by decide +kernel
theorem dX6_says_45 : decode cX6_says 45 = .ok (.iadd, 1) := by decide +kernel
theorem dX6_says_46 : decode cX6_says 46 = .ok (.iaload, 1) := by decide +kernel
theorem dX6_says_47 : decode cX6_says 47 = .ok (.aload_n 1, 1) := by decide +kernel
theorem dX6_says_48 : decode cX6_says 48 = .ok (.iload_n 2, 1) := by decide +kernel
theorem dX6_says_49 : decode cX6_says 49 = .ok (.invokevirtual 204, 3) := by decide +kernel
theorem dX6_says_52 : decode cX6_says 52 = .ok (.if_icmp .eq 5, 3) := by decide +kernel
theorem dX6_says_55 : decode cX6_says 55 = .ok (.iconst 0, 1) := by decide +kernel
theorem dX6_says_56 : decode cX6_says 56 = .ok (.ireturn, 1) := by decide +kernel
theorem dX6_says_57 : decode cX6_says 57 = .ok (.iinc 2 1, 3) := by decide +kernel
theorem dX6_says_60 : decode cX6_says 60 = .ok (.goto (-32), 3) := by decide +kernel
theorem dX6_says_63 : decode cX6_says 63 = .ok (.iconst 1, 1) := by decide +kernel
theorem dX6_says_64 : decode cX6_says 64 = .ok (.ireturn, 1) := by decide +kernel
set_option maxRecDepth 20000 in
theorem ggX6_next_X6_takeSign : GoodIn wsX6_next wsX6_takeSign := goodIn_r _ [18, 7, 1, 2, 3, 19, 20, 21, 22, 23, 24, 25, 26, 27, 28, 29, 30] (by decide +kernel) (by decide +kernel)
set_option maxRecDepth 20000 in
theorem gX6_next_X6_takeSign : GoodIn wsX6_next (wsV RX6 214 RX6 yX6_takeSign wsX6_takeSign) := goodIn_app (goodIn_of _ (by decide +kernel)) ggX6_next_X6_takeSign
theorem dX6_next_0 : decode cX6_next 0 = .ok (.aload_n 0, 1) := by decide +kernel
theorem dX6_next_1 : decode cX6_next 1 = .ok (.getfield 48, 3) := by decide +kernel
theorem dX6_next_4 : decode cX6_next 4 = .ok (.aload_n 0, 1) := by decide +kernel
theorem dX6_next_5 : decode cX6_next 5 = .ok (.getfield 45, 3) := by decide +kernel
theorem dX6_next_8 : decode cX6_next 8 = .ok (.if_icmp .ge 30, 3) := by decide +kernel
theorem dX6_next_11 : decode cX6_next 11 = .ok (.aload_n 0, 1) := by decide +kernel
theorem dX6_next_12 : decode cX6_next 12 = .ok (.getfield 25, 3) := by decide +kernel
theorem dX6_next_15 : decode cX6_next 15 = .ok (.aload_n 0, 1) := by decide +kernel
theorem dX6_next_16 : decode cX6_next 16 = .ok (.getfield 48, 3) := by decide +kernel
theorem dX6_next_19 : decode cX6_next 19 = .ok (.iaload, 1) := by decide +kernel
theorem dX6_next_20 : decode cX6_next 20 = .ok (.bipush 32, 2) := by decide +kernel
theorem dX6_next_22 : decode cX6_next 22 = .ok (.if_icmp .ne 16, 3) := by decide +kernel
theorem dX6_next_25 : decode cX6_next 25 = .ok (.aload_n 0, 1) := by decide +kernel
theorem dX6_next_26 : decode cX6_next 26 = .ok (.dup, 1) := by decide +kernel
theorem dX6_next_27 : decode cX6_next 27 = .ok (.getfield 48, 3) := by decide +kernel
theorem dX6_next_30 : decode cX6_next 30 = .ok (.iconst 1, 1) := by decide +kernel
theorem dX6_next_31 : decode cX6_next 31 = .ok (.iadd, 1) := by decide +kernel
theorem dX6_next_32 : decode cX6_next 32 = .ok (.putfield 48, 3) := by decide +kernel
theorem dX6_next_35 : decode cX6_next 35 = .ok (.goto (-35), 3) := by decide +kernel
theorem dX6_next_38 : decode cX6_next 38 = .ok (.aload_n 0, 1) := by decide +kernel
theorem dX6_next_39 : decode cX6_next 39 = .ok (.aload_n 0, 1) := by decide +kernel
theorem dX6_next_40 : decode cX6_next 40 = .ok (.getfield 48, 3) := by decide +kernel
theorem dX6_next_43 : decode cX6_next 43 = .ok (.putfield 189, 3) := by decide +kernel
theorem dX6_next_46 : decode cX6_next 46 = .ok (.aload_n 0, 1) := by decide +kernel
theorem dX6_next_47 : decode cX6_next 47 = .ok (.lconst 0, 1) := by decide +kernel
theorem dX6_next_48 : decode cX6_next 48 = .ok (.putfield 131, 3) := by decide +kernel
theorem dX6_next_51 : decode cX6_next 51 = .ok (.aload_n 0, 1) := by decide +kernel
theorem dX6_next_52 : decode cX6_next 52 = .ok (.iconst 0, 1) := by decide +kernel
theorem dX6_next_53 : decode cX6_next 53 = .ok (.putfield 122, 3) := by decide +kernel
theorem dX6_next_56 : decode cX6_next 56 = .ok (.aload_n 0, 1) := by decide +kernel
theorem dX6_next_57 : decode cX6_next 57 = .ok (.getfield 48, 3) := by decide +kernel
theorem dX6_next_60 : decode cX6_next 60 = .ok (.aload_n 0, 1) := by decide +kernel
theorem dX6_next_61 : decode cX6_next 61 = .ok (.getfield 45, 3) := by decide +kernel
theorem dX6_next_64 : decode cX6_next 64 = .ok (.if_icmp .ge 57, 3) := by decide +kernel
theorem dX6_next_67 : decode cX6_next 67 = .ok (.aload_n 0, 1) := by decide +kernel
theorem dX6_next_68 : decode cX6_next 68 = .ok (.getfield 25, 3) := by decide +kernel
theorem dX6_next_71 : decode cX6_next 71 = .ok (.aload_n 0, 1) := by decide +kernel
theorem dX6_next_72 : decode cX6_next 72 = .ok (.getfield 48, 3) := by decide +kernel
theorem dX6_next_75 : decode cX6_next 75 = .ok (.iaload, 1) := by decide +kernel
theorem dX6_next_76 : decode cX6_next 76 = .ok (.invokestatic 208, 3) := by decide +kernel
theorem dX6_next_79 : decode cX6_next 79 = .ok (.ifCond .eq 42, 3) := by decide +kernel
theorem dX6_next_82 : decode cX6_next 82 = .ok (.aload_n 0, 1) := by decide +kernel
theorem dX6_next_83 : decode cX6_next 83 = .ok (.aload_n 0, 1) := by decide +kernel
theorem dX6_next_84 : decode cX6_next 84 = .ok (.getfield 131, 3) := by decide +kernel
theorem dX6_next_87 : decode cX6_next 87 = .ok (.iconst 5, 1) := by decide +kernel
theorem dX6_next_88 : decode cX6_next 88 = .ok (.lshl, 1) := by decide +kernel
theorem dX6_next_89 : decode cX6_next 89 = .ok (.aload_n 0, 1) := by decide +kernel
theorem dX6_next_90 : decode cX6_next 90 = .ok (.getfield 25, 3) := by decide +kernel
theorem dX6_next_93 : decode cX6_next 93 = .ok (.aload_n 0, 1) := by decide +kernel
theorem dX6_next_94 : decode cX6_next 94 = .ok (.getfield 48, 3) := by decide +kernel
theorem dX6_next_97 : decode cX6_next 97 = .ok (.iaload, 1) := by decide +kernel
theorem dX6_next_98 : decode cX6_next 98 = .ok (.bipush 97, 2) := by decide +kernel
theorem dX6_next_100 : decode cX6_next 100 = .ok (.isub, 1) := by decide +kernel
theorem dX6_next_101 : decode cX6_next 101 = .ok (.iconst 1, 1) := by decide +kernel
theorem dX6_next_102 : decode cX6_next 102 = .ok (.iadd, 1) := by decide +kernel
theorem dX6_next_103 : decode cX6_next 103 = .ok (.i2l, 1) := by decide +kernel
theorem dX6_next_104 : decode cX6_next 104 = .ok (.lor, 1) := by decide +kernel
theorem dX6_next_105 : decode cX6_next 105 = .ok (.putfield 131, 3) := by decide +kernel
theorem dX6_next_108 : decode cX6_next 108 = .ok (.aload_n 0, 1) := by decide +kernel
theorem dX6_next_109 : decode cX6_next 109 = .ok (.dup, 1) := by decide +kernel
theorem dX6_next_110 : decode cX6_next 110 = .ok (.getfield 48, 3) := by decide +kernel
theorem dX6_next_113 : decode cX6_next 113 = .ok (.iconst 1, 1) := by decide +kernel
theorem dX6_next_114 : decode cX6_next 114 = .ok (.iadd, 1) := by decide +kernel
theorem dX6_next_115 : decode cX6_next 115 = .ok (.putfield 48, 3) := by decide +kernel
theorem dX6_next_118 : decode cX6_next 118 = .ok (.goto (-62), 3) := by decide +kernel
theorem dX6_next_121 : decode cX6_next 121 = .ok (.aload_n 0, 1) := by decide +kernel
theorem dX6_next_122 : decode cX6_next 122 = .ok (.getfield 48, 3) := by decide +kernel
theorem dX6_next_125 : decode cX6_next 125 = .ok (.aload_n 0, 1) := by decide +kernel
theorem dX6_next_126 : decode cX6_next 126 = .ok (.getfield 189, 3) := by decide +kernel
theorem dX6_next_129 : decode cX6_next 129 = .ok (.if_icmp .le 27, 3) := by decide +kernel
theorem dX6_next_132 : decode cX6_next 132 = .ok (.aload_n 0, 1) := by decide +kernel
theorem dX6_next_133 : decode cX6_next 133 = .ok (.aload_n 0, 1) := by decide +kernel
theorem dX6_next_134 : decode cX6_next 134 = .ok (.getfield 48, 3) := by decide +kernel
theorem dX6_next_137 : decode cX6_next 137 = .ok (.aload_n 0, 1) := by decide +kernel
theorem dX6_next_138 : decode cX6_next 138 = .ok (.getfield 189, 3) := by decide +kernel
theorem dX6_next_141 : decode cX6_next 141 = .ok (.isub, 1) := by decide +kernel
theorem dX6_next_142 : decode cX6_next 142 = .ok (.bipush 8, 2) := by decide +kernel
theorem dX6_next_144 : decode cX6_next 144 = .ok (.if_icmp .gt 7, 3) := by decide +kernel
theorem dX6_next_147 : decode cX6_next 147 = .ok (.iconst 2, 1) := by decide +kernel
theorem dX6_next_148 : decode cX6_next 148 = .ok (.goto 4, 3) := by decide +kernel
theorem dX6_next_151 : decode cX6_next 151 = .ok (.iconst 1, 1) := by decide +kernel
theorem dX6_next_152 : decode cX6_next 152 = .ok (.putfield 61, 3) := by decide +kernel
theorem dX6_next_155 : decode cX6_next 155 = .ok (.return_, 1) := by decide +kernel
theorem dX6_next_156 : decode cX6_next 156 = .ok (.aload_n 0, 1) := by decide +kernel
theorem dX6_next_157 : decode cX6_next 157 = .ok (.getfield 48, 3) := by decide +kernel
theorem dX6_next_160 : decode cX6_next 160 = .ok (.aload_n 0, 1) := by decide +kernel
theorem dX6_next_161 : decode cX6_next 161 = .ok (.getfield 45, 3) := by decide +kernel
theorem dX6_next_164 : decode cX6_next 164 = .ok (.if_icmp .ge 55, 3) := by decide +kernel
theorem dX6_next_167 : decode cX6_next 167 = .ok (.aload_n 0, 1) := by decide +kernel
theorem dX6_next_168 : decode cX6_next 168 = .ok (.getfield 25, 3) := by decide +kernel
theorem dX6_next_171 : decode cX6_next 171 = .ok (.aload_n 0, 1) := by decide +kernel
theorem dX6_next_172 : decode cX6_next 172 = .ok (.getfield 48, 3) := by decide +kernel
theorem dX6_next_175 : decode cX6_next 175 = .ok (.iaload, 1) := by decide +kernel
theorem dX6_next_176 : decode cX6_next 176 = .ok (.invokestatic 211, 3) := by decide +kernel
theorem dX6_next_179 : decode cX6_next 179 = .ok (.ifCond .eq 40, 3) := by decide +kernel
theorem dX6_next_182 : decode cX6_next 182 = .ok (.aload_n 0, 1) := by decide +kernel
theorem dX6_next_183 : decode cX6_next 183 = .ok (.bipush 10, 2) := by decide +kernel
theorem dX6_next_185 : decode cX6_next 185 = .ok (.aload_n 0, 1) := by decide +kernel
theorem dX6_next_186 : decode cX6_next 186 = .ok (.getfield 122, 3) := by decide +kernel
theorem dX6_next_189 : decode cX6_next 189 = .ok (.imul, 1) := by decide +kernel
theorem dX6_next_190 : decode cX6_next 190 = .ok (.aload_n 0, 1) := by decide +kernel
theorem dX6_next_191 : decode cX6_next 191 = .ok (.getfield 25, 3) := by decide +kernel
theorem dX6_next_194 : decode cX6_next 194 = .ok (.aload_n 0, 1) := by decide +kernel
theorem dX6_next_195 : decode cX6_next 195 = .ok (.getfield 48, 3) := by decide +kernel
theorem dX6_next_198 : decode cX6_next 198 = .ok (.iaload, 1) := by decide +kernel
theorem dX6_next_199 : decode cX6_next 199 = .ok (.iadd, 1) := by decide +kernel
theorem dX6_next_200 : decode cX6_next 200 = .ok (.bipush 48, 2) := by decide +kernel
theorem dX6_next_202 : decode cX6_next 202 = .ok (.isub, 1) := by decide +kernel
theorem dX6_next_203 : decode cX6_next 203 = .ok (.putfield 122, 3) := by decide +kernel
theorem dX6_next_206 : decode cX6_next 206 = .ok (.aload_n 0, 1) := by decide +kernel
theorem dX6_next_207 : decode cX6_next 207 = .ok (.dup, 1) := by decide +kernel
theorem dX6_next_208 : decode cX6_next 208 = .ok (.getfield 48, 3) := by decide +kernel
theorem dX6_next_211 : decode cX6_next 211 = .ok (.iconst 1, 1) := by decide +kernel
theorem dX6_next_212 : decode cX6_next 212 = .ok (.iadd, 1) := by decide +kernel
theorem dX6_next_213 : decode cX6_next 213 = .ok (.putfield 48, 3) := by decide +kernel
theorem dX6_next_216 : decode cX6_next 216 = .ok (.goto (-60), 3) := by decide +kernel
theorem dX6_next_219 : decode cX6_next 219 = .ok (.aload_n 0, 1) := by decide +kernel
theorem dX6_next_220 : decode cX6_next 220 = .ok (.getfield 48, 3) := by decide +kernel
theorem dX6_next_223 : decode cX6_next 223 = .ok (.aload_n 0, 1) := by decide +kernel
theorem dX6_next_224 : decode cX6_next 224 = .ok (.getfield 189, 3) := by decide +kernel
theorem dX6_next_227 : decode cX6_next 227 = .ok (.if_icmp .le 26, 3) := by decide +kernel
theorem dX6_next_230 : decode cX6_next 230 = .ok (.aload_n 0, 1) := by decide +kernel
theorem dX6_next_231 : decode cX6_next 231 = .ok (.aload_n 0, 1) := by decide +kernel
theorem dX6_next_232 : decode cX6_next 232 = .ok (.getfield 48, 3) := by decide +kernel
theorem dX6_next_235 : decode cX6_next 235 = .ok (.aload_n 0, 1) := by decide +kernel
theorem dX6_next_236 : decode cX6_next 236 = .ok (.getfield 189, 3) := by decide +kernel
theorem dX6_next_239 : decode cX6_next 239 = .ok (.isub, 1) := by decide +kernel
theorem dX6_next_240 : decode cX6_next 240 = .ok (.iconst 3, 1) := by decide +kernel
theorem dX6_next_241 : decode cX6_next 241 = .ok (.if_icmp .gt 7, 3) := by decide +kernel
theorem dX6_next_244 : decode cX6_next 244 = .ok (.iconst 3, 1) := by decide +kernel
theorem dX6_next_245 : decode cX6_next 245 = .ok (.goto 4, 3) := by decide +kernel
theorem dX6_next_248 : decode cX6_next 248 = .ok (.iconst 1, 1) := by decide +kernel
theorem dX6_next_249 : decode cX6_next 249 = .ok (.putfield 61, 3) := by decide +kernel
theorem dX6_next_252 : decode cX6_next 252 = .ok (.return_, 1) := by decide +kernel
theorem dX6_next_253 : decode cX6_next 253 = .ok (.aload_n 0, 1) := by decide +kernel
theorem dX6_next_254 : decode cX6_next 254 = .ok (.invokevirtual 214, 3) := by decide +kernel
theorem dX6_next_257 : decode cX6_next 257 = .ok (.return_, 1) := by decide +kernel
theorem dX6_takeSign_0 : decode cX6_takeSign 0 = .ok (.aload_n 0, 1) := by decide +kernel
theorem dX6_takeSign_1 : decode cX6_takeSign 1 = .ok (.iconst 0, 1) := by decide +kernel
theorem dX6_takeSign_2 : decode cX6_takeSign 2 = .ok (.putfield 61, 3) := by decide +kernel
theorem dX6_takeSign_5 : decode cX6_takeSign 5 = .ok (.aload_n 0, 1) := by decide +kernel
theorem dX6_takeSign_6 : decode cX6_takeSign 6 = .ok (.getfield 48, 3) := by decide +kernel
theorem dX6_takeSign_9 : decode cX6_takeSign 9 = .ok (.aload_n 0, 1) := by decide +kernel
theorem dX6_takeSign_10 : decode cX6_takeSign 10 = .ok (.getfield 45, 3) := by decide +kernel
theorem dX6_takeSign_13 : decode cX6_takeSign 13 = .ok (.if_icmp .ge 50, 3) := by decide +kernel
theorem dX6_takeSign_16 : decode cX6_takeSign 16 = .ok (.aload_n 0, 1) := by decide +kernel
theorem dX6_takeSign_17 : decode cX6_takeSign 17 = .ok (.getfield 25, 3) := by decide +kernel
theorem dX6_takeSign_20 : decode cX6_takeSign 20 = .ok (.aload_n 0, 1) := by decide +kernel
theorem dX6_takeSign_21 : decode cX6_takeSign 21 = .ok (.getfield 48, 3) := by decide +kernel
theorem dX6_takeSign_24 : decode cX6_takeSign 24 = .ok (.iaload, 1) := by decide +kernel
theorem dX6_takeSign_25 : decode cX6_takeSign 25 = .ok (.istore_n 1, 1) := by decide +kernel
theorem dX6_takeSign_26 : decode cX6_takeSign 26 = .ok (.aload_n 0, 1) := by decide +kernel
theorem dX6_takeSign_27 : decode cX6_takeSign 27 = .ok (.iload_n 1, 1) := by decide +kernel
theorem dX6_takeSign_28 : decode cX6_takeSign 28 = .ok (.bipush 59, 2) := by decide +kernel
theorem dX6_takeSign_30 : decode cX6_takeSign 30 = .ok (.if_icmp .eq 15, 3) := by decide +kernel
theorem dX6_takeSign_33 : decode cX6_takeSign 33 = .ok (.iload_n 1, 1) := by decide +kernel
theorem dX6_takeSign_34 : decode cX6_takeSign 34 = .ok (.bipush 44, 2) := by decide +kernel
theorem dX6_takeSign_36 : decode cX6_takeSign 36 = .ok (.if_icmp .eq 9, 3) := by decide +kernel
theorem dX6_takeSign_39 : decode cX6_takeSign 39 = .ok (.iload_n 1, 1) := by decide +kernel
theorem dX6_takeSign_40 : decode cX6_takeSign 40 = .ok (.bipush 45, 2) := by decide +kernel
theorem dX6_takeSign_42 : decode cX6_takeSign 42 = .ok (.if_icmp .ne 7, 3) := by decide +kernel
theorem dX6_takeSign_45 : decode cX6_takeSign 45 = .ok (.iload_n 1, 1) := by decide +kernel
theorem dX6_takeSign_46 : decode cX6_takeSign 46 = .ok (.goto 4, 3) := by decide +kernel
theorem dX6_takeSign_49 : decode cX6_takeSign 49 = .ok (.iconst 1, 1) := by decide +kernel
theorem dX6_takeSign_50 : decode cX6_takeSign 50 = .ok (.putfield 61, 3) := by decide +kernel
theorem dX6_takeSign_53 : decode cX6_takeSign 53 = .ok (.aload_n 0, 1) := by decide +kernel
theorem dX6_takeSign_54 : decode cX6_takeSign 54 = .ok (.dup, 1) := by decide +kernel
theorem dX6_takeSign_55 : decode cX6_takeSign 55 = .ok (.getfield 48, 3) := by decide +kernel
theorem dX6_takeSign_58 : decode cX6_takeSign 58 = .ok (.iconst 1, 1) := by decide +kernel
theorem dX6_takeSign_59 : decode cX6_takeSign 59 = .ok (.iadd, 1) := by decide +kernel
theorem dX6_takeSign_60 : decode cX6_takeSign 60 = .ok (.putfield 48, 3) := by decide +kernel
theorem dX6_takeSign_63 : decode cX6_takeSign 63 = .ok (.return_, 1) := by decide +kernel
theorem dX7_init_0 : decode cX7_init 0 = .ok (.aload_n 0, 1) := by decide +kernel
theorem dX7_init_1 : decode cX7_init 1 = .ok (.invokespecial 3, 3) := by decide +kernel
theorem dX7_init_4 : decode cX7_init 4 = .ok (.aload_n 0, 1) := by decide +kernel
theorem dX7_init_5 : decode cX7_init 5 = .ok (.aload_n 1, 1) := by decide +kernel
theorem dX7_init_6 : decode cX7_init 6 = .ok (.putfield 9, 3) := by decide +kernel
theorem dX7_init_9 : decode cX7_init 9 = .ok (.return_, 1) := by decide +kernel
theorem dX8_init_0 : decode cX8_init 0 = .ok (.aload_n 0, 1) := by decide +kernel
theorem dX8_init_1 : decode cX8_init 1 = .ok (.invokespecial 3, 3) := by decide +kernel
theorem dX8_init_4 : decode cX8_init 4 = .ok (.aload_n 0, 1) := by decide +kernel
theorem dX8_init_5 : decode cX8_init 5 = .ok (.bipush 8, 2) := by decide +kernel
theorem dX8_init_7 : decode cX8_init 7 = .ok (.newarray .int, 2) := by decide +kernel
theorem dX8_init_9 : decode cX8_init 9 = .ok (.putfield 9, 3) := by decide +kernel
theorem dX8_init_12 : decode cX8_init 12 = .ok (.aload_n 0, 1) := by decide +kernel
theorem dX8_init_13 : decode cX8_init 13 = .ok (.bipush 8, 2) := by decide +kernel
theorem dX8_init_15 : decode cX8_init 15 = .ok (.newarray .int, 2) := by decide +kernel
theorem dX8_init_17 : decode cX8_init 17 = .ok (.putfield 15, 3) := by decide +kernel
theorem dX8_init_20 : decode cX8_init 20 = .ok (.aload_n 0, 1) := by decide +kernel
theorem dX8_init_21 : decode cX8_init 21 = .ok (.bipush 32, 2) := by decide +kernel
theorem dX8_init_23 : decode cX8_init 23 = .ok (.newarray .int, 2) := by decide +kernel
theorem dX8_init_25 : decode cX8_init 25 = .ok (.putfield 18, 3) := by decide +kernel
theorem dX8_init_28 : decode cX8_init 28 = .ok (.aload_n 0, 1) := by decide +kernel
theorem dX8_init_29 : decode cX8_init 29 = .ok (.bipush 32, 2) := by decide +kernel
theorem dX8_init_31 : decode cX8_init 31 = .ok (.newarray .int, 2) := by decide +kernel
theorem dX8_init_33 : decode cX8_init 33 = .ok (.putfield 21, 3) := by decide +kernel
theorem dX8_init_36 : decode cX8_init 36 = .ok (.return_, 1) := by decide +kernel
theorem dX8_hasLook_0 : decode cX8_hasLook 0 = .ok (.iload_n 1, 1) := by decide +kernel
theorem dX8_hasLook_1 : decode cX8_hasLook 1 = .ok (.ifCond .lt 15, 3) := by decide +kernel
theorem dX8_hasLook_4 : decode cX8_hasLook 4 = .ok (.iload_n 1, 1) := by decide +kernel
theorem dX8_hasLook_5 : decode cX8_hasLook 5 = .ok (.aload_n 0, 1) := by decide +kernel
theorem dX8_hasLook_6 : decode cX8_hasLook 6 = .ok (.getfield 34, 3) := by decide +kernel
theorem dX8_hasLook_9 : decode cX8_hasLook 9 = .ok (.if_icmp .ge 7, 3) := by decide +kernel
theorem dX8_hasLook_12 : decode cX8_hasLook 12 = .ok (.iconst 1, 1) := by decide +kernel
theorem dX8_hasLook_13 : decode cX8_hasLook 13 = .ok (.goto 4, 3) := by decide +kernel
theorem dX8_hasLook_16 : decode cX8_hasLook 16 = .ok (.iconst 0, 1) := by decide +kernel
theorem dX8_hasLook_17 : decode cX8_hasLook 17 = .ok (.ireturn, 1) := by decide +kernel
theorem dX8_hasSet_0 : decode cX8_hasSet 0 = .ok (.iload_n 1, 1) := by decide +kernel
theorem dX8_hasSet_1 : decode cX8_hasSet 1 = .ok (.ifCond .lt 15, 3) := by decide +kernel
theorem dX8_hasSet_4 : decode cX8_hasSet 4 = .ok (.iload_n 1, 1) := by decide +kernel
theorem dX8_hasSet_5 : decode cX8_hasSet 5 = .ok (.aload_n 0, 1) := by decide +kernel
theorem dX8_hasSet_6 : decode cX8_hasSet 6 = .ok (.getfield 38, 3) := by decide +kernel
theorem dX8_hasSet_9 : decode cX8_hasSet 9 = .ok (.if_icmp .ge 7, 3) := by decide +kernel
theorem dX8_hasSet_12 : decode cX8_hasSet 12 = .ok (.iconst 1, 1) := by decide +kernel
theorem dX8_hasSet_13 : decode cX8_hasSet 13 = .ok (.goto 4, 3) := by decide +kernel
theorem dX8_hasSet_16 : decode cX8_hasSet 16 = .ok (.iconst 0, 1) := by decide +kernel
theorem dX8_hasSet_17 : decode cX8_hasSet 17 = .ok (.ireturn, 1) := by decide +kernel
set_option maxRecDepth 20000 in
theorem ggX8_hasPair_X8_hasSet : GoodIn wsX8_hasPair wsX8_hasSet := goodIn_r _ [6, 7, 8, 9, 10, 11, 12, 13, 14, 15] (by decide +kernel) (by decide +kernel)
set_option maxRecDepth 20000 in
theorem gX8_hasPair_X8_hasSet : GoodIn wsX8_hasPair (wsV RX8 56 RX8 yX8_hasSet wsX8_hasSet) := goodIn_app (goodIn_of _ (by decide +kernel)) ggX8_hasPair_X8_hasSet
theorem dX8_hasPair_0 : decode cX8_hasPair 0 = .ok (.aload_n 0, 1) := by decide +kernel
theorem dX8_hasPair_1 : decode cX8_hasPair 1 = .ok (.iload_n 1, 1) := by decide +kernel
theorem dX8_hasPair_2 : decode cX8_hasPair 2 = .ok (.invokevirtual 56, 3) := by decide +kernel
theorem dX8_hasPair_5 : decode cX8_hasPair 5 = .ok (.ifCond .eq 16, 3) := by decide +kernel
theorem dX8_hasPair_8 : decode cX8_hasPair 8 = .ok (.aload_n 0, 1) := by decide +kernel
theorem dX8_hasPair_9 : decode cX8_hasPair 9 = .ok (.getfield 15, 3) := by decide +kernel
theorem dX8_hasPair_12 : decode cX8_hasPair 12 = .ok (.iload_n 1, 1) := by decide +kernel
theorem dX8_hasPair_13 : decode cX8_hasPair 13 = .ok (.iaload, 1) := by decide +kernel
theorem dX8_hasPair_14 : decode cX8_hasPair 14 = .ok (.ifCond .lt 7, 3) := by decide +kernel
theorem dX8_hasPair_17 : decode cX8_hasPair 17 = .ok (.iconst 1, 1) := by decide +kernel
theorem dX8_hasPair_18 : decode cX8_hasPair 18 = .ok (.goto 4, 3) := by decide +kernel
theorem dX8_hasPair_21 : decode cX8_hasPair 21 = .ok (.iconst 0, 1) := by decide +kernel
theorem dX8_hasPair_22 : decode cX8_hasPair 22 = .ok (.ireturn, 1) := by decide +kernel
set_option maxRecDepth 20000 in
theorem ggX8_hasOutcome_X8_hasSet : GoodIn wsX8_hasOutcome wsX8_hasSet := goodIn_r _ [5, 6, 12, 13, 14, 15, 16, 17, 18, 19] (by decide +kernel) (by decide +kernel)
set_option maxRecDepth 20000 in
theorem gX8_hasOutcome_X8_hasSet : GoodIn wsX8_hasOutcome (wsV RX8 56 RX8 yX8_hasSet wsX8_hasSet) := goodIn_app (goodIn_of _ (by decide +kernel)) ggX8_hasOutcome_X8_hasSet
theorem dX8_hasOutcome_0 : decode cX8_hasOutcome 0 = .ok (.aload_n 0, 1) := by decide +kernel
theorem dX8_hasOutcome_1 : decode cX8_hasOutcome 1 = .ok (.iload_n 1, 1) := by decide +kernel
theorem dX8_hasOutcome_2 : decode cX8_hasOutcome 2 = .ok (.invokevirtual 56, 3) := by decide +kernel
theorem dX8_hasOutcome_5 : decode cX8_hasOutcome 5 = .ok (.ifCond .eq 20, 3) := by decide +kernel
theorem dX8_hasOutcome_8 : decode cX8_hasOutcome 8 = .ok (.iload_n 2, 1) := by decide +kernel
theorem dX8_hasOutcome_9 : decode cX8_hasOutcome 9 = .ok (.ifCond .lt 16, 3) := by decide +kernel
theorem dX8_hasOutcome_12 : decode cX8_hasOutcome 12 = .ok (.iload_n 2, 1) := by decide +kernel
theorem dX8_hasOutcome_13 : decode cX8_hasOutcome 13 = .ok (.aload_n 0, 1) := by decide +kernel
theorem dX8_hasOutcome_14 : decode cX8_hasOutcome 14 = .ok (.iload_n 1, 1) := by decide +kernel
theorem dX8_hasOutcome_15 : decode cX8_hasOutcome 15 = .ok (.invokevirtual 60, 3) := by decide +kernel
theorem dX8_hasOutcome_18 : decode cX8_hasOutcome 18 = .ok (.if_icmp .ge 7, 3) := by decide +kernel
theorem dX8_hasOutcome_21 : decode cX8_hasOutcome 21 = .ok (.iconst 1, 1) := by decide +kernel
theorem dX8_hasOutcome_22 : decode cX8_hasOutcome 22 = .ok (.goto 4, 3) := by decide +kernel
theorem dX8_hasOutcome_25 : decode cX8_hasOutcome 25 = .ok (.iconst 0, 1) := by decide +kernel
theorem dX8_hasOutcome_26 : decode cX8_hasOutcome 26 = .ok (.ireturn, 1) := by decide +kernel
theorem dX9_init_0 : decode cX9_init 0 = .ok (.aload_n 0, 1) := by decide +kernel
theorem dX9_init_1 : decode cX9_init 1 = .ok (.invokespecial 3, 3) := by decide +kernel
theorem dX9_init_4 : decode cX9_init 4 = .ok (.aload_n 0, 1) := by decide +kernel
theorem dX9_init_5 : decode cX9_init 5 = .ok (.bipush 24, 2) := by decide +kernel
theorem dX9_init_7 : decode cX9_init 7 = .ok (.newarray .int, 2) := by decide +kernel
theorem dX9_init_9 : decode cX9_init 9 = .ok (.putfield 9, 3) := by decide +kernel
theorem dX9_init_12 : decode cX9_init 12 = .ok (.aload_n 0, 1) := by decide +kernel
theorem dX9_init_13 : decode cX9_init 13 = .ok (.bipush 24, 2) := by decide +kernel
theorem dX9_init_15 : decode cX9_init 15 = .ok (.newarray .int, 2) := by decide +kernel
theorem dX9_init_17 : decode cX9_init 17 = .ok (.putfield 15, 3) := by decide +kernel
theorem dX9_init_20 : decode cX9_init 20 = .ok (.aload_n 0, 1) := by decide +kernel
theorem dX9_init_21 : decode cX9_init 21 = .ok (.bipush 24, 2) := by decide +kernel
theorem dX9_init_23 : decode cX9_init 23 = .ok (.newarray .boolean, 2) := by decide +kernel
theorem dX9_init_25 : decode cX9_init 25 = .ok (.putfield 18, 3) := by decide +kernel
theorem dX9_init_28 : decode cX9_init 28 = .ok (.aload_n 0, 1) := by decide +kernel
theorem dX9_init_29 : decode cX9_init 29 = .ok (.bipush 18, 2) := by decide +kernel
theorem dX9_init_31 : decode cX9_init 31 = .ok (.newarray .int, 2) := by decide +kernel
theorem dX9_init_33 : decode cX9_init 33 = .ok (.putfield 22, 3) := by decide +kernel
theorem dX9_init_36 : decode cX9_init 36 = .ok (.aload_n 0, 1) := by decide +kernel
theorem dX9_init_37 : decode cX9_init 37 = .ok (.bipush 18, 2) := by decide +kernel
theorem dX9_init_39 : decode cX9_init 39 = .ok (.newarray .int, 2) := by decide +kernel
theorem dX9_init_41 : decode cX9_init 41 = .ok (.putfield 25, 3) := by decide +kernel
theorem dX9_init_44 : decode cX9_init 44 = .ok (.aload_n 0, 1) := by decide +kernel
theorem dX9_init_45 : decode cX9_init 45 = .ok (.bipush 18, 2) := by decide +kernel
theorem dX9_init_47 : decode cX9_init 47 = .ok (.newarray .int, 2) := by decide +kernel
theorem dX9_init_49 : decode cX9_init 49 = .ok (.putfield 28, 3) := by decide +kernel
theorem dX9_init_52 : decode cX9_init 52 = .ok (.return_, 1) := by decide +kernel
set_option maxRecDepth 20000 in
theorem ggX10_init_X6_init : GoodIn wsX10_init wsX6_init := goodIn_r _ [44, 45, 2, 3, 46, 47, 48, 49, 50, 51, 52, 53, 54, 55, 56, 4, 57, 58, 59, 60, 61, 62, 63, 64, 65, 205, 206, 207, 208, 209, 210, 211, 212, 213, 214, 215, 216, 217, 218, 219, 220, 138, 139, 140, 141, 142, 143, 144, 145, 146, 147, 148, 149] (by decide +kernel) (by decide +kernel)
set_option maxRecDepth 20000 in
theorem gX10_init_X6_init : GoodIn wsX10_init (wsX6_init) := ggX10_init_X6_init
set_option maxRecDepth 20000 in
theorem ggX10_init_X8_init : GoodIn wsX10_init wsX8_init := goodIn_r _ [67, 68, 2, 3, 4, 69, 70, 71, 72, 150, 151, 152, 153, 154, 155, 156, 157] (by decide +kernel) (by decide +kernel)
set_option maxRecDepth 20000 in
theorem gX10_init_X8_init_n24 : GoodIn wsX10_init (wsX8_init) := ggX10_init_X8_init
set_option maxRecDepth 20000 in
theorem ggX10_init_X7_init : GoodIn wsX10_init wsX7_init := goodIn_r _ [75, 76, 2, 3, 77, 158] (by decide +kernel) (by decide +kernel)
set_option maxRecDepth 20000 in
theorem gX10_init_X7_init : GoodIn wsX10_init (wsX7_init) := ggX10_init_X7_init
set_option maxRecDepth 20000 in
theorem ggX10_init_X2_init : GoodIn wsX10_init wsX2_init := goodIn_r _ [79, 80, 2, 3, 81, 159, 160] (by decide +kernel) (by decide +kernel)
set_option maxRecDepth 20000 in
theorem gX10_init_X2_init_n40 : GoodIn wsX10_init (wsX2_init) := ggX10_init_X2_init
set_option maxRecDepth 20000 in
theorem ggX10_init_X0_init : GoodIn wsX10_init wsX0_init := goodIn_r _ [84, 85, 2, 3, 86, 50, 87, 4, 88, 89, 90, 91, 92, 93, 94, 161, 162, 163, 164, 165, 166, 167, 168, 169, 150, 151, 152, 153, 154, 155, 156, 157] (by decide +kernel) (by decide +kernel)
set_option maxRecDepth 20000 in
theorem gX10_init_X0_init : GoodIn wsX10_init (wsX0_init) := ggX10_init_X0_init
set_option maxRecDepth 20000 in
theorem ggX10_init_X5_init : GoodIn wsX10_init wsX5_init := goodIn_r _ [96, 97, 2, 3, 98, 99, 100, 170, 171, 172, 173, 174, 175] (by decide +kernel) (by decide +kernel)
set_option maxRecDepth 20000 in
theorem gX10_init_X5_init_n56 : GoodIn wsX10_init (wsX5_init) := ggX10_init_X5_init
set_option maxRecDepth 20000 in
theorem ggX10_init_X3_init : GoodIn wsX10_init wsX3_init := goodIn_r _ [102, 103, 2, 3, 4, 104, 105, 176, 177, 178, 179, 180, 181, 182, 183, 184, 185, 186, 187] (by decide +kernel) (by decide +kernel)
set_option maxRecDepth 20000 in
theorem gX10_init_X3_init_n63 : GoodIn wsX10_init (wsX3_init) := ggX10_init_X3_init
set_option maxRecDepth 20000 in
theorem ggX10_init_X9_init : GoodIn wsX10_init wsX9_init := goodIn_r _ [107, 108, 2, 3, 4, 109, 110, 99, 111, 112, 113, 114, 188, 189, 190, 191, 192, 193, 194, 195, 196, 197] (by decide +kernel) (by decide +kernel)
set_option maxRecDepth 20000 in
theorem gX10_init_X9_init_n70 : GoodIn wsX10_init (wsX9_init) := ggX10_init_X9_init
set_option maxRecDepth 20000 in
theorem ggX10_init_X4_init : GoodIn wsX10_init wsX4_init := goodIn_r _ [117, 118, 2, 3, 119, 4, 120, 121, 122, 123, 198, 199, 200, 201, 202, 203, 204] (by decide +kernel) (by decide +kernel)
set_option maxRecDepth 20000 in
theorem gX10_init_X4_init : GoodIn wsX10_init (wsX4_init) := ggX10_init_X4_init
theorem dX10_init_0 : decode cX10_init 0 = .ok (.aload_n 0, 1) := by decide +kernel
theorem dX10_init_1 : decode cX10_init 1 = .ok (.invokespecial 1, 3) := by decide +kernel
theorem dX10_init_4 : decode cX10_init 4 = .ok (.aload_n 0, 1) := by decide +kernel
theorem dX10_init_5 : decode cX10_init 5 = .ok (.sipush 900, 3) := by decide +kernel
theorem dX10_init_8 : decode cX10_init 8 = .ok (.newarray .int, 2) := by decide +kernel
theorem dX10_init_10 : decode cX10_init 10 = .ok (.putfield 9, 3) := by decide +kernel
theorem dX10_init_13 : decode cX10_init 13 = .ok (.aload_n 0, 1) := by decide +kernel
theorem dX10_init_14 : decode cX10_init 14 = .ok (.new 13, 3) := by decide +kernel
theorem dX10_init_17 : decode cX10_init 17 = .ok (.dup, 1) := by decide +kernel
theorem dX10_init_18 : decode cX10_init 18 = .ok (.aload_n 0, 1) := by decide +kernel
theorem dX10_init_19 : decode cX10_init 19 = .ok (.getfield 9, 3) := by decide +kernel
theorem dX10_init_22 : decode cX10_init 22 = .ok (.invokespecial 15, 3) := by decide +kernel
theorem dX10_init_25 : decode cX10_init 25 = .ok (.putfield 18, 3) := by decide +kernel
theorem dX10_init_28 : decode cX10_init 28 = .ok (.aload_n 0, 1) := by decide +kernel
theorem dX10_init_29 : decode cX10_init 29 = .ok (.new 22, 3) := by decide +kernel
theorem dX10_init_32 : decode cX10_init 32 = .ok (.dup, 1) := by decide +kernel
theorem dX10_init_33 : decode cX10_init 33 = .ok (.invokespecial 24, 3) := by decide +kernel
theorem dX10_init_36 : decode cX10_init 36 = .ok (.putfield 25, 3) := by decide +kernel
theorem dX10_init_39 : decode cX10_init 39 = .ok (.aload_n 0, 1) := by decide +kernel
theorem dX10_init_40 : decode cX10_init 40 = .ok (.new 29, 3) := by decide +kernel
theorem dX10_init_43 : decode cX10_init 43 = .ok (.dup, 1) := by decide +kernel
theorem dX10_init_44 : decode cX10_init 44 = .ok (.aload_n 0, 1) := by decide +kernel
theorem dX10_init_45 : decode cX10_init 45 = .ok (.getfield 25, 3) := by decide +kernel
theorem dX10_init_48 : decode cX10_init 48 = .ok (.invokespecial 31, 3) := by decide +kernel
theorem dX10_init_51 : decode cX10_init 51 = .ok (.putfield 34, 3) := by decide +kernel
theorem dX10_init_54 : decode cX10_init 54 = .ok (.aload_n 0, 1) := by decide +kernel
theorem dX10_init_55 : decode cX10_init 55 = .ok (.new 38, 3) := by decide +kernel
theorem dX10_init_58 : decode cX10_init 58 = .ok (.dup, 1) := by decide +kernel
theorem dX10_init_59 : decode cX10_init 59 = .ok (.invokespecial 40, 3) := by decide +kernel
theorem dX10_init_62 : decode cX10_init 62 = .ok (.putfield 41, 3) := by decide +kernel
theorem dX10_init_65 : decode cX10_init 65 = .ok (.aload_n 0, 1) := by decide +kernel
theorem dX10_init_66 : decode cX10_init 66 = .ok (.new 45, 3) := by decide +kernel
theorem dX10_init_69 : decode cX10_init 69 = .ok (.dup, 1) := by decide +kernel
theorem dX10_init_70 : decode cX10_init 70 = .ok (.aload_n 0, 1) := by decide +kernel
theorem dX10_init_71 : decode cX10_init 71 = .ok (.getfield 25, 3) := by decide +kernel
theorem dX10_init_74 : decode cX10_init 74 = .ok (.aload_n 0, 1) := by decide +kernel
theorem dX10_init_75 : decode cX10_init 75 = .ok (.getfield 41, 3) := by decide +kernel
theorem dX10_init_78 : decode cX10_init 78 = .ok (.invokespecial 47, 3) := by decide +kernel
theorem dX10_init_81 : decode cX10_init 81 = .ok (.putfield 50, 3) := by decide +kernel
theorem dX10_init_84 : decode cX10_init 84 = .ok (.aload_n 0, 1) := by decide +kernel
theorem dX10_init_85 : decode cX10_init 85 = .ok (.new 54, 3) := by decide +kernel
theorem dX10_init_88 : decode cX10_init 88 = .ok (.dup, 1) := by decide +kernel
theorem dX10_init_89 : decode cX10_init 89 = .ok (.invokespecial 56, 3) := by decide +kernel
theorem dX10_init_92 : decode cX10_init 92 = .ok (.putfield 57, 3) := by decide +kernel
theorem dX10_init_95 : decode cX10_init 95 = .ok (.aload_n 0, 1) := by decide +kernel
theorem dX10_init_96 : decode cX10_init 96 = .ok (.new 61, 3) := by decide +kernel
theorem dX10_init_99 : decode cX10_init 99 = .ok (.dup, 1) := by decide +kernel
theorem dX10_init_100 : decode cX10_init 100 = .ok (.invokespecial 63, 3) := by decide +kernel
theorem dX10_init_103 : decode cX10_init 103 = .ok (.putfield 64, 3) := by decide +kernel
theorem dX10_init_106 : decode cX10_init 106 = .ok (.aload_n 0, 1) := by decide +kernel
theorem dX10_init_107 : decode cX10_init 107 = .ok (.new 68, 3) := by decide +kernel
theorem dX10_init_110 : decode cX10_init 110 = .ok (.dup, 1) := by decide +kernel
theorem dX10_init_111 : decode cX10_init 111 = .ok (.invokespecial 70, 3) := by decide +kernel
theorem dX10_init_114 : decode cX10_init 114 = .ok (.putfield 71, 3) := by decide +kernel
theorem dX10_init_117 : decode cX10_init 117 = .ok (.aload_n 0, 1) := by decide +kernel
theorem dX10_init_118 : decode cX10_init 118 = .ok (.new 75, 3) := by decide +kernel
theorem dX10_init_121 : decode cX10_init 121 = .ok (.dup, 1) := by decide +kernel
theorem dX10_init_122 : decode cX10_init 122 = .ok (.aload_n 0, 1) := by decide +kernel
theorem dX10_init_123 : decode cX10_init 123 = .ok (.getfield 25, 3) := by decide +kernel
theorem dX10_init_126 : decode cX10_init 126 = .ok (.invokespecial 77, 3) := by decide +kernel
theorem dX10_init_129 : decode cX10_init 129 = .ok (.putfield 78, 3) := by decide +kernel
theorem dX10_init_132 : decode cX10_init 132 = .ok (.return_, 1) := by decide +kernel
set_option maxRecDepth 20000 in
theorem ggX10_feed_X10_put : GoodIn wsX10_feed wsX10_put := goodIn_r _ [6, 7, 1, 8, 9, 10, 11, 12, 13, 14, 15, 16, 17, 18, 19, 20, 21] (by decide +kernel) (by decide +kernel)
set_option maxRecDepth 20000 in
theorem gX10_feed_X10_put : GoodIn wsX10_feed (wsV RX10 86 RX10 yX10_put wsX10_put) := goodIn_app (goodIn_of _ (by decide +kernel)) ggX10_feed_X10_put
theorem dX10_feed_0 : decode cX10_feed 0 = .ok (.aload_n 0, 1) := by decide +kernel
theorem dX10_feed_1 : decode cX10_feed 1 = .ok (.getfield 82, 3) := by decide +kernel
theorem dX10_feed_4 : decode cX10_feed 4 = .ok (.bipush 20, 2) := by decide +kernel
theorem dX10_feed_6 : decode cX10_feed 6 = .ok (.iadd, 1) := by decide +kernel
theorem dX10_feed_7 : decode cX10_feed 7 = .ok (.sipush 900, 3) := by decide +kernel
theorem dX10_feed_10 : decode cX10_feed 10 = .ok (.if_icmp .le 5, 3) := by decide +kernel
theorem dX10_feed_13 : decode cX10_feed 13 = .ok (.iconst (-1), 1) := by decide +kernel
theorem dX10_feed_14 : decode cX10_feed 14 = .ok (.ireturn, 1) := by decide +kernel
theorem dX10_feed_15 : decode cX10_feed 15 = .ok (.aload_n 0, 1) := by decide +kernel
theorem dX10_feed_16 : decode cX10_feed 16 = .ok (.iload_n 1, 1) := by decide +kernel
theorem dX10_feed_17 : decode cX10_feed 17 = .ok (.invokevirtual 86, 3) := by decide +kernel
theorem dX10_feed_20 : decode cX10_feed 20 = .ok (.aload_n 0, 1) := by decide +kernel
theorem dX10_feed_21 : decode cX10_feed 21 = .ok (.iload_n 2, 1) := by decide +kernel
theorem dX10_feed_22 : decode cX10_feed 22 = .ok (.invokevirtual 86, 3) := by decide +kernel
theorem dX10_feed_25 : decode cX10_feed 25 = .ok (.aload_n 0, 1) := by decide +kernel
theorem dX10_feed_26 : decode cX10_feed 26 = .ok (.iload_n 3, 1) := by decide +kernel
theorem dX10_feed_27 : decode cX10_feed 27 = .ok (.invokevirtual 86, 3) := by decide +kernel
theorem dX10_feed_30 : decode cX10_feed 30 = .ok (.aload_n 0, 1) := by decide +kernel
theorem dX10_feed_31 : decode cX10_feed 31 = .ok (.iload 4, 2) := by decide +kernel
theorem dX10_feed_33 : decode cX10_feed 33 = .ok (.invokevirtual 86, 3) := by decide +kernel
theorem dX10_feed_36 : decode cX10_feed 36 = .ok (.aload_n 0, 1) := by decide +kernel
theorem dX10_feed_37 : decode cX10_feed 37 = .ok (.iload 5, 2) := by decide +kernel
theorem dX10_feed_39 : decode cX10_feed 39 = .ok (.invokevirtual 86, 3) := by decide +kernel
theorem dX10_feed_42 : decode cX10_feed 42 = .ok (.aload_n 0, 1) := by decide +kernel
theorem dX10_feed_43 : decode cX10_feed 43 = .ok (.getfield 82, 3) := by decide +kernel
theorem dX10_feed_46 : decode cX10_feed 46 = .ok (.ireturn, 1) := by decide +kernel
set_option maxRecDepth 20000 in
theorem ggX10_book_X10_refused : GoodIn wsX10_book wsX10_refused := goodIn_r _ [18, 19, 312, 313, 314, 315, 316, 317, 318, 319, 320, 321, 322, 323, 324, 325] (by decide +kernel) (by decide +kernel)
set_option maxRecDepth 20000 in
theorem gX10_book_X10_refused : GoodIn wsX10_book (wsV RX10 90 RX10 yX10_refused wsX10_refused) := goodIn_app (goodIn_of _ (by decide +kernel)) ggX10_book_X10_refused
set_option maxRecDepth 20000 in
theorem ggX10_book_X6_read : GoodIn wsX10_book wsX6_read := goodIn_r _ [24, 25, 26, 27, 28, 29, 30, 31, 32, 33, 34, 35, 36, 37, 38, 39, 40, 41, 42, 43, 44, 45, 46, 47, 48, 49, 50, 23, 51, 52, 53, 54, 55, 56, 57, 58, 59, 60, 61, 62, 63, 64, 65, 66, 67, 68, 69, 70, 71, 72, 73, 74, 75, 76, 77, 78, 79, 80, 81, 82, 83, 84, 85, 86, 87, 88, 89, 90, 91, 92, 93, 94, 95, 96, 97, 98, 99, 100, 101, 102, 103, 104, 105, 106, 107, 108, 109, 110, 111, 112, 113, 114, 115, 116, 117, 118, 119, 120, 121, 122, 123, 124, 125, 126, 127, 128, 129, 130, 131, 132, 133, 134, 135, 136, 137, 138, 139, 140, 141, 142, 143, 144, 145, 146, 147, 148, 149, 150, 151, 152, 153, 154, 155, 156, 157, 158, 159, 160, 161, 162, 163, 164, 165, 166, 167, 168, 169, 170, 171, 172, 173, 174, 175, 176, 177, 178, 179, 180, 181, 182, 183, 184, 185, 186, 187, 188, 189, 190, 191, 192, 193, 194, 195, 196, 197, 198, 199, 200, 201, 202, 203, 204, 326, 327, 328, 329, 330, 331, 332, 333, 334, 335, 336, 337, 346, 347, 348, 349, 350, 351, 352, 353, 354, 355, 356, 357, 358, 359, 360, 361] (by decide +kernel) (by decide +kernel)
set_option maxRecDepth 20000 in
theorem gX10_book_X6_read : GoodIn wsX10_book (wsV RX10 94 RX6 yX6_read wsX6_read) := goodIn_app (goodIn_of _ (by decide +kernel)) ggX10_book_X6_read
theorem dX10_book_0 : decode cX10_book 0 = .ok (.iload_n 1, 1) := by decide +kernel
theorem dX10_book_1 : decode cX10_book 1 = .ok (.ifCond .lt 11, 3) := by decide +kernel
theorem dX10_book_4 : decode cX10_book 4 = .ok (.iload_n 1, 1) := by decide +kernel
theorem dX10_book_5 : decode cX10_book 5 = .ok (.aload_n 0, 1) := by decide +kernel
theorem dX10_book_6 : decode cX10_book 6 = .ok (.getfield 82, 3) := by decide +kernel
theorem dX10_book_9 : decode cX10_book 9 = .ok (.if_icmp .le 9, 3) := by decide +kernel
theorem dX10_book_12 : decode cX10_book 12 = .ok (.aload_n 0, 1) := by decide +kernel
theorem dX10_book_13 : decode cX10_book 13 = .ok (.iconst 2, 1) := by decide +kernel
theorem dX10_book_14 : decode cX10_book 14 = .ok (.invokevirtual 90, 3) := by decide +kernel
theorem dX10_book_17 : decode cX10_book 17 = .ok (.ireturn, 1) := by decide +kernel
theorem dX10_book_18 : decode cX10_book 18 = .ok (.aload_n 0, 1) := by decide +kernel
theorem dX10_book_19 : decode cX10_book 19 = .ok (.iconst 0, 1) := by decide +kernel
theorem dX10_book_20 : decode cX10_book 20 = .ok (.putfield 82, 3) := by decide +kernel
theorem dX10_book_23 : decode cX10_book 23 = .ok (.aload_n 0, 1) := by decide +kernel
theorem dX10_book_24 : decode cX10_book 24 = .ok (.getfield 18, 3) := by decide +kernel
theorem dX10_book_27 : decode cX10_book 27 = .ok (.iload_n 1, 1) := by decide +kernel
theorem dX10_book_28 : decode cX10_book 28 = .ok (.invokevirtual 94, 3) := by decide +kernel
theorem dX10_book_31 : decode cX10_book 31 = .ok (.aload_n 0, 1) := by decide +kernel
theorem dX10_book_32 : decode cX10_book 32 = .ok (.aload_n 0, 1) := by decide +kernel
theorem dX10_book_33 : decode cX10_book 33 = .ok (.getfield 18, 3) := by decide +kernel
theorem dX10_book_36 : decode cX10_book 36 = .ok (.getfield 97, 3) := by decide +kernel
theorem dX10_book_39 : decode cX10_book 39 = .ok (.putfield 100, 3) := by decide +kernel
theorem dX10_book_42 : decode cX10_book 42 = .ok (.aload_n 0, 1) := by decide +kernel
theorem dX10_book_43 : decode cX10_book 43 = .ok (.getfield 100, 3) := by decide +kernel
theorem dX10_book_46 : decode cX10_book 46 = .ok (.ifCond .eq 20, 3) := by decide +kernel
theorem dX10_book_49 : decode cX10_book 49 = .ok (.aload_n 0, 1) := by decide +kernel
theorem dX10_book_50 : decode cX10_book 50 = .ok (.aload_n 0, 1) := by decide +kernel
theorem dX10_book_51 : decode cX10_book 51 = .ok (.getfield 18, 3) := by decide +kernel
theorem dX10_book_54 : decode cX10_book 54 = .ok (.getfield 103, 3) := by decide +kernel
theorem dX10_book_57 : decode cX10_book 57 = .ok (.putfield 106, 3) := by decide +kernel
theorem dX10_book_60 : decode cX10_book 60 = .ok (.aload_n 0, 1) := by decide +kernel
theorem dX10_book_61 : decode cX10_book 61 = .ok (.iconst 4, 1) := by decide +kernel
theorem dX10_book_62 : decode cX10_book 62 = .ok (.invokevirtual 90, 3) := by decide +kernel
theorem dX10_book_65 : decode cX10_book 65 = .ok (.ireturn, 1) := by decide +kernel
theorem dX10_book_66 : decode cX10_book 66 = .ok (.aload_n 0, 1) := by decide +kernel
theorem dX10_book_67 : decode cX10_book 67 = .ok (.getfield 25, 3) := by decide +kernel
theorem dX10_book_70 : decode cX10_book 70 = .ok (.aload_n 0, 1) := by decide +kernel
theorem dX10_book_71 : decode cX10_book 71 = .ok (.getfield 18, 3) := by decide +kernel
theorem dX10_book_74 : decode cX10_book 74 = .ok (.getfield 109, 3) := by decide +kernel
theorem dX10_book_77 : decode cX10_book 77 = .ok (.invokevirtual 113, 3) := by decide +kernel
theorem dX10_book_80 : decode cX10_book 80 = .ok (.aload_n 0, 1) := by decide +kernel
theorem dX10_book_81 : decode cX10_book 81 = .ok (.getfield 57, 3) := by decide +kernel
theorem dX10_book_84 : decode cX10_book 84 = .ok (.aload_n 0, 1) := by decide +kernel
theorem dX10_book_85 : decode cX10_book 85 = .ok (.getfield 18, 3) := by decide +kernel
theorem dX10_book_88 : decode cX10_book 88 = .ok (.getfield 109, 3) := by decide +kernel
theorem dX10_book_91 : decode cX10_book 91 = .ok (.invokevirtual 117, 3) := by decide +kernel
theorem dX10_book_94 : decode cX10_book 94 = .ok (.aload_n 0, 1) := by decide +kernel
theorem dX10_book_95 : decode cX10_book 95 = .ok (.getfield 64, 3) := by decide +kernel
theorem dX10_book_98 : decode cX10_book 98 = .ok (.aload_n 0, 1) := by decide +kernel
theorem dX10_book_99 : decode cX10_book 99 = .ok (.getfield 18, 3) := by decide +kernel
theorem dX10_book_102 : decode cX10_book 102 = .ok (.getfield 109, 3) := by decide +kernel
theorem dX10_book_105 : decode cX10_book 105 = .ok (.invokevirtual 118, 3) := by decide +kernel
theorem dX10_book_108 : decode cX10_book 108 = .ok (.aload_n 0, 1) := by decide +kernel
theorem dX10_book_109 : decode cX10_book 109 = .ok (.getfield 71, 3) := by decide +kernel
theorem dX10_book_112 : decode cX10_book 112 = .ok (.aload_n 0, 1) := by decide +kernel
theorem dX10_book_113 : decode cX10_book 113 = .ok (.getfield 18, 3) := by decide +kernel
theorem dX10_book_116 : decode cX10_book 116 = .ok (.getfield 109, 3) := by decide +kernel
theorem dX10_book_119 : decode cX10_book 119 = .ok (.invokevirtual 119, 3) := by decide +kernel
theorem dX10_book_122 : decode cX10_book 122 = .ok (.aload_n 0, 1) := by decide +kernel
theorem dX10_book_123 : decode cX10_book 123 = .ok (.getfield 78, 3) := by decide +kernel
theorem dX10_book_126 : decode cX10_book 126 = .ok (.invokevirtual 120, 3) := by decide +kernel
theorem dX10_book_129 : decode cX10_book 129 = .ok (.aload_n 0, 1) := by decide +kernel
theorem dX10_book_130 : decode cX10_book 130 = .ok (.aload_n 0, 1) := by decide +kernel
theorem dX10_book_131 : decode cX10_book 131 = .ok (.getfield 25, 3) := by decide +kernel
theorem dX10_book_134 : decode cX10_book 134 = .ok (.getfield 122, 3) := by decide +kernel
theorem dX10_book_137 : decode cX10_book 137 = .ok (.invokevirtual 125, 3) := by decide +kernel
theorem dX10_book_140 : decode cX10_book 140 = .ok (.ireturn, 1) := by decide +kernel
theorem dX10_fault_0 : decode cX10_fault 0 = .ok (.aload_n 0, 1) := by decide +kernel
theorem dX10_fault_1 : decode cX10_fault 1 = .ok (.getfield 100, 3) := by decide +kernel
theorem dX10_fault_4 : decode cX10_fault 4 = .ok (.ireturn, 1) := by decide +kernel
theorem dX10_where_0 : decode cX10_where 0 = .ok (.aload_n 0, 1) := by decide +kernel
theorem dX10_where_1 : decode cX10_where 1 = .ok (.getfield 128, 3) := by decide +kernel
theorem dX10_where_4 : decode cX10_where 4 = .ok (.iconst 4, 1) := by decide +kernel
theorem dX10_where_5 : decode cX10_where 5 = .ok (.if_icmp .ne 10, 3) := by decide +kernel
theorem dX10_where_8 : decode cX10_where 8 = .ok (.aload_n 0, 1) := by decide +kernel
theorem dX10_where_9 : decode cX10_where 9 = .ok (.getfield 106, 3) := by decide +kernel
theorem dX10_where_12 : decode cX10_where 12 = .ok (.goto 4, 3) := by decide +kernel
theorem dX10_where_15 : decode cX10_where 15 = .ok (.iconst (-1), 1) := by decide +kernel
theorem dX10_where_16 : decode cX10_where 16 = .ok (.ireturn, 1) := by decide +kernel
set_option maxRecDepth 20000 in
theorem ggX10_share_X10_noBook : GoodIn wsX10_share wsX10_noBook := goodIn_r _ [7, 8, 9, 108, 109, 110, 111, 112, 113, 114, 115, 116, 117, 118, 119, 120, 121, 122, 123, 124, 125, 126, 127, 128, 129] (by decide +kernel) (by decide +kernel)
set_option maxRecDepth 20000 in
theorem gX10_share_X10_noBook : GoodIn wsX10_share (wsV RX10 131 RX10 yX10_noBook wsX10_noBook) := goodIn_app (goodIn_of _ (by decide +kernel)) ggX10_share_X10_noBook
set_option maxRecDepth 20000 in
theorem ggX10_share_X10_refused : GoodIn wsX10_share wsX10_refused := goodIn_r _ [13, 14, 108, 109, 110, 111, 112, 113, 114, 115, 116, 117, 118, 119, 120, 121] (by decide +kernel) (by decide +kernel)
set_option maxRecDepth 20000 in
theorem gX10_share_X10_refused : GoodIn wsX10_share (wsV RX10 90 RX10 yX10_refused wsX10_refused) := goodIn_app (goodIn_of _ (by decide +kernel)) ggX10_share_X10_refused
theorem dX10_share_0 : decode cX10_share 0 = .ok (.aload_n 0, 1) := by decide +kernel
theorem dX10_share_1 : decode cX10_share 1 = .ok (.invokevirtual 131, 3) := by decide +kernel
theorem dX10_share_4 : decode cX10_share 4 = .ok (.ifCond .eq 9, 3) := by decide +kernel
theorem dX10_share_7 : decode cX10_share 7 = .ok (.aload_n 0, 1) := by decide +kernel
theorem dX10_share_8 : decode cX10_share 8 = .ok (.iconst 1, 1) := by decide +kernel
theorem dX10_share_9 : decode cX10_share 9 = .ok (.invokevirtual 90, 3) := by decide +kernel
theorem dX10_share_12 : decode cX10_share 12 = .ok (.ireturn, 1) := by decide +kernel
theorem dX10_share_13 : decode cX10_share 13 = .ok (.aload_n 0, 1) := by decide +kernel
theorem dX10_share_14 : decode cX10_share 14 = .ok (.getfield 50, 3) := by decide +kernel
theorem dX10_share_17 : decode cX10_share 17 = .ok (.invokevirtual 135, 3) := by decide +kernel
theorem dX10_share_20 : decode cX10_share 20 = .ok (.aload_n 0, 1) := by decide +kernel
theorem dX10_share_21 : decode cX10_share 21 = .ok (.aload_n 0, 1) := by decide +kernel
theorem dX10_share_22 : decode cX10_share 22 = .ok (.getfield 41, 3) := by decide +kernel
theorem dX10_share_25 : decode cX10_share 25 = .ok (.iload_n 1, 1) := by decide +kernel
theorem dX10_share_26 : decode cX10_share 26 = .ok (.invokevirtual 138, 3) := by decide +kernel
theorem dX10_share_29 : decode cX10_share 29 = .ok (.invokevirtual 125, 3) := by decide +kernel
theorem dX10_share_32 : decode cX10_share 32 = .ok (.ireturn, 1) := by decide +kernel
set_option maxRecDepth 20000 in
theorem ggX10_together_X8_hasLook : GoodIn wsX10_together wsX8_hasLook := goodIn_r _ [8, 9, 135, 136, 137, 138, 139, 140, 141, 142] (by decide +kernel) (by decide +kernel)
set_option maxRecDepth 20000 in
theorem gX10_together_X8_hasLook : GoodIn wsX10_together (wsV RX10 142 RX8 yX8_hasLook wsX8_hasLook) := goodIn_app (goodIn_of _ (by decide +kernel)) ggX10_together_X8_hasLook
set_option maxRecDepth 20000 in
theorem ggX10_together_X10_refused : GoodIn wsX10_together wsX10_refused := goodIn_r _ [17, 18, 121, 122, 123, 124, 125, 126, 127, 128, 129, 130, 131, 132, 133, 134] (by decide +kernel) (by decide +kernel)
set_option maxRecDepth 20000 in
theorem gX10_together_X10_refused : GoodIn wsX10_together (wsV RX10 90 RX10 yX10_refused wsX10_refused) := goodIn_app (goodIn_of _ (by decide +kernel)) ggX10_together_X10_refused
theorem dX10_together_0 : decode cX10_together 0 = .ok (.aload_n 0, 1) := by decide +kernel
theorem dX10_together_1 : decode cX10_together 1 = .ok (.getfield 25, 3) := by decide +kernel
theorem dX10_together_4 : decode cX10_together 4 = .ok (.iload_n 1, 1) := by decide +kernel
theorem dX10_together_5 : decode cX10_together 5 = .ok (.invokevirtual 142, 3) := by decide +kernel
theorem dX10_together_8 : decode cX10_together 8 = .ok (.ifCond .eq 34, 3) := by decide +kernel
theorem dX10_together_11 : decode cX10_together 11 = .ok (.aload_n 0, 1) := by decide +kernel
theorem dX10_together_12 : decode cX10_together 12 = .ok (.getfield 25, 3) := by decide +kernel
theorem dX10_together_15 : decode cX10_together 15 = .ok (.iload_n 3, 1) := by decide +kernel
theorem dX10_together_16 : decode cX10_together 16 = .ok (.invokevirtual 142, 3) := by decide +kernel
theorem dX10_together_19 : decode cX10_together 19 = .ok (.ifCond .eq 23, 3) := by decide +kernel
theorem dX10_together_22 : decode cX10_together 22 = .ok (.iload_n 1, 1) := by decide +kernel
theorem dX10_together_23 : decode cX10_together 23 = .ok (.iload_n 3, 1) := by decide +kernel
theorem dX10_together_24 : decode cX10_together 24 = .ok (.if_icmp .eq 18, 3) := by decide +kernel
theorem dX10_together_27 : decode cX10_together 27 = .ok (.iload_n 2, 1) := by decide +kernel
theorem dX10_together_28 : decode cX10_together 28 = .ok (.invokestatic 146, 3) := by decide +kernel
theorem dX10_together_31 : decode cX10_together 31 = .ok (.ifCond .eq 11, 3) := by decide +kernel
theorem dX10_together_34 : decode cX10_together 34 = .ok (.iload 4, 2) := by decide +kernel
theorem dX10_together_36 : decode cX10_together 36 = .ok (.invokestatic 146, 3) := by decide +kernel
theorem dX10_together_39 : decode cX10_together 39 = .ok (.ifCond .ne 9, 3) := by decide +kernel
theorem dX10_together_42 : decode cX10_together 42 = .ok (.aload_n 0, 1) := by decide +kernel
theorem dX10_together_43 : decode cX10_together 43 = .ok (.iconst 1, 1) := by decide +kernel
theorem dX10_together_44 : decode cX10_together 44 = .ok (.invokevirtual 90, 3) := by decide +kernel
theorem dX10_together_47 : decode cX10_together 47 = .ok (.ireturn, 1) := by decide +kernel
theorem dX10_together_48 : decode cX10_together 48 = .ok (.aload_n 0, 1) := by decide +kernel
theorem dX10_together_49 : decode cX10_together 49 = .ok (.getfield 50, 3) := by decide +kernel
theorem dX10_together_52 : decode cX10_together 52 = .ok (.invokevirtual 149, 3) := by decide +kernel
theorem dX10_together_55 : decode cX10_together 55 = .ok (.ifCond .ne 10, 3) := by decide +kernel
theorem dX10_together_58 : decode cX10_together 58 = .ok (.aload_n 0, 1) := by decide +kernel
theorem dX10_together_59 : decode cX10_together 59 = .ok (.bipush 6, 2) := by decide +kernel
theorem dX10_together_61 : decode cX10_together 61 = .ok (.invokevirtual 90, 3) := by decide +kernel
theorem dX10_together_64 : decode cX10_together 64 = .ok (.ireturn, 1) := by decide +kernel
theorem dX10_together_65 : decode cX10_together 65 = .ok (.aload_n 0, 1) := by decide +kernel
theorem dX10_together_66 : decode cX10_together 66 = .ok (.getfield 50, 3) := by decide +kernel
theorem dX10_together_69 : decode cX10_together 69 = .ok (.iconst 1, 1) := by decide +kernel
theorem dX10_together_70 : decode cX10_together 70 = .ok (.iload_n 1, 1) := by decide +kernel
theorem dX10_together_71 : decode cX10_together 71 = .ok (.ishl, 1) := by decide +kernel
theorem dX10_together_72 : decode cX10_together 72 = .ok (.iconst 1, 1) := by decide +kernel
theorem dX10_together_73 : decode cX10_together 73 = .ok (.iload_n 3, 1) := by decide +kernel
theorem dX10_together_74 : decode cX10_together 74 = .ok (.ishl, 1) := by decide +kernel
theorem dX10_together_75 : decode cX10_together 75 = .ok (.ior, 1) := by decide +kernel
theorem dX10_together_76 : decode cX10_together 76 = .ok (.iload_n 2, 1) := by decide +kernel
theorem dX10_together_77 : decode cX10_together 77 = .ok (.iload_n 1, 1) := by decide +kernel
theorem dX10_together_78 : decode cX10_together 78 = .ok (.ishl, 1) := by decide +kernel
theorem dX10_together_79 : decode cX10_together 79 = .ok (.iload 4, 2) := by decide +kernel
theorem dX10_together_81 : decode cX10_together 81 = .ok (.iload_n 3, 1) := by decide +kernel
theorem dX10_together_82 : decode cX10_together 82 = .ok (.ishl, 1) := by decide +kernel
theorem dX10_together_83 : decode cX10_together 83 = .ok (.ior, 1) := by decide +kernel
theorem dX10_together_84 : decode cX10_together 84 = .ok (.iload 5, 2) := by decide +kernel
theorem dX10_together_86 : decode cX10_together 86 = .ok (.invokevirtual 152, 3) := by decide +kernel
theorem dX10_together_89 : decode cX10_together 89 = .ok (.aload_n 0, 1) := by decide +kernel
theorem dX10_together_90 : decode cX10_together 90 = .ok (.aload_n 0, 1) := by decide +kernel
theorem dX10_together_91 : decode cX10_together 91 = .ok (.getfield 41, 3) := by decide +kernel
theorem dX10_together_94 : decode cX10_together 94 = .ok (.iload 6, 2) := by decide +kernel
theorem dX10_together_96 : decode cX10_together 96 = .ok (.invokevirtual 138, 3) := by decide +kernel
theorem dX10_together_99 : decode cX10_together 99 = .ok (.invokevirtual 125, 3) := by decide +kernel
theorem dX10_together_102 : decode cX10_together 102 = .ok (.ireturn, 1) := by decide +kernel
set_option maxRecDepth 20000 in
theorem ggX10_extend_X8_hasOutcome : GoodIn wsX10_extend wsX8_hasOutcome := goodIn_r _ [6, 7, 8, 9, 5, 10, 11, 12, 13, 14, 15, 16, 60, 61, 62, 63, 64, 65, 66, 67] (by decide +kernel) (by decide +kernel)
set_option maxRecDepth 20000 in
theorem gX10_extend_X8_hasOutcome : GoodIn wsX10_extend (wsV RX10 156 RX8 yX8_hasOutcome wsX8_hasOutcome) := goodIn_app (goodIn_of _ (by decide +kernel)) ggX10_extend_X8_hasOutcome
set_option maxRecDepth 20000 in
theorem ggX10_extend_X10_refused : GoodIn wsX10_extend wsX10_refused := goodIn_r _ [21, 22, 46, 47, 48, 49, 50, 51, 52, 53, 54, 55, 56, 57, 58, 59] (by decide +kernel) (by decide +kernel)
set_option maxRecDepth 20000 in
theorem gX10_extend_X10_refused : GoodIn wsX10_extend (wsV RX10 90 RX10 yX10_refused wsX10_refused) := goodIn_app (goodIn_of _ (by decide +kernel)) ggX10_extend_X10_refused
theorem dX10_extend_0 : decode cX10_extend 0 = .ok (.aload_n 0, 1) := by decide +kernel
theorem dX10_extend_1 : decode cX10_extend 1 = .ok (.getfield 25, 3) := by decide +kernel
theorem dX10_extend_4 : decode cX10_extend 4 = .ok (.iload_n 1, 1) := by decide +kernel
theorem dX10_extend_5 : decode cX10_extend 5 = .ok (.iload_n 2, 1) := by decide +kernel
theorem dX10_extend_6 : decode cX10_extend 6 = .ok (.invokevirtual 156, 3) := by decide +kernel
theorem dX10_extend_9 : decode cX10_extend 9 = .ok (.ifCond .ne 9, 3) := by decide +kernel
theorem dX10_extend_12 : decode cX10_extend 12 = .ok (.aload_n 0, 1) := by decide +kernel
theorem dX10_extend_13 : decode cX10_extend 13 = .ok (.iconst 1, 1) := by decide +kernel
theorem dX10_extend_14 : decode cX10_extend 14 = .ok (.invokevirtual 90, 3) := by decide +kernel
theorem dX10_extend_17 : decode cX10_extend 17 = .ok (.ireturn, 1) := by decide +kernel
theorem dX10_extend_18 : decode cX10_extend 18 = .ok (.aload_n 0, 1) := by decide +kernel
theorem dX10_extend_19 : decode cX10_extend 19 = .ok (.aload_n 0, 1) := by decide +kernel
theorem dX10_extend_20 : decode cX10_extend 20 = .ok (.getfield 25, 3) := by decide +kernel
theorem dX10_extend_23 : decode cX10_extend 23 = .ok (.invokevirtual 160, 3) := by decide +kernel
theorem dX10_extend_26 : decode cX10_extend 26 = .ok (.iconst 4, 1) := by decide +kernel
theorem dX10_extend_27 : decode cX10_extend 27 = .ok (.iload_n 1, 1) := by decide +kernel
theorem dX10_extend_28 : decode cX10_extend 28 = .ok (.imul, 1) := by decide +kernel
theorem dX10_extend_29 : decode cX10_extend 29 = .ok (.iload_n 2, 1) := by decide +kernel
theorem dX10_extend_30 : decode cX10_extend 30 = .ok (.iadd, 1) := by decide +kernel
theorem dX10_extend_31 : decode cX10_extend 31 = .ok (.iushr, 1) := by decide +kernel
theorem dX10_extend_32 : decode cX10_extend 32 = .ok (.iconst 1, 1) := by decide +kernel
theorem dX10_extend_33 : decode cX10_extend 33 = .ok (.iand, 1) := by decide +kernel
theorem dX10_extend_34 : decode cX10_extend 34 = .ok (.invokevirtual 125, 3) := by decide +kernel
theorem dX10_extend_37 : decode cX10_extend 37 = .ok (.ireturn, 1) := by decide +kernel
set_option maxRecDepth 20000 in
theorem ggX10_level_X10_noBook : GoodIn wsX10_level wsX10_noBook := goodIn_r _ [7, 2, 8, 102, 103, 104, 105, 106, 107, 108, 109, 110, 111, 112, 113, 114, 115, 116, 117, 118, 119, 120, 121, 122, 123] (by decide +kernel) (by decide +kernel)
set_option maxRecDepth 20000 in
theorem gX10_level_X10_noBook : GoodIn wsX10_level (wsV RX10 131 RX10 yX10_noBook wsX10_noBook) := goodIn_app (goodIn_of _ (by decide +kernel)) ggX10_level_X10_noBook
set_option maxRecDepth 20000 in
theorem ggX10_level_X10_refused : GoodIn wsX10_level wsX10_refused := goodIn_r _ [12, 13, 102, 103, 104, 105, 106, 107, 108, 109, 110, 111, 112, 113, 114, 115] (by decide +kernel) (by decide +kernel)
set_option maxRecDepth 20000 in
theorem gX10_level_X10_refused : GoodIn wsX10_level (wsV RX10 90 RX10 yX10_refused wsX10_refused) := goodIn_app (goodIn_of _ (by decide +kernel)) ggX10_level_X10_refused
theorem dX10_level_0 : decode cX10_level 0 = .ok (.aload_n 0, 1) := by decide +kernel
theorem dX10_level_1 : decode cX10_level 1 = .ok (.invokevirtual 131, 3) := by decide +kernel
theorem dX10_level_4 : decode cX10_level 4 = .ok (.ifCond .eq 9, 3) := by decide +kernel
theorem dX10_level_7 : decode cX10_level 7 = .ok (.aload_n 0, 1) := by decide +kernel
theorem dX10_level_8 : decode cX10_level 8 = .ok (.iconst 1, 1) := by decide +kernel
theorem dX10_level_9 : decode cX10_level 9 = .ok (.invokevirtual 90, 3) := by decide +kernel
theorem dX10_level_12 : decode cX10_level 12 = .ok (.ireturn, 1) := by decide +kernel
theorem dX10_level_13 : decode cX10_level 13 = .ok (.aload_n 0, 1) := by decide +kernel
theorem dX10_level_14 : decode cX10_level 14 = .ok (.getfield 50, 3) := by decide +kernel
theorem dX10_level_17 : decode cX10_level 17 = .ok (.invokevirtual 149, 3) := by decide +kernel
theorem dX10_level_20 : decode cX10_level 20 = .ok (.ifCond .eq 9, 3) := by decide +kernel
theorem dX10_level_23 : decode cX10_level 23 = .ok (.aload_n 0, 1) := by decide +kernel
theorem dX10_level_24 : decode cX10_level 24 = .ok (.iconst 0, 1) := by decide +kernel
theorem dX10_level_25 : decode cX10_level 25 = .ok (.invokevirtual 125, 3) := by decide +kernel
theorem dX10_level_28 : decode cX10_level 28 = .ok (.ireturn, 1) := by decide +kernel
theorem dX10_level_29 : decode cX10_level 29 = .ok (.aload_n 0, 1) := by decide +kernel
theorem dX10_level_30 : decode cX10_level 30 = .ok (.getfield 25, 3) := by decide +kernel
theorem dX10_level_33 : decode cX10_level 33 = .ok (.invokevirtual 164, 3) := by decide +kernel
theorem dX10_level_36 : decode cX10_level 36 = .ok (.istore_n 1, 1) := by decide +kernel
theorem dX10_level_37 : decode cX10_level 37 = .ok (.iload_n 1, 1) := by decide +kernel
theorem dX10_level_38 : decode cX10_level 38 = .ok (.aload_n 0, 1) := by decide +kernel
theorem dX10_level_39 : decode cX10_level 39 = .ok (.getfield 25, 3) := by decide +kernel
theorem dX10_level_42 : decode cX10_level 42 = .ok (.invokevirtual 160, 3) := by decide +kernel
theorem dX10_level_45 : decode cX10_level 45 = .ok (.iand, 1) := by decide +kernel
theorem dX10_level_46 : decode cX10_level 46 = .ok (.istore_n 2, 1) := by decide +kernel
theorem dX10_level_47 : decode cX10_level 47 = .ok (.iload_n 2, 1) := by decide +kernel
theorem dX10_level_48 : decode cX10_level 48 = .ok (.iload_n 1, 1) := by decide +kernel
theorem dX10_level_49 : decode cX10_level 49 = .ok (.if_icmp .ne 9, 3) := by decide +kernel
theorem dX10_level_52 : decode cX10_level 52 = .ok (.aload_n 0, 1) := by decide +kernel
theorem dX10_level_53 : decode cX10_level 53 = .ok (.iconst 1, 1) := by decide +kernel
theorem dX10_level_54 : decode cX10_level 54 = .ok (.invokevirtual 125, 3) := by decide +kernel
theorem dX10_level_57 : decode cX10_level 57 = .ok (.ireturn, 1) := by decide +kernel
theorem dX10_level_58 : decode cX10_level 58 = .ok (.aload_n 0, 1) := by decide +kernel
theorem dX10_level_59 : decode cX10_level 59 = .ok (.iload_n 2, 1) := by decide +kernel
theorem dX10_level_60 : decode cX10_level 60 = .ok (.ifCond .eq 7, 3) := by decide +kernel
theorem dX10_level_63 : decode cX10_level 63 = .ok (.iconst 2, 1) := by decide +kernel
theorem dX10_level_64 : decode cX10_level 64 = .ok (.goto 4, 3) := by decide +kernel
theorem dX10_level_67 : decode cX10_level 67 = .ok (.iconst 3, 1) := by decide +kernel
theorem dX10_level_68 : decode cX10_level 68 = .ok (.invokevirtual 125, 3) := by decide +kernel
theorem dX10_level_71 : decode cX10_level 71 = .ok (.ireturn, 1) := by decide +kernel
set_option maxRecDepth 20000 in
theorem ggX10_hidden_X10_noBook : GoodIn wsX10_hidden wsX10_noBook := goodIn_r _ [6, 1, 7, 39, 40, 41, 42, 43, 44, 45, 46, 47, 48, 49, 50, 51, 52, 53, 54, 55, 56, 57, 58, 59, 60] (by decide +kernel) (by decide +kernel)
set_option maxRecDepth 20000 in
theorem gX10_hidden_X10_noBook : GoodIn wsX10_hidden (wsV RX10 131 RX10 yX10_noBook wsX10_noBook) := goodIn_app (goodIn_of _ (by decide +kernel)) ggX10_hidden_X10_noBook
set_option maxRecDepth 20000 in
theorem ggX10_hidden_X10_refused : GoodIn wsX10_hidden wsX10_refused := goodIn_r _ [11, 12, 39, 40, 41, 42, 43, 44, 45, 46, 47, 48, 49, 50, 51, 52] (by decide +kernel) (by decide +kernel)
set_option maxRecDepth 20000 in
theorem gX10_hidden_X10_refused : GoodIn wsX10_hidden (wsV RX10 90 RX10 yX10_refused wsX10_refused) := goodIn_app (goodIn_of _ (by decide +kernel)) ggX10_hidden_X10_refused
theorem dX10_hidden_0 : decode cX10_hidden 0 = .ok (.aload_n 0, 1) := by decide +kernel
theorem dX10_hidden_1 : decode cX10_hidden 1 = .ok (.invokevirtual 131, 3) := by decide +kernel
theorem dX10_hidden_4 : decode cX10_hidden 4 = .ok (.ifCond .eq 9, 3) := by decide +kernel
theorem dX10_hidden_7 : decode cX10_hidden 7 = .ok (.aload_n 0, 1) := by decide +kernel
theorem dX10_hidden_8 : decode cX10_hidden 8 = .ok (.iconst 1, 1) := by decide +kernel
theorem dX10_hidden_9 : decode cX10_hidden 9 = .ok (.invokevirtual 90, 3) := by decide +kernel
theorem dX10_hidden_12 : decode cX10_hidden 12 = .ok (.ireturn, 1) := by decide +kernel
theorem dX10_hidden_13 : decode cX10_hidden 13 = .ok (.aload_n 0, 1) := by decide +kernel
theorem dX10_hidden_14 : decode cX10_hidden 14 = .ok (.aload_n 0, 1) := by decide +kernel
theorem dX10_hidden_15 : decode cX10_hidden 15 = .ok (.getfield 25, 3) := by decide +kernel
theorem dX10_hidden_18 : decode cX10_hidden 18 = .ok (.invokevirtual 167, 3) := by decide +kernel
theorem dX10_hidden_21 : decode cX10_hidden 21 = .ok (.invokevirtual 125, 3) := by decide +kernel
theorem dX10_hidden_24 : decode cX10_hidden 24 = .ok (.ireturn, 1) := by decide +kernel
set_option maxRecDepth 20000 in
theorem ggX10_answer_X10_noBook : GoodIn wsX10_answer wsX10_noBook := goodIn_r _ [6, 1, 7, 39, 40, 41, 42, 43, 44, 45, 46, 47, 48, 49, 50, 51, 52, 53, 54, 55, 56, 57, 58, 59, 60] (by decide +kernel) (by decide +kernel)
set_option maxRecDepth 20000 in
theorem gX10_answer_X10_noBook : GoodIn wsX10_answer (wsV RX10 131 RX10 yX10_noBook wsX10_noBook) := goodIn_app (goodIn_of _ (by decide +kernel)) ggX10_answer_X10_noBook
set_option maxRecDepth 20000 in
theorem ggX10_answer_X10_refused : GoodIn wsX10_answer wsX10_refused := goodIn_r _ [33, 34, 39, 40, 41, 42, 43, 44, 45, 46, 47, 48, 49, 50, 51, 52] (by decide +kernel) (by decide +kernel)
set_option maxRecDepth 20000 in
theorem gX10_answer_X10_refused : GoodIn wsX10_answer (wsV RX10 90 RX10 yX10_refused wsX10_refused) := goodIn_app (goodIn_of _ (by decide +kernel)) ggX10_answer_X10_refused
theorem dX10_answer_0 : decode cX10_answer 0 = .ok (.aload_n 0, 1) := by decide +kernel
theorem dX10_answer_1 : decode cX10_answer 1 = .ok (.invokevirtual 131, 3) := by decide +kernel
theorem dX10_answer_4 : decode cX10_answer 4 = .ok (.ifCond .eq 7, 3) := by decide +kernel
theorem dX10_answer_7 : decode cX10_answer 7 = .ok (.iconst (-1), 1) := by decide +kernel
theorem dX10_answer_8 : decode cX10_answer 8 = .ok (.goto 11, 3) := by decide +kernel
theorem dX10_answer_11 : decode cX10_answer 11 = .ok (.aload_n 0, 1) := by decide +kernel
theorem dX10_answer_12 : decode cX10_answer 12 = .ok (.getfield 25, 3) := by decide +kernel
theorem dX10_answer_15 : decode cX10_answer 15 = .ok (.iload_n 1, 1) := by decide +kernel
theorem dX10_answer_16 : decode cX10_answer 16 = .ok (.invokevirtual 170, 3) := by decide +kernel
theorem dX10_answer_19 : decode cX10_answer 19 = .ok (.istore_n 2, 1) := by decide +kernel
theorem dX10_answer_20 : decode cX10_answer 20 = .ok (.iload_n 2, 1) := by decide +kernel
theorem dX10_answer_21 : decode cX10_answer 21 = .ok (.ifCond .ge 11, 3) := by decide +kernel
theorem dX10_answer_24 : decode cX10_answer 24 = .ok (.aload_n 0, 1) := by decide +kernel
theorem dX10_answer_25 : decode cX10_answer 25 = .ok (.iconst 1, 1) := by decide +kernel
theorem dX10_answer_26 : decode cX10_answer 26 = .ok (.invokevirtual 90, 3) := by decide +kernel
theorem dX10_answer_29 : decode cX10_answer 29 = .ok (.goto 8, 3) := by decide +kernel
theorem dX10_answer_32 : decode cX10_answer 32 = .ok (.aload_n 0, 1) := by decide +kernel
theorem dX10_answer_33 : decode cX10_answer 33 = .ok (.iload_n 2, 1) := by decide +kernel
theorem dX10_answer_34 : decode cX10_answer 34 = .ok (.invokevirtual 125, 3) := by decide +kernel
theorem dX10_answer_37 : decode cX10_answer 37 = .ok (.ireturn, 1) := by decide +kernel
set_option maxRecDepth 20000 in
theorem ggX10_disturbed_X10_noBook : GoodIn wsX10_disturbed wsX10_noBook := goodIn_r _ [6, 1, 7, 31, 32, 33, 34, 35, 36, 37, 38, 39, 40, 41, 42, 43, 44, 45, 46, 47, 48, 49, 50, 51, 52] (by decide +kernel) (by decide +kernel)
set_option maxRecDepth 20000 in
theorem gX10_disturbed_X10_noBook : GoodIn wsX10_disturbed (wsV RX10 131 RX10 yX10_noBook wsX10_noBook) := goodIn_app (goodIn_of _ (by decide +kernel)) ggX10_disturbed_X10_noBook
set_option maxRecDepth 20000 in
theorem ggX10_disturbed_X10_refused : GoodIn wsX10_disturbed wsX10_refused := goodIn_r _ [11, 12, 31, 32, 33, 34, 35, 36, 37, 38, 39, 40, 41, 42, 43, 44] (by decide +kernel) (by decide +kernel)
set_option maxRecDepth 20000 in
theorem gX10_disturbed_X10_refused : GoodIn wsX10_disturbed (wsV RX10 90 RX10 yX10_refused wsX10_refused) := goodIn_app (goodIn_of _ (by decide +kernel)) ggX10_disturbed_X10_refused
theorem dX10_disturbed_0 : decode cX10_disturbed 0 = .ok (.aload_n 0, 1) := by decide +kernel
theorem dX10_disturbed_1 : decode cX10_disturbed 1 = .ok (.invokevirtual 131, 3) := by decide +kernel
theorem dX10_disturbed_4 : decode cX10_disturbed 4 = .ok (.ifCond .eq 9, 3) := by decide +kernel
theorem dX10_disturbed_7 : decode cX10_disturbed 7 = .ok (.aload_n 0, 1) := by decide +kernel
theorem dX10_disturbed_8 : decode cX10_disturbed 8 = .ok (.iconst 1, 1) := by decide +kernel
theorem dX10_disturbed_9 : decode cX10_disturbed 9 = .ok (.invokevirtual 90, 3) := by decide +kernel
theorem dX10_disturbed_12 : decode cX10_disturbed 12 = .ok (.ireturn, 1) := by decide +kernel
theorem dX10_disturbed_13 : decode cX10_disturbed 13 = .ok (.aload_n 0, 1) := by decide +kernel
theorem dX10_disturbed_14 : decode cX10_disturbed 14 = .ok (.aload_n 0, 1) := by decide +kernel
theorem dX10_disturbed_15 : decode cX10_disturbed 15 = .ok (.getfield 25, 3) := by decide +kernel
theorem dX10_disturbed_18 : decode cX10_disturbed 18 = .ok (.invokevirtual 173, 3) := by decide +kernel
theorem dX10_disturbed_21 : decode cX10_disturbed 21 = .ok (.invokevirtual 125, 3) := by decide +kernel
theorem dX10_disturbed_24 : decode cX10_disturbed 24 = .ok (.ireturn, 1) := by decide +kernel
set_option maxRecDepth 20000 in
theorem ggX10_same_X8_hasPair : GoodIn wsX10_same wsX8_hasPair := goodIn_r _ [7, 8, 9, 10, 11, 6, 12, 13, 38, 39, 40, 41, 42, 43, 44, 45] (by decide +kernel) (by decide +kernel)
set_option maxRecDepth 20000 in
theorem gX10_same_X8_hasPair : GoodIn wsX10_same (wsV RX10 176 RX8 yX8_hasPair wsX8_hasPair) := goodIn_app (goodIn_of _ (by decide +kernel)) ggX10_same_X8_hasPair
theorem dX10_same_0 : decode cX10_same 0 = .ok (.aload_n 0, 1) := by decide +kernel
theorem dX10_same_1 : decode cX10_same 1 = .ok (.getfield 25, 3) := by decide +kernel
theorem dX10_same_4 : decode cX10_same 4 = .ok (.iload_n 1, 1) := by decide +kernel
theorem dX10_same_5 : decode cX10_same 5 = .ok (.invokevirtual 176, 3) := by decide +kernel
theorem dX10_same_8 : decode cX10_same 8 = .ok (.ifCond .ne 12, 3) := by decide +kernel
theorem dX10_same_11 : decode cX10_same 11 = .ok (.aload_n 0, 1) := by decide +kernel
theorem dX10_same_12 : decode cX10_same 12 = .ok (.iconst 1, 1) := by decide +kernel
theorem dX10_same_13 : decode cX10_same 13 = .ok (.putfield 128, 3) := by decide +kernel
theorem dX10_same_16 : decode cX10_same 16 = .ok (.sipush (-1000), 3) := by decide +kernel
theorem dX10_same_19 : decode cX10_same 19 = .ok (.ireturn, 1) := by decide +kernel
theorem dX10_same_20 : decode cX10_same 20 = .ok (.aload_n 0, 1) := by decide +kernel
theorem dX10_same_21 : decode cX10_same 21 = .ok (.aload_n 0, 1) := by decide +kernel
theorem dX10_same_22 : decode cX10_same 22 = .ok (.getfield 25, 3) := by decide +kernel
theorem dX10_same_25 : decode cX10_same 25 = .ok (.iload_n 1, 1) := by decide +kernel
theorem dX10_same_26 : decode cX10_same 26 = .ok (.invokevirtual 179, 3) := by decide +kernel
theorem dX10_same_29 : decode cX10_same 29 = .ok (.invokevirtual 125, 3) := by decide +kernel
theorem dX10_same_32 : decode cX10_same 32 = .ok (.ireturn, 1) := by decide +kernel
set_option maxRecDepth 20000 in
theorem ggX10_cycles_X10_noBook : GoodIn wsX10_cycles wsX10_noBook := goodIn_r _ [6, 7, 8, 57, 58, 59, 60, 61, 62, 63, 64, 65, 66, 67, 68, 69, 70, 71, 72, 73, 74, 75, 76, 77, 78] (by decide +kernel) (by decide +kernel)
set_option maxRecDepth 20000 in
theorem gX10_cycles_X10_noBook : GoodIn wsX10_cycles (wsV RX10 131 RX10 yX10_noBook wsX10_noBook) := goodIn_app (goodIn_of _ (by decide +kernel)) ggX10_cycles_X10_noBook
set_option maxRecDepth 20000 in
theorem ggX10_cycles_X10_refused : GoodIn wsX10_cycles wsX10_refused := goodIn_r _ [12, 13, 57, 58, 59, 60, 61, 62, 63, 64, 65, 66, 67, 68, 69, 70] (by decide +kernel) (by decide +kernel)
set_option maxRecDepth 20000 in
theorem gX10_cycles_X10_refused : GoodIn wsX10_cycles (wsV RX10 90 RX10 yX10_refused wsX10_refused) := goodIn_app (goodIn_of _ (by decide +kernel)) ggX10_cycles_X10_refused
theorem dX10_cycles_0 : decode cX10_cycles 0 = .ok (.aload_n 0, 1) := by decide +kernel
theorem dX10_cycles_1 : decode cX10_cycles 1 = .ok (.invokevirtual 131, 3) := by decide +kernel
theorem dX10_cycles_4 : decode cX10_cycles 4 = .ok (.ifCond .eq 9, 3) := by decide +kernel
theorem dX10_cycles_7 : decode cX10_cycles 7 = .ok (.aload_n 0, 1) := by decide +kernel
theorem dX10_cycles_8 : decode cX10_cycles 8 = .ok (.iconst 1, 1) := by decide +kernel
theorem dX10_cycles_9 : decode cX10_cycles 9 = .ok (.invokevirtual 90, 3) := by decide +kernel
theorem dX10_cycles_12 : decode cX10_cycles 12 = .ok (.ireturn, 1) := by decide +kernel
theorem dX10_cycles_13 : decode cX10_cycles 13 = .ok (.aload_n 0, 1) := by decide +kernel
theorem dX10_cycles_14 : decode cX10_cycles 14 = .ok (.aload_n 0, 1) := by decide +kernel
theorem dX10_cycles_15 : decode cX10_cycles 15 = .ok (.getfield 34, 3) := by decide +kernel
theorem dX10_cycles_18 : decode cX10_cycles 18 = .ok (.invokevirtual 182, 3) := by decide +kernel
theorem dX10_cycles_21 : decode cX10_cycles 21 = .ok (.invokevirtual 125, 3) := by decide +kernel
theorem dX10_cycles_24 : decode cX10_cycles 24 = .ok (.ireturn, 1) := by decide +kernel
set_option maxRecDepth 20000 in
theorem ggX10_cycle_X10_noBook : GoodIn wsX10_cycle wsX10_noBook := goodIn_r _ [6, 7, 8, 57, 58, 59, 60, 61, 62, 63, 64, 65, 66, 67, 68, 69, 70, 71, 72, 73, 74, 75, 76, 77, 78] (by decide +kernel) (by decide +kernel)
set_option maxRecDepth 20000 in
theorem gX10_cycle_X10_noBook : GoodIn wsX10_cycle (wsV RX10 131 RX10 yX10_noBook wsX10_noBook) := goodIn_app (goodIn_of _ (by decide +kernel)) ggX10_cycle_X10_noBook
set_option maxRecDepth 20000 in
theorem ggX10_cycle_X10_refused : GoodIn wsX10_cycle wsX10_refused := goodIn_r _ [51, 52, 57, 58, 59, 60, 61, 62, 63, 64, 65, 66, 67, 68, 69, 70] (by decide +kernel) (by decide +kernel)
set_option maxRecDepth 20000 in
theorem gX10_cycle_X10_refused : GoodIn wsX10_cycle (wsV RX10 90 RX10 yX10_refused wsX10_refused) := goodIn_app (goodIn_of _ (by decide +kernel)) ggX10_cycle_X10_refused
theorem dX10_cycle_0 : decode cX10_cycle 0 = .ok (.aload_n 0, 1) := by decide +kernel
theorem dX10_cycle_1 : decode cX10_cycle 1 = .ok (.invokevirtual 131, 3) := by decide +kernel
theorem dX10_cycle_4 : decode cX10_cycle 4 = .ok (.ifCond .eq 7, 3) := by decide +kernel
theorem dX10_cycle_7 : decode cX10_cycle 7 = .ok (.iconst (-1), 1) := by decide +kernel
theorem dX10_cycle_8 : decode cX10_cycle 8 = .ok (.goto 11, 3) := by decide +kernel
theorem dX10_cycle_11 : decode cX10_cycle 11 = .ok (.aload_n 0, 1) := by decide +kernel
theorem dX10_cycle_12 : decode cX10_cycle 12 = .ok (.getfield 34, 3) := by decide +kernel
theorem dX10_cycle_15 : decode cX10_cycle 15 = .ok (.iload_n 1, 1) := by decide +kernel
theorem dX10_cycle_16 : decode cX10_cycle 16 = .ok (.invokevirtual 185, 3) := by decide +kernel
theorem dX10_cycle_19 : decode cX10_cycle 19 = .ok (.istore_n 2, 1) := by decide +kernel
theorem dX10_cycle_20 : decode cX10_cycle 20 = .ok (.iload_n 2, 1) := by decide +kernel
theorem dX10_cycle_21 : decode cX10_cycle 21 = .ok (.ifCond .ge 11, 3) := by decide +kernel
theorem dX10_cycle_24 : decode cX10_cycle 24 = .ok (.aload_n 0, 1) := by decide +kernel
theorem dX10_cycle_25 : decode cX10_cycle 25 = .ok (.iconst 1, 1) := by decide +kernel
theorem dX10_cycle_26 : decode cX10_cycle 26 = .ok (.invokevirtual 90, 3) := by decide +kernel
theorem dX10_cycle_29 : decode cX10_cycle 29 = .ok (.goto 8, 3) := by decide +kernel
theorem dX10_cycle_32 : decode cX10_cycle 32 = .ok (.aload_n 0, 1) := by decide +kernel
theorem dX10_cycle_33 : decode cX10_cycle 33 = .ok (.iload_n 2, 1) := by decide +kernel
theorem dX10_cycle_34 : decode cX10_cycle 34 = .ok (.invokevirtual 125, 3) := by decide +kernel
theorem dX10_cycle_37 : decode cX10_cycle 37 = .ok (.ireturn, 1) := by decide +kernel
set_option maxRecDepth 20000 in
theorem ggX10_excess_X10_noBook : GoodIn wsX10_excess wsX10_noBook := goodIn_r _ [7, 8, 9, 66, 67, 68, 69, 70, 71, 72, 73, 74, 75, 76, 77, 78, 79, 80, 81, 82, 83, 84, 85, 86, 87] (by decide +kernel) (by decide +kernel)
set_option maxRecDepth 20000 in
theorem gX10_excess_X10_noBook : GoodIn wsX10_excess (wsV RX10 131 RX10 yX10_noBook wsX10_noBook) := goodIn_app (goodIn_of _ (by decide +kernel)) ggX10_excess_X10_noBook
theorem dX10_excess_0 : decode cX10_excess 0 = .ok (.aload_n 0, 1) := by decide +kernel
theorem dX10_excess_1 : decode cX10_excess 1 = .ok (.invokevirtual 131, 3) := by decide +kernel
theorem dX10_excess_4 : decode cX10_excess 4 = .ok (.ifCond .eq 12, 3) := by decide +kernel
theorem dX10_excess_7 : decode cX10_excess 7 = .ok (.aload_n 0, 1) := by decide +kernel
theorem dX10_excess_8 : decode cX10_excess 8 = .ok (.iconst 1, 1) := by decide +kernel
theorem dX10_excess_9 : decode cX10_excess 9 = .ok (.putfield 128, 3) := by decide +kernel
theorem dX10_excess_12 : decode cX10_excess 12 = .ok (.sipush (-1000), 3) := by decide +kernel
theorem dX10_excess_15 : decode cX10_excess 15 = .ok (.ireturn, 1) := by decide +kernel
theorem dX10_excess_16 : decode cX10_excess 16 = .ok (.aload_n 0, 1) := by decide +kernel
theorem dX10_excess_17 : decode cX10_excess 17 = .ok (.getfield 34, 3) := by decide +kernel
theorem dX10_excess_20 : decode cX10_excess 20 = .ok (.iload_n 1, 1) := by decide +kernel
theorem dX10_excess_21 : decode cX10_excess 21 = .ok (.invokevirtual 188, 3) := by decide +kernel
theorem dX10_excess_24 : decode cX10_excess 24 = .ok (.ifCond .ne 12, 3) := by decide +kernel
theorem dX10_excess_27 : decode cX10_excess 27 = .ok (.aload_n 0, 1) := by decide +kernel
theorem dX10_excess_28 : decode cX10_excess 28 = .ok (.iconst 5, 1) := by decide +kernel
theorem dX10_excess_29 : decode cX10_excess 29 = .ok (.putfield 128, 3) := by decide +kernel
theorem dX10_excess_32 : decode cX10_excess 32 = .ok (.sipush (-1000), 3) := by decide +kernel
theorem dX10_excess_35 : decode cX10_excess 35 = .ok (.ireturn, 1) := by decide +kernel
theorem dX10_excess_36 : decode cX10_excess 36 = .ok (.aload_n 0, 1) := by decide +kernel
theorem dX10_excess_37 : decode cX10_excess 37 = .ok (.aload_n 0, 1) := by decide +kernel
theorem dX10_excess_38 : decode cX10_excess 38 = .ok (.getfield 34, 3) := by decide +kernel
theorem dX10_excess_41 : decode cX10_excess 41 = .ok (.iload_n 1, 1) := by decide +kernel
theorem dX10_excess_42 : decode cX10_excess 42 = .ok (.invokevirtual 191, 3) := by decide +kernel
theorem dX10_excess_45 : decode cX10_excess 45 = .ok (.invokevirtual 125, 3) := by decide +kernel
theorem dX10_excess_48 : decode cX10_excess 48 = .ok (.ireturn, 1) := by decide +kernel
set_option maxRecDepth 20000 in
theorem ggX10_widest_X10_noBook : GoodIn wsX10_widest wsX10_noBook := goodIn_r _ [6, 7, 8, 74, 75, 76, 77, 78, 79, 80, 81, 82, 83, 84, 85, 86, 87, 88, 89, 90, 91, 92, 93, 94, 95] (by decide +kernel) (by decide +kernel)
set_option maxRecDepth 20000 in
theorem gX10_widest_X10_noBook : GoodIn wsX10_widest (wsV RX10 131 RX10 yX10_noBook wsX10_noBook) := goodIn_app (goodIn_of _ (by decide +kernel)) ggX10_widest_X10_noBook
set_option maxRecDepth 20000 in
theorem ggX10_widest_X10_refused : GoodIn wsX10_widest wsX10_refused := goodIn_r _ [12, 13, 74, 75, 76, 77, 78, 79, 80, 81, 82, 83, 84, 85, 86, 87] (by decide +kernel) (by decide +kernel)
set_option maxRecDepth 20000 in
theorem gX10_widest_X10_refused : GoodIn wsX10_widest (wsV RX10 90 RX10 yX10_refused wsX10_refused) := goodIn_app (goodIn_of _ (by decide +kernel)) ggX10_widest_X10_refused
theorem dX10_widest_0 : decode cX10_widest 0 = .ok (.aload_n 0, 1) := by decide +kernel
theorem dX10_widest_1 : decode cX10_widest 1 = .ok (.invokevirtual 131, 3) := by decide +kernel
theorem dX10_widest_4 : decode cX10_widest 4 = .ok (.ifCond .eq 9, 3) := by decide +kernel
theorem dX10_widest_7 : decode cX10_widest 7 = .ok (.aload_n 0, 1) := by decide +kernel
theorem dX10_widest_8 : decode cX10_widest 8 = .ok (.iconst 1, 1) := by decide +kernel
theorem dX10_widest_9 : decode cX10_widest 9 = .ok (.invokevirtual 90, 3) := by decide +kernel
theorem dX10_widest_12 : decode cX10_widest 12 = .ok (.ireturn, 1) := by decide +kernel
theorem dX10_widest_13 : decode cX10_widest 13 = .ok (.aload_n 0, 1) := by decide +kernel
theorem dX10_widest_14 : decode cX10_widest 14 = .ok (.aload_n 0, 1) := by decide +kernel
theorem dX10_widest_15 : decode cX10_widest 15 = .ok (.getfield 34, 3) := by decide +kernel
theorem dX10_widest_18 : decode cX10_widest 18 = .ok (.invokevirtual 194, 3) := by decide +kernel
theorem dX10_widest_21 : decode cX10_widest 21 = .ok (.invokevirtual 125, 3) := by decide +kernel
theorem dX10_widest_24 : decode cX10_widest 24 = .ok (.ireturn, 1) := by decide +kernel
set_option maxRecDepth 20000 in
theorem ggX10_stake_X8_hasOutcome : GoodIn wsX10_stake wsX8_hasOutcome := goodIn_r _ [7, 8, 9, 10, 6, 11, 12, 13, 14, 15, 16, 17, 42, 43, 44, 45, 46, 47, 48, 49] (by decide +kernel) (by decide +kernel)
set_option maxRecDepth 20000 in
theorem gX10_stake_X8_hasOutcome : GoodIn wsX10_stake (wsV RX10 156 RX8 yX8_hasOutcome wsX8_hasOutcome) := goodIn_app (goodIn_of _ (by decide +kernel)) ggX10_stake_X8_hasOutcome
set_option maxRecDepth 20000 in
theorem ggX10_stake_X10_denied : GoodIn wsX10_stake wsX10_denied := goodIn_r _ [22, 23, 28, 29, 30, 31, 32, 33, 34, 35, 36, 37, 38, 39, 40, 41] (by decide +kernel) (by decide +kernel)
set_option maxRecDepth 20000 in
theorem gX10_stake_X10_denied : GoodIn wsX10_stake (wsV RX10 197 RX10 yX10_denied wsX10_denied) := goodIn_app (goodIn_of _ (by decide +kernel)) ggX10_stake_X10_denied
theorem dX10_stake_0 : decode cX10_stake 0 = .ok (.aload_n 0, 1) := by decide +kernel
theorem dX10_stake_1 : decode cX10_stake 1 = .ok (.getfield 25, 3) := by decide +kernel
theorem dX10_stake_4 : decode cX10_stake 4 = .ok (.iload_n 1, 1) := by decide +kernel
theorem dX10_stake_5 : decode cX10_stake 5 = .ok (.iload_n 2, 1) := by decide +kernel
theorem dX10_stake_6 : decode cX10_stake 6 = .ok (.invokevirtual 156, 3) := by decide +kernel
theorem dX10_stake_9 : decode cX10_stake 9 = .ok (.ifCond .ne 9, 3) := by decide +kernel
theorem dX10_stake_12 : decode cX10_stake 12 = .ok (.aload_n 0, 1) := by decide +kernel
theorem dX10_stake_13 : decode cX10_stake 13 = .ok (.iconst 1, 1) := by decide +kernel
theorem dX10_stake_14 : decode cX10_stake 14 = .ok (.invokevirtual 197, 3) := by decide +kernel
theorem dX10_stake_17 : decode cX10_stake 17 = .ok (.ireturn, 1) := by decide +kernel
theorem dX10_stake_18 : decode cX10_stake 18 = .ok (.iload_n 3, 1) := by decide +kernel
theorem dX10_stake_19 : decode cX10_stake 19 = .ok (.ifCond .lt 9, 3) := by decide +kernel
theorem dX10_stake_22 : decode cX10_stake 22 = .ok (.iload_n 3, 1) := by decide +kernel
theorem dX10_stake_23 : decode cX10_stake 23 = .ok (.bipush 99, 2) := by decide +kernel
theorem dX10_stake_25 : decode cX10_stake 25 = .ok (.if_icmp .le 9, 3) := by decide +kernel
theorem dX10_stake_28 : decode cX10_stake 28 = .ok (.aload_n 0, 1) := by decide +kernel
theorem dX10_stake_29 : decode cX10_stake 29 = .ok (.iconst 2, 1) := by decide +kernel
theorem dX10_stake_30 : decode cX10_stake 30 = .ok (.invokevirtual 197, 3) := by decide +kernel
theorem dX10_stake_33 : decode cX10_stake 33 = .ok (.ireturn, 1) := by decide +kernel
theorem dX10_stake_34 : decode cX10_stake 34 = .ok (.aload_n 0, 1) := by decide +kernel
theorem dX10_stake_35 : decode cX10_stake 35 = .ok (.getfield 25, 3) := by decide +kernel
theorem dX10_stake_38 : decode cX10_stake 38 = .ok (.getfield 200, 3) := by decide +kernel
theorem dX10_stake_41 : decode cX10_stake 41 = .ok (.iconst 4, 1) := by decide +kernel
theorem dX10_stake_42 : decode cX10_stake 42 = .ok (.iload_n 1, 1) := by decide +kernel
theorem dX10_stake_43 : decode cX10_stake 43 = .ok (.imul, 1) := by decide +kernel
theorem dX10_stake_44 : decode cX10_stake 44 = .ok (.iload_n 2, 1) := by decide +kernel
theorem dX10_stake_45 : decode cX10_stake 45 = .ok (.iadd, 1) := by decide +kernel
theorem dX10_stake_46 : decode cX10_stake 46 = .ok (.iload_n 3, 1) := by decide +kernel
theorem dX10_stake_47 : decode cX10_stake 47 = .ok (.iastore, 1) := by decide +kernel
theorem dX10_stake_48 : decode cX10_stake 48 = .ok (.aload_n 0, 1) := by decide +kernel
theorem dX10_stake_49 : decode cX10_stake 49 = .ok (.invokevirtual 203, 3) := by decide +kernel
theorem dX10_stake_52 : decode cX10_stake 52 = .ok (.ireturn, 1) := by decide +kernel
set_option maxRecDepth 20000 in
theorem ggX10_wins_X10_noBook : GoodIn wsX10_wins wsX10_noBook := goodIn_r _ [6, 1, 7, 25, 26, 27, 28, 29, 30, 31, 32, 33, 34, 35, 36, 37, 38, 39, 40, 41, 42, 43, 44, 45, 46] (by decide +kernel) (by decide +kernel)
set_option maxRecDepth 20000 in
theorem gX10_wins_X10_noBook : GoodIn wsX10_wins (wsV RX10 131 RX10 yX10_noBook wsX10_noBook) := goodIn_app (goodIn_of _ (by decide +kernel)) ggX10_wins_X10_noBook
set_option maxRecDepth 20000 in
theorem ggX10_wins_X10_refused : GoodIn wsX10_wins wsX10_refused := goodIn_r _ [11, 12, 25, 26, 27, 28, 29, 30, 31, 32, 33, 34, 35, 36, 37, 38] (by decide +kernel) (by decide +kernel)
set_option maxRecDepth 20000 in
theorem gX10_wins_X10_refused : GoodIn wsX10_wins (wsV RX10 90 RX10 yX10_refused wsX10_refused) := goodIn_app (goodIn_of _ (by decide +kernel)) ggX10_wins_X10_refused
theorem dX10_wins_0 : decode cX10_wins 0 = .ok (.aload_n 0, 1) := by decide +kernel
theorem dX10_wins_1 : decode cX10_wins 1 = .ok (.invokevirtual 131, 3) := by decide +kernel
theorem dX10_wins_4 : decode cX10_wins 4 = .ok (.ifCond .eq 9, 3) := by decide +kernel
theorem dX10_wins_7 : decode cX10_wins 7 = .ok (.aload_n 0, 1) := by decide +kernel
theorem dX10_wins_8 : decode cX10_wins 8 = .ok (.iconst 1, 1) := by decide +kernel
theorem dX10_wins_9 : decode cX10_wins 9 = .ok (.invokevirtual 90, 3) := by decide +kernel
theorem dX10_wins_12 : decode cX10_wins 12 = .ok (.ireturn, 1) := by decide +kernel
theorem dX10_wins_13 : decode cX10_wins 13 = .ok (.aload_n 0, 1) := by decide +kernel
theorem dX10_wins_14 : decode cX10_wins 14 = .ok (.aload_n 0, 1) := by decide +kernel
theorem dX10_wins_15 : decode cX10_wins 15 = .ok (.getfield 25, 3) := by decide +kernel
theorem dX10_wins_18 : decode cX10_wins 18 = .ok (.invokevirtual 206, 3) := by decide +kernel
theorem dX10_wins_21 : decode cX10_wins 21 = .ok (.invokevirtual 125, 3) := by decide +kernel
theorem dX10_wins_24 : decode cX10_wins 24 = .ok (.ireturn, 1) := by decide +kernel
set_option maxRecDepth 20000 in
theorem ggX10_worst_X10_noBook : GoodIn wsX10_worst wsX10_noBook := goodIn_r _ [6, 1, 7, 40, 41, 42, 43, 44, 45, 46, 47, 48, 49, 50, 51, 52, 53, 54, 55, 56, 57, 58, 59, 60, 61] (by decide +kernel) (by decide +kernel)
set_option maxRecDepth 20000 in
theorem gX10_worst_X10_noBook : GoodIn wsX10_worst (wsV RX10 131 RX10 yX10_noBook wsX10_noBook) := goodIn_app (goodIn_of _ (by decide +kernel)) ggX10_worst_X10_noBook
set_option maxRecDepth 20000 in
theorem ggX10_worst_X10_refused : GoodIn wsX10_worst wsX10_refused := goodIn_r _ [11, 12, 40, 41, 42, 43, 44, 45, 46, 47, 48, 49, 50, 51, 52, 53] (by decide +kernel) (by decide +kernel)
set_option maxRecDepth 20000 in
theorem gX10_worst_X10_refused : GoodIn wsX10_worst (wsV RX10 90 RX10 yX10_refused wsX10_refused) := goodIn_app (goodIn_of _ (by decide +kernel)) ggX10_worst_X10_refused
theorem dX10_worst_0 : decode cX10_worst 0 = .ok (.aload_n 0, 1) := by decide +kernel
theorem dX10_worst_1 : decode cX10_worst 1 = .ok (.invokevirtual 131, 3) := by decide +kernel
theorem dX10_worst_4 : decode cX10_worst 4 = .ok (.ifCond .eq 9, 3) := by decide +kernel
theorem dX10_worst_7 : decode cX10_worst 7 = .ok (.aload_n 0, 1) := by decide +kernel
theorem dX10_worst_8 : decode cX10_worst 8 = .ok (.iconst 1, 1) := by decide +kernel
theorem dX10_worst_9 : decode cX10_worst 9 = .ok (.invokevirtual 90, 3) := by decide +kernel
theorem dX10_worst_12 : decode cX10_worst 12 = .ok (.ireturn, 1) := by decide +kernel
theorem dX10_worst_13 : decode cX10_worst 13 = .ok (.aload_n 0, 1) := by decide +kernel
theorem dX10_worst_14 : decode cX10_worst 14 = .ok (.aload_n 0, 1) := by decide +kernel
theorem dX10_worst_15 : decode cX10_worst 15 = .ok (.getfield 25, 3) := by decide +kernel
theorem dX10_worst_18 : decode cX10_worst 18 = .ok (.aload_n 0, 1) := by decide +kernel
theorem dX10_worst_19 : decode cX10_worst 19 = .ok (.getfield 25, 3) := by decide +kernel
theorem dX10_worst_22 : decode cX10_worst 22 = .ok (.invokevirtual 209, 3) := by decide +kernel
theorem dX10_worst_25 : decode cX10_worst 25 = .ok (.invokevirtual 212, 3) := by decide +kernel
theorem dX10_worst_28 : decode cX10_worst 28 = .ok (.invokevirtual 125, 3) := by decide +kernel
theorem dX10_worst_31 : decode cX10_worst 31 = .ok (.ireturn, 1) := by decide +kernel
set_option maxRecDepth 20000 in
theorem ggX10_worstAt_X10_noBook : GoodIn wsX10_worstAt wsX10_noBook := goodIn_r _ [6, 1, 7, 39, 40, 41, 42, 43, 44, 45, 46, 47, 48, 49, 50, 51, 52, 53, 54, 55, 56, 57, 58, 59, 60] (by decide +kernel) (by decide +kernel)
set_option maxRecDepth 20000 in
theorem gX10_worstAt_X10_noBook : GoodIn wsX10_worstAt (wsV RX10 131 RX10 yX10_noBook wsX10_noBook) := goodIn_app (goodIn_of _ (by decide +kernel)) ggX10_worstAt_X10_noBook
set_option maxRecDepth 20000 in
theorem ggX10_worstAt_X10_refused : GoodIn wsX10_worstAt wsX10_refused := goodIn_r _ [11, 12, 39, 40, 41, 42, 43, 44, 45, 46, 47, 48, 49, 50, 51, 52] (by decide +kernel) (by decide +kernel)
set_option maxRecDepth 20000 in
theorem gX10_worstAt_X10_refused : GoodIn wsX10_worstAt (wsV RX10 90 RX10 yX10_refused wsX10_refused) := goodIn_app (goodIn_of _ (by decide +kernel)) ggX10_worstAt_X10_refused
theorem dX10_worstAt_0 : decode cX10_worstAt 0 = .ok (.aload_n 0, 1) := by decide +kernel
theorem dX10_worstAt_1 : decode cX10_worstAt 1 = .ok (.invokevirtual 131, 3) := by decide +kernel
theorem dX10_worstAt_4 : decode cX10_worstAt 4 = .ok (.ifCond .eq 9, 3) := by decide +kernel
theorem dX10_worstAt_7 : decode cX10_worstAt 7 = .ok (.aload_n 0, 1) := by decide +kernel
theorem dX10_worstAt_8 : decode cX10_worstAt 8 = .ok (.iconst 1, 1) := by decide +kernel
theorem dX10_worstAt_9 : decode cX10_worstAt 9 = .ok (.invokevirtual 90, 3) := by decide +kernel
theorem dX10_worstAt_12 : decode cX10_worstAt 12 = .ok (.ireturn, 1) := by decide +kernel
theorem dX10_worstAt_13 : decode cX10_worstAt 13 = .ok (.aload_n 0, 1) := by decide +kernel
theorem dX10_worstAt_14 : decode cX10_worstAt 14 = .ok (.aload_n 0, 1) := by decide +kernel
theorem dX10_worstAt_15 : decode cX10_worstAt 15 = .ok (.getfield 25, 3) := by decide +kernel
theorem dX10_worstAt_18 : decode cX10_worstAt 18 = .ok (.invokevirtual 209, 3) := by decide +kernel
theorem dX10_worstAt_21 : decode cX10_worstAt 21 = .ok (.invokevirtual 125, 3) := by decide +kernel
theorem dX10_worstAt_24 : decode cX10_worstAt 24 = .ok (.ireturn, 1) := by decide +kernel
set_option maxRecDepth 20000 in
theorem ggX10_bars_X10_noBook : GoodIn wsX10_bars wsX10_noBook := goodIn_r _ [7, 1, 2, 45, 46, 47, 48, 49, 50, 51, 52, 53, 54, 55, 56, 57, 58, 59, 60, 61, 62, 63, 64, 65, 66] (by decide +kernel) (by decide +kernel)
set_option maxRecDepth 20000 in
theorem gX10_bars_X10_noBook : GoodIn wsX10_bars (wsV RX10 131 RX10 yX10_noBook wsX10_noBook) := goodIn_app (goodIn_of _ (by decide +kernel)) ggX10_bars_X10_noBook
set_option maxRecDepth 20000 in
theorem ggX10_bars_X10_refused : GoodIn wsX10_bars wsX10_refused := goodIn_r _ [11, 12, 45, 46, 47, 48, 49, 50, 51, 52, 53, 54, 55, 56, 57, 58] (by decide +kernel) (by decide +kernel)
set_option maxRecDepth 20000 in
theorem gX10_bars_X10_refused : GoodIn wsX10_bars (wsV RX10 90 RX10 yX10_refused wsX10_refused) := goodIn_app (goodIn_of _ (by decide +kernel)) ggX10_bars_X10_refused
theorem dX10_bars_0 : decode cX10_bars 0 = .ok (.aload_n 0, 1) := by decide +kernel
theorem dX10_bars_1 : decode cX10_bars 1 = .ok (.invokevirtual 131, 3) := by decide +kernel
theorem dX10_bars_4 : decode cX10_bars 4 = .ok (.ifCond .eq 9, 3) := by decide +kernel
theorem dX10_bars_7 : decode cX10_bars 7 = .ok (.aload_n 0, 1) := by decide +kernel
theorem dX10_bars_8 : decode cX10_bars 8 = .ok (.iconst 1, 1) := by decide +kernel
theorem dX10_bars_9 : decode cX10_bars 9 = .ok (.invokevirtual 90, 3) := by decide +kernel
theorem dX10_bars_12 : decode cX10_bars 12 = .ok (.ireturn, 1) := by decide +kernel
theorem dX10_bars_13 : decode cX10_bars 13 = .ok (.aload_n 0, 1) := by decide +kernel
theorem dX10_bars_14 : decode cX10_bars 14 = .ok (.aload_n 0, 1) := by decide +kernel
theorem dX10_bars_15 : decode cX10_bars 15 = .ok (.getfield 25, 3) := by decide +kernel
theorem dX10_bars_18 : decode cX10_bars 18 = .ok (.invokevirtual 206, 3) := by decide +kernel
theorem dX10_bars_21 : decode cX10_bars 21 = .ok (.aload_n 0, 1) := by decide +kernel
theorem dX10_bars_22 : decode cX10_bars 22 = .ok (.getfield 25, 3) := by decide +kernel
theorem dX10_bars_25 : decode cX10_bars 25 = .ok (.aload_n 0, 1) := by decide +kernel
theorem dX10_bars_26 : decode cX10_bars 26 = .ok (.getfield 25, 3) := by decide +kernel
theorem dX10_bars_29 : decode cX10_bars 29 = .ok (.invokevirtual 209, 3) := by decide +kernel
theorem dX10_bars_32 : decode cX10_bars 32 = .ok (.invokevirtual 212, 3) := by decide +kernel
theorem dX10_bars_35 : decode cX10_bars 35 = .ok (.aload_n 0, 1) := by decide +kernel
theorem dX10_bars_36 : decode cX10_bars 36 = .ok (.getfield 25, 3) := by decide +kernel
theorem dX10_bars_39 : decode cX10_bars 39 = .ok (.getfield 215, 3) := by decide +kernel
theorem dX10_bars_42 : decode cX10_bars 42 = .ok (.imul, 1) := by decide +kernel
theorem dX10_bars_43 : decode cX10_bars 43 = .ok (.if_icmp .ge 7, 3) := by decide +kernel
theorem dX10_bars_46 : decode cX10_bars 46 = .ok (.iconst 1, 1) := by decide +kernel
theorem dX10_bars_47 : decode cX10_bars 47 = .ok (.goto 4, 3) := by decide +kernel
theorem dX10_bars_50 : decode cX10_bars 50 = .ok (.iconst 0, 1) := by decide +kernel
theorem dX10_bars_51 : decode cX10_bars 51 = .ok (.invokevirtual 125, 3) := by decide +kernel
theorem dX10_bars_54 : decode cX10_bars 54 = .ok (.ireturn, 1) := by decide +kernel
set_option maxRecDepth 20000 in
theorem ggX10_fair_X10_noBook : GoodIn wsX10_fair wsX10_noBook := goodIn_r _ [8, 1, 2, 60, 61, 62, 63, 64, 65, 66, 67, 68, 69, 70, 71, 72, 73, 74, 75, 76, 77, 78, 79, 80, 81] (by decide +kernel) (by decide +kernel)
set_option maxRecDepth 20000 in
theorem gX10_fair_X10_noBook : GoodIn wsX10_fair (wsV RX10 131 RX10 yX10_noBook wsX10_noBook) := goodIn_app (goodIn_of _ (by decide +kernel)) ggX10_fair_X10_noBook
set_option maxRecDepth 20000 in
theorem ggX10_fair_X10_refused : GoodIn wsX10_fair wsX10_refused := goodIn_r _ [12, 13, 60, 61, 62, 63, 64, 65, 66, 67, 68, 69, 70, 71, 72, 73] (by decide +kernel) (by decide +kernel)
set_option maxRecDepth 20000 in
theorem gX10_fair_X10_refused : GoodIn wsX10_fair (wsV RX10 90 RX10 yX10_refused wsX10_refused) := goodIn_app (goodIn_of _ (by decide +kernel)) ggX10_fair_X10_refused
theorem dX10_fair_0 : decode cX10_fair 0 = .ok (.aload_n 0, 1) := by decide +kernel
theorem dX10_fair_1 : decode cX10_fair 1 = .ok (.invokevirtual 131, 3) := by decide +kernel
theorem dX10_fair_4 : decode cX10_fair 4 = .ok (.ifCond .eq 9, 3) := by decide +kernel
theorem dX10_fair_7 : decode cX10_fair 7 = .ok (.aload_n 0, 1) := by decide +kernel
theorem dX10_fair_8 : decode cX10_fair 8 = .ok (.iconst 1, 1) := by decide +kernel
theorem dX10_fair_9 : decode cX10_fair 9 = .ok (.invokevirtual 90, 3) := by decide +kernel
theorem dX10_fair_12 : decode cX10_fair 12 = .ok (.ireturn, 1) := by decide +kernel
theorem dX10_fair_13 : decode cX10_fair 13 = .ok (.aload_n 0, 1) := by decide +kernel
theorem dX10_fair_14 : decode cX10_fair 14 = .ok (.getfield 25, 3) := by decide +kernel
theorem dX10_fair_17 : decode cX10_fair 17 = .ok (.invokevirtual 206, 3) := by decide +kernel
theorem dX10_fair_20 : decode cX10_fair 20 = .ok (.istore_n 2, 1) := by decide +kernel
theorem dX10_fair_21 : decode cX10_fair 21 = .ok (.aload_n 0, 1) := by decide +kernel
theorem dX10_fair_22 : decode cX10_fair 22 = .ok (.getfield 25, 3) := by decide +kernel
theorem dX10_fair_25 : decode cX10_fair 25 = .ok (.aload_n 0, 1) := by decide +kernel
theorem dX10_fair_26 : decode cX10_fair 26 = .ok (.getfield 25, 3) := by decide +kernel
theorem dX10_fair_29 : decode cX10_fair 29 = .ok (.invokevirtual 209, 3) := by decide +kernel
theorem dX10_fair_32 : decode cX10_fair 32 = .ok (.invokevirtual 212, 3) := by decide +kernel
theorem dX10_fair_35 : decode cX10_fair 35 = .ok (.aload_n 0, 1) := by decide +kernel
theorem dX10_fair_36 : decode cX10_fair 36 = .ok (.getfield 25, 3) := by decide +kernel
theorem dX10_fair_39 : decode cX10_fair 39 = .ok (.getfield 215, 3) := by decide +kernel
theorem dX10_fair_42 : decode cX10_fair 42 = .ok (.imul, 1) := by decide +kernel
theorem dX10_fair_43 : decode cX10_fair 43 = .ok (.istore_n 3, 1) := by decide +kernel
theorem dX10_fair_44 : decode cX10_fair 44 = .ok (.iload_n 3, 1) := by decide +kernel
theorem dX10_fair_45 : decode cX10_fair 45 = .ok (.ifCond .eq 8, 3) := by decide +kernel
theorem dX10_fair_48 : decode cX10_fair 48 = .ok (.iload_n 2, 1) := by decide +kernel
theorem dX10_fair_49 : decode cX10_fair 49 = .ok (.iload_n 3, 1) := by decide +kernel
theorem dX10_fair_50 : decode cX10_fair 50 = .ok (.if_icmp .le 15, 3) := by decide +kernel
theorem dX10_fair_53 : decode cX10_fair 53 = .ok (.aload_n 0, 1) := by decide +kernel
theorem dX10_fair_54 : decode cX10_fair 54 = .ok (.getfield 41, 3) := by decide +kernel
theorem dX10_fair_57 : decode cX10_fair 57 = .ok (.lconst 1, 1) := by decide +kernel
theorem dX10_fair_58 : decode cX10_fair 58 = .ok (.lconst 1, 1) := by decide +kernel
theorem dX10_fair_59 : decode cX10_fair 59 = .ok (.invokevirtual 218, 3) := by decide +kernel
theorem dX10_fair_62 : decode cX10_fair 62 = .ok (.goto 14, 3) := by decide +kernel
theorem dX10_fair_65 : decode cX10_fair 65 = .ok (.aload_n 0, 1) := by decide +kernel
theorem dX10_fair_66 : decode cX10_fair 66 = .ok (.getfield 41, 3) := by decide +kernel
theorem dX10_fair_69 : decode cX10_fair 69 = .ok (.iload_n 2, 1) := by decide +kernel
theorem dX10_fair_70 : decode cX10_fair 70 = .ok (.i2l, 1) := by decide +kernel
theorem dX10_fair_71 : decode cX10_fair 71 = .ok (.iload_n 3, 1) := by decide +kernel
theorem dX10_fair_72 : decode cX10_fair 72 = .ok (.i2l, 1) := by decide +kernel
theorem dX10_fair_73 : decode cX10_fair 73 = .ok (.invokevirtual 218, 3) := by decide +kernel
theorem dX10_fair_76 : decode cX10_fair 76 = .ok (.aload_n 0, 1) := by decide +kernel
theorem dX10_fair_77 : decode cX10_fair 77 = .ok (.aload_n 0, 1) := by decide +kernel
theorem dX10_fair_78 : decode cX10_fair 78 = .ok (.getfield 41, 3) := by decide +kernel
theorem dX10_fair_81 : decode cX10_fair 81 = .ok (.iload_n 1, 1) := by decide +kernel
theorem dX10_fair_82 : decode cX10_fair 82 = .ok (.invokevirtual 138, 3) := by decide +kernel
theorem dX10_fair_85 : decode cX10_fair 85 = .ok (.invokevirtual 125, 3) := by decide +kernel
theorem dX10_fair_88 : decode cX10_fair 88 = .ok (.ireturn, 1) := by decide +kernel
set_option maxRecDepth 20000 in
theorem ggX10_ways_X10_noBook : GoodIn wsX10_ways wsX10_noBook := goodIn_r _ [7, 8, 9, 19, 20, 21, 22, 23, 24, 25, 26, 27, 28, 29, 30, 31, 32, 39, 40, 41, 42, 43, 44, 45, 46] (by decide +kernel) (by decide +kernel)
set_option maxRecDepth 20000 in
theorem gX10_ways_X10_noBook : GoodIn wsX10_ways (wsV RX10 131 RX10 yX10_noBook wsX10_noBook) := goodIn_app (goodIn_of _ (by decide +kernel)) ggX10_ways_X10_noBook
set_option maxRecDepth 20000 in
theorem ggX10_ways_X10_refused : GoodIn wsX10_ways wsX10_refused := goodIn_r _ [13, 14, 19, 20, 21, 22, 23, 24, 25, 26, 27, 28, 29, 30, 31, 32] (by decide +kernel) (by decide +kernel)
set_option maxRecDepth 20000 in
theorem gX10_ways_X10_refused : GoodIn wsX10_ways (wsV RX10 90 RX10 yX10_refused wsX10_refused) := goodIn_app (goodIn_of _ (by decide +kernel)) ggX10_ways_X10_refused
theorem dX10_ways_0 : decode cX10_ways 0 = .ok (.aload_n 0, 1) := by decide +kernel
theorem dX10_ways_1 : decode cX10_ways 1 = .ok (.invokevirtual 131, 3) := by decide +kernel
theorem dX10_ways_4 : decode cX10_ways 4 = .ok (.ifCond .eq 9, 3) := by decide +kernel
theorem dX10_ways_7 : decode cX10_ways 7 = .ok (.aload_n 0, 1) := by decide +kernel
theorem dX10_ways_8 : decode cX10_ways 8 = .ok (.iconst 1, 1) := by decide +kernel
theorem dX10_ways_9 : decode cX10_ways 9 = .ok (.invokevirtual 90, 3) := by decide +kernel
theorem dX10_ways_12 : decode cX10_ways 12 = .ok (.ireturn, 1) := by decide +kernel
theorem dX10_ways_13 : decode cX10_ways 13 = .ok (.aload_n 0, 1) := by decide +kernel
theorem dX10_ways_14 : decode cX10_ways 14 = .ok (.aload_n 0, 1) := by decide +kernel
theorem dX10_ways_15 : decode cX10_ways 15 = .ok (.getfield 57, 3) := by decide +kernel
theorem dX10_ways_18 : decode cX10_ways 18 = .ok (.getfield 222, 3) := by decide +kernel
theorem dX10_ways_21 : decode cX10_ways 21 = .ok (.invokevirtual 125, 3) := by decide +kernel
theorem dX10_ways_24 : decode cX10_ways 24 = .ok (.ireturn, 1) := by decide +kernel
set_option maxRecDepth 20000 in
theorem ggX10_forced_X10_refused : GoodIn wsX10_forced wsX10_refused := goodIn_r _ [8, 9, 21, 22, 23, 24, 25, 26, 27, 28, 29, 30, 31, 32, 33, 34] (by decide +kernel) (by decide +kernel)
set_option maxRecDepth 20000 in
theorem gX10_forced_X10_refused : GoodIn wsX10_forced (wsV RX10 90 RX10 yX10_refused wsX10_refused) := goodIn_app (goodIn_of _ (by decide +kernel)) ggX10_forced_X10_refused
theorem dX10_forced_0 : decode cX10_forced 0 = .ok (.iload_n 1, 1) := by decide +kernel
theorem dX10_forced_1 : decode cX10_forced 1 = .ok (.ifCond .lt 14, 3) := by decide +kernel
theorem dX10_forced_4 : decode cX10_forced 4 = .ok (.iload_n 1, 1) := by decide +kernel
theorem dX10_forced_5 : decode cX10_forced 5 = .ok (.aload_n 0, 1) := by decide +kernel
theorem dX10_forced_6 : decode cX10_forced 6 = .ok (.getfield 57, 3) := by decide +kernel
theorem dX10_forced_9 : decode cX10_forced 9 = .ok (.getfield 225, 3) := by decide +kernel
theorem dX10_forced_12 : decode cX10_forced 12 = .ok (.if_icmp .lt 9, 3) := by decide +kernel
theorem dX10_forced_15 : decode cX10_forced 15 = .ok (.aload_n 0, 1) := by decide +kernel
theorem dX10_forced_16 : decode cX10_forced 16 = .ok (.iconst 1, 1) := by decide +kernel
theorem dX10_forced_17 : decode cX10_forced 17 = .ok (.invokevirtual 90, 3) := by decide +kernel
theorem dX10_forced_20 : decode cX10_forced 20 = .ok (.ireturn, 1) := by decide +kernel
theorem dX10_forced_21 : decode cX10_forced 21 = .ok (.aload_n 0, 1) := by decide +kernel
theorem dX10_forced_22 : decode cX10_forced 22 = .ok (.getfield 57, 3) := by decide +kernel
theorem dX10_forced_25 : decode cX10_forced 25 = .ok (.getfield 222, 3) := by decide +kernel
theorem dX10_forced_28 : decode cX10_forced 28 = .ok (.ifCond .ne 10, 3) := by decide +kernel
theorem dX10_forced_31 : decode cX10_forced 31 = .ok (.aload_n 0, 1) := by decide +kernel
theorem dX10_forced_32 : decode cX10_forced 32 = .ok (.bipush 6, 2) := by decide +kernel
theorem dX10_forced_34 : decode cX10_forced 34 = .ok (.invokevirtual 90, 3) := by decide +kernel
theorem dX10_forced_37 : decode cX10_forced 37 = .ok (.ireturn, 1) := by decide +kernel
theorem dX10_forced_38 : decode cX10_forced 38 = .ok (.aload_n 0, 1) := by decide +kernel
theorem dX10_forced_39 : decode cX10_forced 39 = .ok (.aload_n 0, 1) := by decide +kernel
theorem dX10_forced_40 : decode cX10_forced 40 = .ok (.getfield 57, 3) := by decide +kernel
theorem dX10_forced_43 : decode cX10_forced 43 = .ok (.iload_n 1, 1) := by decide +kernel
theorem dX10_forced_44 : decode cX10_forced 44 = .ok (.invokevirtual 228, 3) := by decide +kernel
theorem dX10_forced_47 : decode cX10_forced 47 = .ok (.invokevirtual 125, 3) := by decide +kernel
theorem dX10_forced_50 : decode cX10_forced 50 = .ok (.ireturn, 1) := by decide +kernel
set_option maxRecDepth 20000 in
theorem ggX10_core_X10_noBook : GoodIn wsX10_core wsX10_noBook := goodIn_r _ [6, 7, 8, 32, 33, 34, 35, 36, 37, 38, 39, 40, 41, 42, 43, 44, 45, 46, 47, 48, 49, 50, 51, 52, 53] (by decide +kernel) (by decide +kernel)
set_option maxRecDepth 20000 in
theorem gX10_core_X10_noBook : GoodIn wsX10_core (wsV RX10 131 RX10 yX10_noBook wsX10_noBook) := goodIn_app (goodIn_of _ (by decide +kernel)) ggX10_core_X10_noBook
set_option maxRecDepth 20000 in
theorem ggX10_core_X10_refused : GoodIn wsX10_core wsX10_refused := goodIn_r _ [12, 13, 32, 33, 34, 35, 36, 37, 38, 39, 40, 41, 42, 43, 44, 45] (by decide +kernel) (by decide +kernel)
set_option maxRecDepth 20000 in
theorem gX10_core_X10_refused : GoodIn wsX10_core (wsV RX10 90 RX10 yX10_refused wsX10_refused) := goodIn_app (goodIn_of _ (by decide +kernel)) ggX10_core_X10_refused
theorem dX10_core_0 : decode cX10_core 0 = .ok (.aload_n 0, 1) := by decide +kernel
theorem dX10_core_1 : decode cX10_core 1 = .ok (.invokevirtual 131, 3) := by decide +kernel
theorem dX10_core_4 : decode cX10_core 4 = .ok (.ifCond .eq 9, 3) := by decide +kernel
theorem dX10_core_7 : decode cX10_core 7 = .ok (.aload_n 0, 1) := by decide +kernel
theorem dX10_core_8 : decode cX10_core 8 = .ok (.iconst 1, 1) := by decide +kernel
theorem dX10_core_9 : decode cX10_core 9 = .ok (.invokevirtual 90, 3) := by decide +kernel
theorem dX10_core_12 : decode cX10_core 12 = .ok (.ireturn, 1) := by decide +kernel
theorem dX10_core_13 : decode cX10_core 13 = .ok (.aload_n 0, 1) := by decide +kernel
theorem dX10_core_14 : decode cX10_core 14 = .ok (.aload_n 0, 1) := by decide +kernel
theorem dX10_core_15 : decode cX10_core 15 = .ok (.getfield 57, 3) := by decide +kernel
theorem dX10_core_18 : decode cX10_core 18 = .ok (.invokevirtual 231, 3) := by decide +kernel
theorem dX10_core_21 : decode cX10_core 21 = .ok (.invokevirtual 125, 3) := by decide +kernel
theorem dX10_core_24 : decode cX10_core 24 = .ok (.ireturn, 1) := by decide +kernel
set_option maxRecDepth 20000 in
theorem ggX10_can_X10_noBook : GoodIn wsX10_can wsX10_noBook := goodIn_r _ [7, 8, 9, 26, 27, 28, 29, 30, 31, 32, 33, 34, 35, 36, 37, 38, 39, 46, 47, 48, 49, 50, 51, 52, 53] (by decide +kernel) (by decide +kernel)
set_option maxRecDepth 20000 in
theorem gX10_can_X10_noBook : GoodIn wsX10_can (wsV RX10 131 RX10 yX10_noBook wsX10_noBook) := goodIn_app (goodIn_of _ (by decide +kernel)) ggX10_can_X10_noBook
set_option maxRecDepth 20000 in
theorem ggX10_can_X10_refused : GoodIn wsX10_can wsX10_refused := goodIn_r _ [13, 14, 26, 27, 28, 29, 30, 31, 32, 33, 34, 35, 36, 37, 38, 39] (by decide +kernel) (by decide +kernel)
set_option maxRecDepth 20000 in
theorem gX10_can_X10_refused : GoodIn wsX10_can (wsV RX10 90 RX10 yX10_refused wsX10_refused) := goodIn_app (goodIn_of _ (by decide +kernel)) ggX10_can_X10_refused
theorem dX10_can_0 : decode cX10_can 0 = .ok (.aload_n 0, 1) := by decide +kernel
theorem dX10_can_1 : decode cX10_can 1 = .ok (.invokevirtual 131, 3) := by decide +kernel
theorem dX10_can_4 : decode cX10_can 4 = .ok (.ifCond .eq 9, 3) := by decide +kernel
theorem dX10_can_7 : decode cX10_can 7 = .ok (.aload_n 0, 1) := by decide +kernel
theorem dX10_can_8 : decode cX10_can 8 = .ok (.iconst 1, 1) := by decide +kernel
theorem dX10_can_9 : decode cX10_can 9 = .ok (.invokevirtual 90, 3) := by decide +kernel
theorem dX10_can_12 : decode cX10_can 12 = .ok (.ireturn, 1) := by decide +kernel
theorem dX10_can_13 : decode cX10_can 13 = .ok (.iload_n 1, 1) := by decide +kernel
theorem dX10_can_14 : decode cX10_can 14 = .ok (.ifCond .lt 16, 3) := by decide +kernel
theorem dX10_can_17 : decode cX10_can 17 = .ok (.iload_n 1, 1) := by decide +kernel
theorem dX10_can_18 : decode cX10_can 18 = .ok (.iconst 1, 1) := by decide +kernel
theorem dX10_can_19 : decode cX10_can 19 = .ok (.aload_n 0, 1) := by decide +kernel
theorem dX10_can_20 : decode cX10_can 20 = .ok (.getfield 57, 3) := by decide +kernel
theorem dX10_can_23 : decode cX10_can 23 = .ok (.getfield 234, 3) := by decide +kernel
theorem dX10_can_26 : decode cX10_can 26 = .ok (.ishl, 1) := by decide +kernel
theorem dX10_can_27 : decode cX10_can 27 = .ok (.if_icmp .lt 9, 3) := by decide +kernel
theorem dX10_can_30 : decode cX10_can 30 = .ok (.aload_n 0, 1) := by decide +kernel
theorem dX10_can_31 : decode cX10_can 31 = .ok (.iconst 2, 1) := by decide +kernel
theorem dX10_can_32 : decode cX10_can 32 = .ok (.invokevirtual 90, 3) := by decide +kernel
theorem dX10_can_35 : decode cX10_can 35 = .ok (.ireturn, 1) := by decide +kernel
theorem dX10_can_36 : decode cX10_can 36 = .ok (.aload_n 0, 1) := by decide +kernel
theorem dX10_can_37 : decode cX10_can 37 = .ok (.aload_n 0, 1) := by decide +kernel
theorem dX10_can_38 : decode cX10_can 38 = .ok (.getfield 57, 3) := by decide +kernel
theorem dX10_can_41 : decode cX10_can 41 = .ok (.iload_n 1, 1) := by decide +kernel
theorem dX10_can_42 : decode cX10_can 42 = .ok (.invokevirtual 237, 3) := by decide +kernel
theorem dX10_can_45 : decode cX10_can 45 = .ok (.ifCond .eq 7, 3) := by decide +kernel
theorem dX10_can_48 : decode cX10_can 48 = .ok (.iconst 1, 1) := by decide +kernel
theorem dX10_can_49 : decode cX10_can 49 = .ok (.goto 4, 3) := by decide +kernel
theorem dX10_can_52 : decode cX10_can 52 = .ok (.iconst 0, 1) := by decide +kernel
theorem dX10_can_53 : decode cX10_can 53 = .ok (.invokevirtual 125, 3) := by decide +kernel
theorem dX10_can_56 : decode cX10_can 56 = .ok (.ireturn, 1) := by decide +kernel
set_option maxRecDepth 20000 in
theorem ggX10_game_X10_noBook : GoodIn wsX10_game wsX10_noBook := goodIn_r _ [6, 7, 8, 36, 37, 38, 39, 40, 41, 42, 43, 44, 45, 46, 47, 48, 49, 50, 51, 52, 53, 54, 55, 56, 57] (by decide +kernel) (by decide +kernel)
set_option maxRecDepth 20000 in
theorem gX10_game_X10_noBook : GoodIn wsX10_game (wsV RX10 131 RX10 yX10_noBook wsX10_noBook) := goodIn_app (goodIn_of _ (by decide +kernel)) ggX10_game_X10_noBook
set_option maxRecDepth 20000 in
theorem ggX10_game_X10_refused : GoodIn wsX10_game wsX10_refused := goodIn_r _ [12, 13, 36, 37, 38, 39, 40, 41, 42, 43, 44, 45, 46, 47, 48, 49] (by decide +kernel) (by decide +kernel)
