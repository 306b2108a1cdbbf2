theorem dX0_init_0 : decode cX0_init 0 = .ok (.aload_n 0, 1) := by decide +kernel
theorem dX0_init_1 : decode cX0_init 1 = .ok (.invokespecial 1, 3) := by decide +kernel
theorem dX0_init_4 : decode cX0_init 4 = .ok (.aload_n 0, 1) := by decide +kernel
theorem dX0_init_5 : decode cX0_init 5 = .ok (.aload_n 1, 1) := by decide +kernel
theorem dX0_init_6 : decode cX0_init 6 = .ok (.putfield 7, 3) := by decide +kernel
theorem dX0_init_9 : decode cX0_init 9 = .ok (.aload_n 0, 1) := by decide +kernel
theorem dX0_init_10 : decode cX0_init 10 = .ok (.iload_n 2, 1) := by decide +kernel
theorem dX0_init_11 : decode cX0_init 11 = .ok (.putfield 13, 3) := by decide +kernel
theorem dX0_init_14 : decode cX0_init 14 = .ok (.aload_n 0, 1) := by decide +kernel
theorem dX0_init_15 : decode cX0_init 15 = .ok (.iload_n 3, 1) := by decide +kernel
theorem dX0_init_16 : decode cX0_init 16 = .ok (.putfield 17, 3) := by decide +kernel
theorem dX0_init_19 : decode cX0_init 19 = .ok (.aload_n 0, 1) := by decide +kernel
theorem dX0_init_20 : decode cX0_init 20 = .ok (.iload 4, 2) := by decide +kernel
theorem dX0_init_22 : decode cX0_init 22 = .ok (.putfield 20, 3) := by decide +kernel
theorem dX0_init_25 : decode cX0_init 25 = .ok (.return_, 1) := by decide +kernel
theorem dX0_payOff_0 : decode cX0_payOff 0 = .ok (.iconst 0, 1) := by decide +kernel
theorem dX0_payOff_1 : decode cX0_payOff 1 = .ok (.iload_n 1, 1) := by decide +kernel
theorem dX0_payOff_2 : decode cX0_payOff 2 = .ok (.aload_n 0, 1) := by decide +kernel
theorem dX0_payOff_3 : decode cX0_payOff 3 = .ok (.getfield 17, 3) := by decide +kernel
theorem dX0_payOff_6 : decode cX0_payOff 6 = .ok (.aload_n 0, 1) := by decide +kernel
theorem dX0_payOff_7 : decode cX0_payOff 7 = .ok (.getfield 20, 3) := by decide +kernel
theorem dX0_payOff_10 : decode cX0_payOff 10 = .ok (.invokestatic 23, 3) := by decide +kernel
theorem dX0_payOff_13 : decode cX0_payOff 13 = .ok (.invokestatic 23, 3) := by decide +kernel
theorem dX0_payOff_16 : decode cX0_payOff 16 = .ok (.invokestatic 29, 3) := by decide +kernel
theorem dX0_payOff_19 : decode cX0_payOff 19 = .ok (.istore_n 2, 1) := by decide +kernel
theorem dX0_payOff_20 : decode cX0_payOff 20 = .ok (.aload_n 0, 1) := by decide +kernel
theorem dX0_payOff_21 : decode cX0_payOff 21 = .ok (.dup, 1) := by decide +kernel
theorem dX0_payOff_22 : decode cX0_payOff 22 = .ok (.getfield 17, 3) := by decide +kernel
theorem dX0_payOff_25 : decode cX0_payOff 25 = .ok (.iload_n 2, 1) := by decide +kernel
theorem dX0_payOff_26 : decode cX0_payOff 26 = .ok (.isub, 1) := by decide +kernel
theorem dX0_payOff_27 : decode cX0_payOff 27 = .ok (.putfield 17, 3) := by decide +kernel
theorem dX0_payOff_30 : decode cX0_payOff 30 = .ok (.iload_n 2, 1) := by decide +kernel
theorem dX0_payOff_31 : decode cX0_payOff 31 = .ok (.ireturn, 1) := by decide +kernel
theorem dX1_init_0 : decode cX1_init 0 = .ok (.aload_n 0, 1) := by decide +kernel
theorem dX1_init_1 : decode cX1_init 1 = .ok (.invokespecial 1, 3) := by decide +kernel
theorem dX1_init_4 : decode cX1_init 4 = .ok (.aload_n 0, 1) := by decide +kernel
theorem dX1_init_5 : decode cX1_init 5 = .ok (.iconst 0, 1) := by decide +kernel
theorem dX1_init_6 : decode cX1_init 6 = .ok (.putfield 7, 3) := by decide +kernel
theorem dX1_init_9 : decode cX1_init 9 = .ok (.aload_n 0, 1) := by decide +kernel
theorem dX1_init_10 : decode cX1_init 10 = .ok (.iconst 0, 1) := by decide +kernel
theorem dX1_init_11 : decode cX1_init 11 = .ok (.putfield 13, 3) := by decide +kernel
theorem dX1_init_14 : decode cX1_init 14 = .ok (.return_, 1) := by decide +kernel
theorem dX1_receive_0 : decode cX1_receive 0 = .ok (.aload_n 0, 1) := by decide +kernel
theorem dX1_receive_1 : decode cX1_receive 1 = .ok (.getfield 13, 3) := by decide +kernel
theorem dX1_receive_4 : decode cX1_receive 4 = .ok (.iload_n 1, 1) := by decide +kernel
theorem dX1_receive_5 : decode cX1_receive 5 = .ok (.invokestatic 16, 3) := by decide +kernel
theorem dX1_receive_8 : decode cX1_receive 8 = .ok (.istore_n 2, 1) := by decide +kernel
theorem dX1_receive_9 : decode cX1_receive 9 = .ok (.aload_n 0, 1) := by decide +kernel
theorem dX1_receive_10 : decode cX1_receive 10 = .ok (.dup, 1) := by decide +kernel
theorem dX1_receive_11 : decode cX1_receive 11 = .ok (.getfield 13, 3) := by decide +kernel
theorem dX1_receive_14 : decode cX1_receive 14 = .ok (.iload_n 2, 1) := by decide +kernel
theorem dX1_receive_15 : decode cX1_receive 15 = .ok (.isub, 1) := by decide +kernel
theorem dX1_receive_16 : decode cX1_receive 16 = .ok (.putfield 13, 3) := by decide +kernel
theorem dX1_receive_19 : decode cX1_receive 19 = .ok (.aload_n 0, 1) := by decide +kernel
theorem dX1_receive_20 : decode cX1_receive 20 = .ok (.dup, 1) := by decide +kernel
theorem dX1_receive_21 : decode cX1_receive 21 = .ok (.getfield 7, 3) := by decide +kernel
theorem dX1_receive_24 : decode cX1_receive 24 = .ok (.iload_n 1, 1) := by decide +kernel
theorem dX1_receive_25 : decode cX1_receive 25 = .ok (.iload_n 2, 1) := by decide +kernel
theorem dX1_receive_26 : decode cX1_receive 26 = .ok (.isub, 1) := by decide +kernel
theorem dX1_receive_27 : decode cX1_receive 27 = .ok (.iadd, 1) := by decide +kernel
theorem dX1_receive_28 : decode cX1_receive 28 = .ok (.putfield 7, 3) := by decide +kernel
theorem dX1_receive_31 : decode cX1_receive 31 = .ok (.return_, 1) := by decide +kernel
theorem dX1_lose_0 : decode cX1_lose 0 = .ok (.aload_n 0, 1) := by decide +kernel
theorem dX1_lose_1 : decode cX1_lose 1 = .ok (.getfield 7, 3) := by decide +kernel
theorem dX1_lose_4 : decode cX1_lose 4 = .ok (.iload_n 1, 1) := by decide +kernel
theorem dX1_lose_5 : decode cX1_lose 5 = .ok (.invokestatic 16, 3) := by decide +kernel
theorem dX1_lose_8 : decode cX1_lose 8 = .ok (.istore_n 2, 1) := by decide +kernel
theorem dX1_lose_9 : decode cX1_lose 9 = .ok (.aload_n 0, 1) := by decide +kernel
theorem dX1_lose_10 : decode cX1_lose 10 = .ok (.dup, 1) := by decide +kernel
theorem dX1_lose_11 : decode cX1_lose 11 = .ok (.getfield 7, 3) := by decide +kernel
theorem dX1_lose_14 : decode cX1_lose 14 = .ok (.iload_n 2, 1) := by decide +kernel
theorem dX1_lose_15 : decode cX1_lose 15 = .ok (.isub, 1) := by decide +kernel
theorem dX1_lose_16 : decode cX1_lose 16 = .ok (.putfield 7, 3) := by decide +kernel
theorem dX1_lose_19 : decode cX1_lose 19 = .ok (.aload_n 0, 1) := by decide +kernel
theorem dX1_lose_20 : decode cX1_lose 20 = .ok (.dup, 1) := by decide +kernel
theorem dX1_lose_21 : decode cX1_lose 21 = .ok (.getfield 13, 3) := by decide +kernel
theorem dX1_lose_24 : decode cX1_lose 24 = .ok (.iload_n 1, 1) := by decide +kernel
theorem dX1_lose_25 : decode cX1_lose 25 = .ok (.iload_n 2, 1) := by decide +kernel
theorem dX1_lose_26 : decode cX1_lose 26 = .ok (.isub, 1) := by decide +kernel
theorem dX1_lose_27 : decode cX1_lose 27 = .ok (.iadd, 1) := by decide +kernel
theorem dX1_lose_28 : decode cX1_lose 28 = .ok (.putfield 13, 3) := by decide +kernel
theorem dX1_lose_31 : decode cX1_lose 31 = .ok (.return_, 1) := by decide +kernel
set_option maxRecDepth 20000 in
theorem ggX2_init_X3_init : GoodIn wsX2_init wsX3_init := goodIn_r _ [11, 12, 2, 3, 13, 14, 15, 16, 17, 18] (by decide +kernel) (by decide +kernel)
set_option maxRecDepth 20000 in
theorem gX2_init_X3_init : GoodIn wsX2_init (wsX3_init) := ggX2_init_X3_init
theorem dX2_init_0 : decode cX2_init 0 = .ok (.aload_n 0, 1) := by decide +kernel
theorem dX2_init_1 : decode cX2_init 1 = .ok (.invokespecial 3, 3) := by decide +kernel
theorem dX2_init_4 : decode cX2_init 4 = .ok (.aload_n 0, 1) := by decide +kernel
theorem dX2_init_5 : decode cX2_init 5 = .ok (.new 9, 3) := by decide +kernel
theorem dX2_init_8 : decode cX2_init 8 = .ok (.dup, 1) := by decide +kernel
theorem dX2_init_9 : decode cX2_init 9 = .ok (.sipush 1000, 3) := by decide +kernel
theorem dX2_init_12 : decode cX2_init 12 = .ok (.invokespecial 11, 3) := by decide +kernel
theorem dX2_init_15 : decode cX2_init 15 = .ok (.putfield 14, 3) := by decide +kernel
theorem dX2_init_18 : decode cX2_init 18 = .ok (.aload_n 0, 1) := by decide +kernel
theorem dX2_init_19 : decode cX2_init 19 = .ok (.new 9, 3) := by decide +kernel
theorem dX2_init_22 : decode cX2_init 22 = .ok (.dup, 1) := by decide +kernel
theorem dX2_init_23 : decode cX2_init 23 = .ok (.sipush 1500, 3) := by decide +kernel
theorem dX2_init_26 : decode cX2_init 26 = .ok (.invokespecial 11, 3) := by decide +kernel
theorem dX2_init_29 : decode cX2_init 29 = .ok (.putfield 20, 3) := by decide +kernel
theorem dX2_init_32 : decode cX2_init 32 = .ok (.return_, 1) := by decide +kernel
theorem dX3_init_0 : decode cX3_init 0 = .ok (.aload_n 0, 1) := by decide +kernel
theorem dX3_init_1 : decode cX3_init 1 = .ok (.invokespecial 3, 3) := by decide +kernel
theorem dX3_init_4 : decode cX3_init 4 = .ok (.aload_n 0, 1) := by decide +kernel
theorem dX3_init_5 : decode cX3_init 5 = .ok (.bipush 31, 2) := by decide +kernel
theorem dX3_init_7 : decode cX3_init 7 = .ok (.newarray .int, 2) := by decide +kernel
theorem dX3_init_9 : decode cX3_init 9 = .ok (.putfield 9, 3) := by decide +kernel
theorem dX3_init_12 : decode cX3_init 12 = .ok (.aload_n 0, 1) := by decide +kernel
theorem dX3_init_13 : decode cX3_init 13 = .ok (.bipush 31, 2) := by decide +kernel
theorem dX3_init_15 : decode cX3_init 15 = .ok (.newarray .boolean, 2) := by decide +kernel
theorem dX3_init_17 : decode cX3_init 17 = .ok (.putfield 15, 3) := by decide +kernel
theorem dX3_init_20 : decode cX3_init 20 = .ok (.iconst 0, 1) := by decide +kernel
theorem dX3_init_21 : decode cX3_init 21 = .ok (.istore_n 2, 1) := by decide +kernel
theorem dX3_init_22 : decode cX3_init 22 = .ok (.iload_n 2, 1) := by decide +kernel
theorem dX3_init_23 : decode cX3_init 23 = .ok (.aload_n 0, 1) := by decide +kernel
theorem dX3_init_24 : decode cX3_init 24 = .ok (.getfield 9, 3) := by decide +kernel
theorem dX3_init_27 : decode cX3_init 27 = .ok (.arraylength, 1) := by decide +kernel
theorem dX3_init_28 : decode cX3_init 28 = .ok (.if_icmp .ge 16, 3) := by decide +kernel
theorem dX3_init_31 : decode cX3_init 31 = .ok (.aload_n 0, 1) := by decide +kernel
theorem dX3_init_32 : decode cX3_init 32 = .ok (.getfield 9, 3) := by decide +kernel
theorem dX3_init_35 : decode cX3_init 35 = .ok (.iload_n 2, 1) := by decide +kernel
theorem dX3_init_36 : decode cX3_init 36 = .ok (.iload_n 1, 1) := by decide +kernel
theorem dX3_init_37 : decode cX3_init 37 = .ok (.iastore, 1) := by decide +kernel
theorem dX3_init_38 : decode cX3_init 38 = .ok (.iinc 2 1, 3) := by decide +kernel
theorem dX3_init_41 : decode cX3_init 41 = .ok (.goto (-19), 3) := by decide +kernel
theorem dX3_init_44 : decode cX3_init 44 = .ok (.return_, 1) := by decide +kernel
theorem dX3_inWeek_0 : decode cX3_inWeek 0 = .ok (.iload_n 1, 1) := by decide +kernel
theorem dX3_inWeek_1 : decode cX3_inWeek 1 = .ok (.ifCond .lt 21, 3) := by decide +kernel
theorem dX3_inWeek_4 : decode cX3_inWeek 4 = .ok (.iload_n 1, 1) := by decide +kernel
theorem dX3_inWeek_5 : decode cX3_inWeek 5 = .ok (.aload_n 0, 1) := by decide +kernel
theorem dX3_inWeek_6 : decode cX3_inWeek 6 = .ok (.getfield 9, 3) := by decide +kernel
theorem dX3_inWeek_9 : decode cX3_inWeek 9 = .ok (.arraylength, 1) := by decide +kernel
theorem dX3_inWeek_10 : decode cX3_inWeek 10 = .ok (.if_icmp .ge 12, 3) := by decide +kernel
theorem dX3_inWeek_13 : decode cX3_inWeek 13 = .ok (.aload_n 0, 1) := by decide +kernel
theorem dX3_inWeek_14 : decode cX3_inWeek 14 = .ok (.getfield 9, 3) := by decide +kernel
theorem dX3_inWeek_17 : decode cX3_inWeek 17 = .ok (.iload_n 1, 1) := by decide +kernel
theorem dX3_inWeek_18 : decode cX3_inWeek 18 = .ok (.iaload, 1) := by decide +kernel
theorem dX3_inWeek_19 : decode cX3_inWeek 19 = .ok (.goto 4, 3) := by decide +kernel
theorem dX3_inWeek_22 : decode cX3_inWeek 22 = .ok (.iconst (-1), 1) := by decide +kernel
theorem dX3_inWeek_23 : decode cX3_inWeek 23 = .ok (.ireturn, 1) := by decide +kernel
theorem dX3_tell_0 : decode cX3_tell 0 = .ok (.iload_n 1, 1) := by decide +kernel
theorem dX3_tell_1 : decode cX3_tell 1 = .ok (.ifCond .lt 21, 3) := by decide +kernel
theorem dX3_tell_4 : decode cX3_tell 4 = .ok (.iload_n 1, 1) := by decide +kernel
theorem dX3_tell_5 : decode cX3_tell 5 = .ok (.aload_n 0, 1) := by decide +kernel
theorem dX3_tell_6 : decode cX3_tell 6 = .ok (.getfield 9, 3) := by decide +kernel
theorem dX3_tell_9 : decode cX3_tell 9 = .ok (.arraylength, 1) := by decide +kernel
theorem dX3_tell_10 : decode cX3_tell 10 = .ok (.if_icmp .ge 12, 3) := by decide +kernel
theorem dX3_tell_13 : decode cX3_tell 13 = .ok (.iload_n 1, 1) := by decide +kernel
theorem dX3_tell_14 : decode cX3_tell 14 = .ok (.aload_n 0, 1) := by decide +kernel
theorem dX3_tell_15 : decode cX3_tell 15 = .ok (.getfield 15, 3) := by decide +kernel
theorem dX3_tell_18 : decode cX3_tell 18 = .ok (.arraylength, 1) := by decide +kernel
theorem dX3_tell_19 : decode cX3_tell 19 = .ok (.if_icmp .lt 4, 3) := by decide +kernel
theorem dX3_tell_22 : decode cX3_tell 22 = .ok (.return_, 1) := by decide +kernel
theorem dX3_tell_23 : decode cX3_tell 23 = .ok (.aload_n 0, 1) := by decide +kernel
theorem dX3_tell_24 : decode cX3_tell 24 = .ok (.getfield 15, 3) := by decide +kernel
theorem dX3_tell_27 : decode cX3_tell 27 = .ok (.iload_n 1, 1) := by decide +kernel
theorem dX3_tell_28 : decode cX3_tell 28 = .ok (.iconst 1, 1) := by decide +kernel
theorem dX3_tell_29 : decode cX3_tell 29 = .ok (.bastore, 1) := by decide +kernel
theorem dX3_tell_30 : decode cX3_tell 30 = .ok (.aload_n 0, 1) := by decide +kernel
theorem dX3_tell_31 : decode cX3_tell 31 = .ok (.getfield 9, 3) := by decide +kernel
theorem dX3_tell_34 : decode cX3_tell 34 = .ok (.iload_n 1, 1) := by decide +kernel
theorem dX3_tell_35 : decode cX3_tell 35 = .ok (.iload_n 2, 1) := by decide +kernel
theorem dX3_tell_36 : decode cX3_tell 36 = .ok (.iastore, 1) := by decide +kernel
theorem dX3_tell_37 : decode cX3_tell 37 = .ok (.iload_n 1, 1) := by decide +kernel
theorem dX3_tell_38 : decode cX3_tell 38 = .ok (.iconst 1, 1) := by decide +kernel
theorem dX3_tell_39 : decode cX3_tell 39 = .ok (.iadd, 1) := by decide +kernel
theorem dX3_tell_40 : decode cX3_tell 40 = .ok (.istore_n 3, 1) := by decide +kernel
theorem dX3_tell_41 : decode cX3_tell 41 = .ok (.iload_n 3, 1) := by decide +kernel
theorem dX3_tell_42 : decode cX3_tell 42 = .ok (.aload_n 0, 1) := by decide +kernel
theorem dX3_tell_43 : decode cX3_tell 43 = .ok (.getfield 9, 3) := by decide +kernel
theorem dX3_tell_46 : decode cX3_tell 46 = .ok (.arraylength, 1) := by decide +kernel
theorem dX3_tell_47 : decode cX3_tell 47 = .ok (.if_icmp .ge 35, 3) := by decide +kernel
theorem dX3_tell_50 : decode cX3_tell 50 = .ok (.iload_n 3, 1) := by decide +kernel
theorem dX3_tell_51 : decode cX3_tell 51 = .ok (.aload_n 0, 1) := by decide +kernel
theorem dX3_tell_52 : decode cX3_tell 52 = .ok (.getfield 15, 3) := by decide +kernel
theorem dX3_tell_55 : decode cX3_tell 55 = .ok (.arraylength, 1) := by decide +kernel
theorem dX3_tell_56 : decode cX3_tell 56 = .ok (.if_icmp .ge 26, 3) := by decide +kernel
theorem dX3_tell_59 : decode cX3_tell 59 = .ok (.aload_n 0, 1) := by decide +kernel
theorem dX3_tell_60 : decode cX3_tell 60 = .ok (.getfield 15, 3) := by decide +kernel
theorem dX3_tell_63 : decode cX3_tell 63 = .ok (.iload_n 3, 1) := by decide +kernel
theorem dX3_tell_64 : decode cX3_tell 64 = .ok (.baload, 1) := by decide +kernel
theorem dX3_tell_65 : decode cX3_tell 65 = .ok (.ifCond .eq 4, 3) := by decide +kernel
theorem dX3_tell_68 : decode cX3_tell 68 = .ok (.return_, 1) := by decide +kernel
theorem dX3_tell_69 : decode cX3_tell 69 = .ok (.aload_n 0, 1) := by decide +kernel
theorem dX3_tell_70 : decode cX3_tell 70 = .ok (.getfield 9, 3) := by decide +kernel
theorem dX3_tell_73 : decode cX3_tell 73 = .ok (.iload_n 3, 1) := by decide +kernel
theorem dX3_tell_74 : decode cX3_tell 74 = .ok (.iload_n 2, 1) := by decide +kernel
theorem dX3_tell_75 : decode cX3_tell 75 = .ok (.iastore, 1) := by decide +kernel
theorem dX3_tell_76 : decode cX3_tell 76 = .ok (.iinc 3 1, 3) := by decide +kernel
theorem dX3_tell_79 : decode cX3_tell 79 = .ok (.goto (-38), 3) := by decide +kernel
theorem dX3_tell_82 : decode cX3_tell 82 = .ok (.return_, 1) := by decide +kernel
theorem dX4_init_0 : decode cX4_init 0 = .ok (.aload_n 0, 1) := by decide +kernel
theorem dX4_init_1 : decode cX4_init 1 = .ok (.invokespecial 1, 3) := by decide +kernel
theorem dX4_init_4 : decode cX4_init 4 = .ok (.aload_n 0, 1) := by decide +kernel
theorem dX4_init_5 : decode cX4_init 5 = .ok (.iload_n 1, 1) := by decide +kernel
theorem dX4_init_6 : decode cX4_init 6 = .ok (.putfield 7, 3) := by decide +kernel
theorem dX4_init_9 : decode cX4_init 9 = .ok (.aload_n 0, 1) := by decide +kernel
theorem dX4_init_10 : decode cX4_init 10 = .ok (.iload_n 2, 1) := by decide +kernel
theorem dX4_init_11 : decode cX4_init 11 = .ok (.putfield 13, 3) := by decide +kernel
theorem dX4_init_14 : decode cX4_init 14 = .ok (.aload_n 0, 1) := by decide +kernel
theorem dX4_init_15 : decode cX4_init 15 = .ok (.iload_n 3, 1) := by decide +kernel
theorem dX4_init_16 : decode cX4_init 16 = .ok (.putfield 16, 3) := by decide +kernel
theorem dX4_init_19 : decode cX4_init 19 = .ok (.return_, 1) := by decide +kernel
theorem dX5_init_0 : decode cX5_init 0 = .ok (.aload_n 0, 1) := by decide +kernel
theorem dX5_init_1 : decode cX5_init 1 = .ok (.invokespecial 3, 3) := by decide +kernel
theorem dX5_init_4 : decode cX5_init 4 = .ok (.aload_n 0, 1) := by decide +kernel
theorem dX5_init_5 : decode cX5_init 5 = .ok (.iload_n 1, 1) := by decide +kernel
theorem dX5_init_6 : decode cX5_init 6 = .ok (.putfield 9, 3) := by decide +kernel
theorem dX5_init_9 : decode cX5_init 9 = .ok (.aload_n 0, 1) := by decide +kernel
theorem dX5_init_10 : decode cX5_init 10 = .ok (.iload_n 2, 1) := by decide +kernel
theorem dX5_init_11 : decode cX5_init 11 = .ok (.putfield 15, 3) := by decide +kernel
theorem dX5_init_14 : decode cX5_init 14 = .ok (.aload_n 0, 1) := by decide +kernel
theorem dX5_init_15 : decode cX5_init 15 = .ok (.iload_n 3, 1) := by decide +kernel
theorem dX5_init_16 : decode cX5_init 16 = .ok (.putfield 18, 3) := by decide +kernel
theorem dX5_init_19 : decode cX5_init 19 = .ok (.aload_n 0, 1) := by decide +kernel
theorem dX5_init_20 : decode cX5_init 20 = .ok (.iload 4, 2) := by decide +kernel
theorem dX5_init_22 : decode cX5_init 22 = .ok (.putfield 21, 3) := by decide +kernel
theorem dX5_init_25 : decode cX5_init 25 = .ok (.return_, 1) := by decide +kernel
theorem dX5_part_0 : decode cX5_part 0 = .ok (.iload_n 1, 1) := by decide +kernel
theorem dX5_part_1 : decode cX5_part 1 = .ok (.tableswitch 51 0 3 #[31, 36, 41, 46], 31) := by decide +kernel
theorem dX5_part_32 : decode cX5_part 32 = .ok (.aload_n 0, 1) := by decide +kernel
theorem dX5_part_33 : decode cX5_part 33 = .ok (.getfield 9, 3) := by decide +kernel
theorem dX5_part_36 : decode cX5_part 36 = .ok (.ireturn, 1) := by decide +kernel
theorem dX5_part_37 : decode cX5_part 37 = .ok (.aload_n 0, 1) := by decide +kernel
theorem dX5_part_38 : decode cX5_part 38 = .ok (.getfield 15, 3) := by decide +kernel
theorem dX5_part_41 : decode cX5_part 41 = .ok (.ireturn, 1) := by decide +kernel
theorem dX5_part_42 : decode cX5_part 42 = .ok (.aload_n 0, 1) := by decide +kernel
theorem dX5_part_43 : decode cX5_part 43 = .ok (.getfield 18, 3) := by decide +kernel
theorem dX5_part_46 : decode cX5_part 46 = .ok (.ireturn, 1) := by decide +kernel
theorem dX5_part_47 : decode cX5_part 47 = .ok (.aload_n 0, 1) := by decide +kernel
theorem dX5_part_48 : decode cX5_part 48 = .ok (.getfield 21, 3) := by decide +kernel
theorem dX5_part_51 : decode cX5_part 51 = .ok (.ireturn, 1) := by decide +kernel
theorem dX5_part_52 : decode cX5_part 52 = .ok (.iconst 0, 1) := by decide +kernel
theorem dX5_part_53 : decode cX5_part 53 = .ok (.ireturn, 1) := by decide +kernel
theorem dX6_init_0 : decode cX6_init 0 = .ok (.aload_n 0, 1) := by decide +kernel
theorem dX6_init_1 : decode cX6_init 1 = .ok (.invokespecial 1, 3) := by decide +kernel
theorem dX6_init_4 : decode cX6_init 4 = .ok (.aload_n 0, 1) := by decide +kernel
theorem dX6_init_5 : decode cX6_init 5 = .ok (.iconst 0, 1) := by decide +kernel
theorem dX6_init_6 : decode cX6_init 6 = .ok (.putfield 7, 3) := by decide +kernel
theorem dX6_init_9 : decode cX6_init 9 = .ok (.aload_n 0, 1) := by decide +kernel
theorem dX6_init_10 : decode cX6_init 10 = .ok (.aload_n 1, 1) := by decide +kernel
theorem dX6_init_11 : decode cX6_init 11 = .ok (.putfield 13, 3) := by decide +kernel
theorem dX6_init_14 : decode cX6_init 14 = .ok (.aload_n 0, 1) := by decide +kernel
theorem dX6_init_15 : decode cX6_init 15 = .ok (.iload_n 2, 1) := by decide +kernel
theorem dX6_init_16 : decode cX6_init 16 = .ok (.putfield 17, 3) := by decide +kernel
theorem dX6_init_19 : decode cX6_init 19 = .ok (.return_, 1) := by decide +kernel
set_option maxRecDepth 20000 in
theorem ggX7_init_X3_init : GoodIn wsX7_init wsX3_init := goodIn_r _ [19, 20, 2, 3, 21, 22, 23, 24, 25, 26] (by decide +kernel) (by decide +kernel)
set_option maxRecDepth 20000 in
theorem gX7_init_X3_init : GoodIn wsX7_init (wsX3_init) := ggX7_init_X3_init
theorem dX7_init_0 : decode cX7_init 0 = .ok (.aload_n 0, 1) := by decide +kernel
theorem dX7_init_1 : decode cX7_init 1 = .ok (.invokespecial 3, 3) := by decide +kernel
theorem dX7_init_4 : decode cX7_init 4 = .ok (.aload_n 0, 1) := by decide +kernel
theorem dX7_init_5 : decode cX7_init 5 = .ok (.new 9, 3) := by decide +kernel
theorem dX7_init_8 : decode cX7_init 8 = .ok (.dup, 1) := by decide +kernel
theorem dX7_init_9 : decode cX7_init 9 = .ok (.iconst 0, 1) := by decide +kernel
theorem dX7_init_10 : decode cX7_init 10 = .ok (.invokespecial 11, 3) := by decide +kernel
theorem dX7_init_13 : decode cX7_init 13 = .ok (.putfield 14, 3) := by decide +kernel
theorem dX7_init_16 : decode cX7_init 16 = .ok (.aload_n 0, 1) := by decide +kernel
theorem dX7_init_17 : decode cX7_init 17 = .ok (.iconst 0, 1) := by decide +kernel
theorem dX7_init_18 : decode cX7_init 18 = .ok (.putfield 20, 3) := by decide +kernel
theorem dX7_init_21 : decode cX7_init 21 = .ok (.aload_n 0, 1) := by decide +kernel
theorem dX7_init_22 : decode cX7_init 22 = .ok (.iconst 0, 1) := by decide +kernel
theorem dX7_init_23 : decode cX7_init 23 = .ok (.putfield 24, 3) := by decide +kernel
theorem dX7_init_26 : decode cX7_init 26 = .ok (.aload_n 0, 1) := by decide +kernel
theorem dX7_init_27 : decode cX7_init 27 = .ok (.iconst 0, 1) := by decide +kernel
theorem dX7_init_28 : decode cX7_init 28 = .ok (.putfield 27, 3) := by decide +kernel
theorem dX7_init_31 : decode cX7_init 31 = .ok (.aload_n 0, 1) := by decide +kernel
theorem dX7_init_32 : decode cX7_init 32 = .ok (.iconst 0, 1) := by decide +kernel
theorem dX7_init_33 : decode cX7_init 33 = .ok (.putfield 30, 3) := by decide +kernel
theorem dX7_init_36 : decode cX7_init 36 = .ok (.aload_n 0, 1) := by decide +kernel
theorem dX7_init_37 : decode cX7_init 37 = .ok (.bipush 20, 2) := by decide +kernel
theorem dX7_init_39 : decode cX7_init 39 = .ok (.anewarray 33, 3) := by decide +kernel
theorem dX7_init_42 : decode cX7_init 42 = .ok (.putfield 35, 3) := by decide +kernel
theorem dX7_init_45 : decode cX7_init 45 = .ok (.aload_n 0, 1) := by decide +kernel
theorem dX7_init_46 : decode cX7_init 46 = .ok (.bipush 31, 2) := by decide +kernel
theorem dX7_init_48 : decode cX7_init 48 = .ok (.anewarray 39, 3) := by decide +kernel
theorem dX7_init_51 : decode cX7_init 51 = .ok (.putfield 41, 3) := by decide +kernel
theorem dX7_init_54 : decode cX7_init 54 = .ok (.aload_n 0, 1) := by decide +kernel
theorem dX7_init_55 : decode cX7_init 55 = .ok (.aload_n 1, 1) := by decide +kernel
theorem dX7_init_56 : decode cX7_init 56 = .ok (.putfield 45, 3) := by decide +kernel
theorem dX7_init_59 : decode cX7_init 59 = .ok (.return_, 1) := by decide +kernel
theorem dX7_sheet_0 : decode cX7_sheet 0 = .ok (.iload_n 1, 1) := by decide +kernel
theorem dX7_sheet_1 : decode cX7_sheet 1 = .ok (.ifCond .lt 21, 3) := by decide +kernel
theorem dX7_sheet_4 : decode cX7_sheet 4 = .ok (.iload_n 1, 1) := by decide +kernel
theorem dX7_sheet_5 : decode cX7_sheet 5 = .ok (.aload_n 0, 1) := by decide +kernel
theorem dX7_sheet_6 : decode cX7_sheet 6 = .ok (.getfield 35, 3) := by decide +kernel
theorem dX7_sheet_9 : decode cX7_sheet 9 = .ok (.arraylength, 1) := by decide +kernel
theorem dX7_sheet_10 : decode cX7_sheet 10 = .ok (.if_icmp .ge 12, 3) := by decide +kernel
theorem dX7_sheet_13 : decode cX7_sheet 13 = .ok (.aload_n 0, 1) := by decide +kernel
theorem dX7_sheet_14 : decode cX7_sheet 14 = .ok (.getfield 35, 3) := by decide +kernel
theorem dX7_sheet_17 : decode cX7_sheet 17 = .ok (.iload_n 1, 1) := by decide +kernel
theorem dX7_sheet_18 : decode cX7_sheet 18 = .ok (.aaload, 1) := by decide +kernel
theorem dX7_sheet_19 : decode cX7_sheet 19 = .ok (.goto 4, 3) := by decide +kernel
theorem dX7_sheet_22 : decode cX7_sheet 22 = .ok (.aconst_null, 1) := by decide +kernel
theorem dX7_sheet_23 : decode cX7_sheet 23 = .ok (.areturn, 1) := by decide +kernel
set_option maxRecDepth 20000 in
theorem ggX7_take_X7_sheet : GoodIn wsX7_take wsX7_sheet := goodIn_r _ [7, 1, 8, 9, 10, 11, 12, 13, 14, 15] (by decide +kernel) (by decide +kernel)
set_option maxRecDepth 20000 in
theorem gX7_take_X7_sheet : GoodIn wsX7_take (wsV RX7 49 RX7 yX7_sheet wsX7_sheet) := goodIn_app (goodIn_of _ (by decide +kernel)) ggX7_take_X7_sheet
theorem dX7_take_0 : decode cX7_take 0 = .ok (.iload_n 1, 1) := by decide +kernel
theorem dX7_take_1 : decode cX7_take 1 = .ok (.ifCond .lt 19, 3) := by decide +kernel
theorem dX7_take_4 : decode cX7_take 4 = .ok (.iload_n 1, 1) := by decide +kernel
theorem dX7_take_5 : decode cX7_take 5 = .ok (.aload_n 0, 1) := by decide +kernel
theorem dX7_take_6 : decode cX7_take 6 = .ok (.getfield 35, 3) := by decide +kernel
theorem dX7_take_9 : decode cX7_take 9 = .ok (.arraylength, 1) := by decide +kernel
theorem dX7_take_10 : decode cX7_take 10 = .ok (.if_icmp .ge 10, 3) := by decide +kernel
theorem dX7_take_13 : decode cX7_take 13 = .ok (.aload_n 0, 1) := by decide +kernel
theorem dX7_take_14 : decode cX7_take 14 = .ok (.getfield 35, 3) := by decide +kernel
theorem dX7_take_17 : decode cX7_take 17 = .ok (.iload_n 1, 1) := by decide +kernel
theorem dX7_take_18 : decode cX7_take 18 = .ok (.aload_n 2, 1) := by decide +kernel
theorem dX7_take_19 : decode cX7_take 19 = .ok (.aastore, 1) := by decide +kernel
theorem dX7_take_20 : decode cX7_take 20 = .ok (.aload_n 0, 1) := by decide +kernel
theorem dX7_take_21 : decode cX7_take 21 = .ok (.getfield 20, 3) := by decide +kernel
theorem dX7_take_24 : decode cX7_take 24 = .ok (.aload_n 0, 1) := by decide +kernel
theorem dX7_take_25 : decode cX7_take 25 = .ok (.getfield 35, 3) := by decide +kernel
theorem dX7_take_28 : decode cX7_take 28 = .ok (.arraylength, 1) := by decide +kernel
theorem dX7_take_29 : decode cX7_take 29 = .ok (.if_icmp .ge 27, 3) := by decide +kernel
theorem dX7_take_32 : decode cX7_take 32 = .ok (.aload_n 0, 1) := by decide +kernel
theorem dX7_take_33 : decode cX7_take 33 = .ok (.aload_n 0, 1) := by decide +kernel
theorem dX7_take_34 : decode cX7_take 34 = .ok (.getfield 20, 3) := by decide +kernel
theorem dX7_take_37 : decode cX7_take 37 = .ok (.invokevirtual 49, 3) := by decide +kernel
theorem dX7_take_40 : decode cX7_take 40 = .ok (.ifnull 16, 3) := by decide +kernel
theorem dX7_take_43 : decode cX7_take 43 = .ok (.aload_n 0, 1) := by decide +kernel
theorem dX7_take_44 : decode cX7_take 44 = .ok (.dup, 1) := by decide +kernel
theorem dX7_take_45 : decode cX7_take 45 = .ok (.getfield 20, 3) := by decide +kernel
theorem dX7_take_48 : decode cX7_take 48 = .ok (.iconst 1, 1) := by decide +kernel
theorem dX7_take_49 : decode cX7_take 49 = .ok (.iadd, 1) := by decide +kernel
theorem dX7_take_50 : decode cX7_take 50 = .ok (.putfield 20, 3) := by decide +kernel
theorem dX7_take_53 : decode cX7_take 53 = .ok (.goto (-33), 3) := by decide +kernel
theorem dX7_take_56 : decode cX7_take 56 = .ok (.return_, 1) := by decide +kernel
theorem dX7_owe_0 : decode cX7_owe 0 = .ok (.aload_n 0, 1) := by decide +kernel
theorem dX7_owe_1 : decode cX7_owe 1 = .ok (.dup, 1) := by decide +kernel
theorem dX7_owe_2 : decode cX7_owe 2 = .ok (.getfield 27, 3) := by decide +kernel
theorem dX7_owe_5 : decode cX7_owe 5 = .ok (.iload_n 1, 1) := by decide +kernel
theorem dX7_owe_6 : decode cX7_owe 6 = .ok (.iadd, 1) := by decide +kernel
theorem dX7_owe_7 : decode cX7_owe 7 = .ok (.putfield 27, 3) := by decide +kernel
theorem dX7_owe_10 : decode cX7_owe 10 = .ok (.aload_n 0, 1) := by decide +kernel
theorem dX7_owe_11 : decode cX7_owe 11 = .ok (.dup, 1) := by decide +kernel
theorem dX7_owe_12 : decode cX7_owe 12 = .ok (.getfield 30, 3) := by decide +kernel
theorem dX7_owe_15 : decode cX7_owe 15 = .ok (.iload_n 1, 1) := by decide +kernel
theorem dX7_owe_16 : decode cX7_owe 16 = .ok (.iadd, 1) := by decide +kernel
theorem dX7_owe_17 : decode cX7_owe 17 = .ok (.putfield 30, 3) := by decide +kernel
theorem dX7_owe_20 : decode cX7_owe 20 = .ok (.aload_n 0, 1) := by decide +kernel
theorem dX7_owe_21 : decode cX7_owe 21 = .ok (.dup, 1) := by decide +kernel
theorem dX7_owe_22 : decode cX7_owe 22 = .ok (.getfield 24, 3) := by decide +kernel
theorem dX7_owe_25 : decode cX7_owe 25 = .ok (.iload_n 1, 1) := by decide +kernel
theorem dX7_owe_26 : decode cX7_owe 26 = .ok (.isub, 1) := by decide +kernel
theorem dX7_owe_27 : decode cX7_owe 27 = .ok (.putfield 24, 3) := by decide +kernel
theorem dX7_owe_30 : decode cX7_owe 30 = .ok (.return_, 1) := by decide +kernel
theorem dX7_keepSlip_0 : decode cX7_keepSlip 0 = .ok (.iload_n 1, 1) := by decide +kernel
theorem dX7_keepSlip_1 : decode cX7_keepSlip 1 = .ok (.ifCond .lt 19, 3) := by decide +kernel
theorem dX7_keepSlip_4 : decode cX7_keepSlip 4 = .ok (.iload_n 1, 1) := by decide +kernel
theorem dX7_keepSlip_5 : decode cX7_keepSlip 5 = .ok (.aload_n 0, 1) := by decide +kernel
theorem dX7_keepSlip_6 : decode cX7_keepSlip 6 = .ok (.getfield 41, 3) := by decide +kernel
theorem dX7_keepSlip_9 : decode cX7_keepSlip 9 = .ok (.arraylength, 1) := by decide +kernel
theorem dX7_keepSlip_10 : decode cX7_keepSlip 10 = .ok (.if_icmp .ge 10, 3) := by decide +kernel
theorem dX7_keepSlip_13 : decode cX7_keepSlip 13 = .ok (.aload_n 0, 1) := by decide +kernel
theorem dX7_keepSlip_14 : decode cX7_keepSlip 14 = .ok (.getfield 41, 3) := by decide +kernel
theorem dX7_keepSlip_17 : decode cX7_keepSlip 17 = .ok (.iload_n 1, 1) := by decide +kernel
theorem dX7_keepSlip_18 : decode cX7_keepSlip 18 = .ok (.aload_n 2, 1) := by decide +kernel
theorem dX7_keepSlip_19 : decode cX7_keepSlip 19 = .ok (.aastore, 1) := by decide +kernel
theorem dX7_keepSlip_20 : decode cX7_keepSlip 20 = .ok (.return_, 1) := by decide +kernel
set_option maxRecDepth 20000 in
theorem ggX7_slipPart_X5_part : GoodIn wsX7_slipPart wsX5_part := goodIn_r _ [6, 7, 8, 9, 10, 19, 20, 21, 22] (by decide +kernel) (by decide +kernel)
set_option maxRecDepth 20000 in
theorem gX7_slipPart_X5_part : GoodIn wsX7_slipPart (wsV RX7 53 RX5 yX5_part wsX5_part) := goodIn_app (goodIn_of _ (by decide +kernel)) ggX7_slipPart_X5_part
theorem dX7_slipPart_0 : decode cX7_slipPart 0 = .ok (.iload_n 1, 1) := by decide +kernel
theorem dX7_slipPart_1 : decode cX7_slipPart 1 = .ok (.ifCond .lt 21, 3) := by decide +kernel
theorem dX7_slipPart_4 : decode cX7_slipPart 4 = .ok (.iload_n 1, 1) := by decide +kernel
theorem dX7_slipPart_5 : decode cX7_slipPart 5 = .ok (.aload_n 0, 1) := by decide +kernel
theorem dX7_slipPart_6 : decode cX7_slipPart 6 = .ok (.getfield 41, 3) := by decide +kernel
theorem dX7_slipPart_9 : decode cX7_slipPart 9 = .ok (.arraylength, 1) := by decide +kernel
theorem dX7_slipPart_10 : decode cX7_slipPart 10 = .ok (.if_icmp .ge 12, 3) := by decide +kernel
theorem dX7_slipPart_13 : decode cX7_slipPart 13 = .ok (.aload_n 0, 1) := by decide +kernel
theorem dX7_slipPart_14 : decode cX7_slipPart 14 = .ok (.getfield 41, 3) := by decide +kernel
theorem dX7_slipPart_17 : decode cX7_slipPart 17 = .ok (.iload_n 1, 1) := by decide +kernel
theorem dX7_slipPart_18 : decode cX7_slipPart 18 = .ok (.aaload, 1) := by decide +kernel
theorem dX7_slipPart_19 : decode cX7_slipPart 19 = .ok (.goto 4, 3) := by decide +kernel
theorem dX7_slipPart_22 : decode cX7_slipPart 22 = .ok (.aconst_null, 1) := by decide +kernel
theorem dX7_slipPart_23 : decode cX7_slipPart 23 = .ok (.astore_n 3, 1) := by decide +kernel
theorem dX7_slipPart_24 : decode cX7_slipPart 24 = .ok (.aload_n 3, 1) := by decide +kernel
theorem dX7_slipPart_25 : decode cX7_slipPart 25 = .ok (.ifnonnull 7, 3) := by decide +kernel
theorem dX7_slipPart_28 : decode cX7_slipPart 28 = .ok (.iconst 0, 1) := by decide +kernel
theorem dX7_slipPart_29 : decode cX7_slipPart 29 = .ok (.goto 8, 3) := by decide +kernel
theorem dX7_slipPart_32 : decode cX7_slipPart 32 = .ok (.aload_n 3, 1) := by decide +kernel
theorem dX7_slipPart_33 : decode cX7_slipPart 33 = .ok (.iload_n 2, 1) := by decide +kernel
theorem dX7_slipPart_34 : decode cX7_slipPart 34 = .ok (.invokevirtual 53, 3) := by decide +kernel
theorem dX7_slipPart_37 : decode cX7_slipPart 37 = .ok (.ireturn, 1) := by decide +kernel
set_option maxRecDepth 20000 in
theorem ggX8_init_X1_init : GoodIn wsX8_init wsX1_init := goodIn_r _ [24, 25, 2, 3, 26, 27, 54, 55] (by decide +kernel) (by decide +kernel)
set_option maxRecDepth 20000 in
theorem gX8_init_X1_init_n55 : GoodIn wsX8_init (wsX1_init) := ggX8_init_X1_init
set_option maxRecDepth 20000 in
theorem ggX8_init_X2_init : GoodIn wsX8_init wsX2_init := goodIn_r _ [29, 30, 2, 3, 31, 32, 33, 34, 35, 36, 37, 38, 39, 40, 41, 42, 43, 58, 59, 56, 57] (by decide +kernel) (by decide +kernel)
set_option maxRecDepth 20000 in
theorem gX8_init_X2_init_n56 : GoodIn wsX8_init (wsX2_init) := ggX8_init_X2_init
theorem dX8_init_0 : decode cX8_init 0 = .ok (.aload_n 0, 1) := by decide +kernel
theorem dX8_init_1 : decode cX8_init 1 = .ok (.invokespecial 1, 3) := by decide +kernel
theorem dX8_init_4 : decode cX8_init 4 = .ok (.aload_n 0, 1) := by decide +kernel
theorem dX8_init_5 : decode cX8_init 5 = .ok (.iconst 3, 1) := by decide +kernel
theorem dX8_init_6 : decode cX8_init 6 = .ok (.anewarray 9, 3) := by decide +kernel
theorem dX8_init_9 : decode cX8_init 9 = .ok (.putfield 11, 3) := by decide +kernel
theorem dX8_init_12 : decode cX8_init 12 = .ok (.aload_n 0, 1) := by decide +kernel
theorem dX8_init_13 : decode cX8_init 13 = .ok (.iconst 3, 1) := by decide +kernel
theorem dX8_init_14 : decode cX8_init 14 = .ok (.anewarray 15, 3) := by decide +kernel
theorem dX8_init_17 : decode cX8_init 17 = .ok (.putfield 17, 3) := by decide +kernel
theorem dX8_init_20 : decode cX8_init 20 = .ok (.aload_n 0, 1) := by decide +kernel
theorem dX8_init_21 : decode cX8_init 21 = .ok (.bipush 8, 2) := by decide +kernel
theorem dX8_init_23 : decode cX8_init 23 = .ok (.anewarray 21, 3) := by decide +kernel
theorem dX8_init_26 : decode cX8_init 26 = .ok (.putfield 23, 3) := by decide +kernel
theorem dX8_init_29 : decode cX8_init 29 = .ok (.aload_n 0, 1) := by decide +kernel
theorem dX8_init_30 : decode cX8_init 30 = .ok (.bipush 20, 2) := by decide +kernel
theorem dX8_init_32 : decode cX8_init 32 = .ok (.anewarray 27, 3) := by decide +kernel
theorem dX8_init_35 : decode cX8_init 35 = .ok (.putfield 29, 3) := by decide +kernel
theorem dX8_init_38 : decode cX8_init 38 = .ok (.aload_n 0, 1) := by decide +kernel
theorem dX8_init_39 : decode cX8_init 39 = .ok (.bipush 40, 2) := by decide +kernel
theorem dX8_init_41 : decode cX8_init 41 = .ok (.anewarray 33, 3) := by decide +kernel
theorem dX8_init_44 : decode cX8_init 44 = .ok (.putfield 35, 3) := by decide +kernel
theorem dX8_init_47 : decode cX8_init 47 = .ok (.aload_n 0, 1) := by decide +kernel
theorem dX8_init_48 : decode cX8_init 48 = .ok (.iconst 0, 1) := by decide +kernel
theorem dX8_init_49 : decode cX8_init 49 = .ok (.putfield 39, 3) := by decide +kernel
theorem dX8_init_52 : decode cX8_init 52 = .ok (.aload_n 0, 1) := by decide +kernel
theorem dX8_init_53 : decode cX8_init 53 = .ok (.iconst 0, 1) := by decide +kernel
theorem dX8_init_54 : decode cX8_init 54 = .ok (.putfield 43, 3) := by decide +kernel
theorem dX8_init_57 : decode cX8_init 57 = .ok (.aload_n 0, 1) := by decide +kernel
theorem dX8_init_58 : decode cX8_init 58 = .ok (.iconst 0, 1) := by decide +kernel
theorem dX8_init_59 : decode cX8_init 59 = .ok (.putfield 46, 3) := by decide +kernel
theorem dX8_init_62 : decode cX8_init 62 = .ok (.aload_n 0, 1) := by decide +kernel
theorem dX8_init_63 : decode cX8_init 63 = .ok (.sipush 20000, 3) := by decide +kernel
theorem dX8_init_66 : decode cX8_init 66 = .ok (.putfield 49, 3) := by decide +kernel
theorem dX8_init_69 : decode cX8_init 69 = .ok (.aload_n 0, 1) := by decide +kernel
theorem dX8_init_70 : decode cX8_init 70 = .ok (.iconst 0, 1) := by decide +kernel
theorem dX8_init_71 : decode cX8_init 71 = .ok (.putfield 52, 3) := by decide +kernel
theorem dX8_init_74 : decode cX8_init 74 = .ok (.iconst 0, 1) := by decide +kernel
theorem dX8_init_75 : decode cX8_init 75 = .ok (.istore_n 1, 1) := by decide +kernel
theorem dX8_init_76 : decode cX8_init 76 = .ok (.iload_n 1, 1) := by decide +kernel
theorem dX8_init_77 : decode cX8_init 77 = .ok (.aload_n 0, 1) := by decide +kernel
theorem dX8_init_78 : decode cX8_init 78 = .ok (.getfield 11, 3) := by decide +kernel
theorem dX8_init_81 : decode cX8_init 81 = .ok (.arraylength, 1) := by decide +kernel
theorem dX8_init_82 : decode cX8_init 82 = .ok (.if_icmp .ge 22, 3) := by decide +kernel
theorem dX8_init_85 : decode cX8_init 85 = .ok (.aload_n 0, 1) := by decide +kernel
theorem dX8_init_86 : decode cX8_init 86 = .ok (.getfield 11, 3) := by decide +kernel
theorem dX8_init_89 : decode cX8_init 89 = .ok (.iload_n 1, 1) := by decide +kernel
theorem dX8_init_90 : decode cX8_init 90 = .ok (.new 9, 3) := by decide +kernel
theorem dX8_init_93 : decode cX8_init 93 = .ok (.dup, 1) := by decide +kernel
theorem dX8_init_94 : decode cX8_init 94 = .ok (.invokespecial 55, 3) := by decide +kernel
theorem dX8_init_97 : decode cX8_init 97 = .ok (.aastore, 1) := by decide +kernel
theorem dX8_init_98 : decode cX8_init 98 = .ok (.iinc 1 1, 3) := by decide +kernel
theorem dX8_init_101 : decode cX8_init 101 = .ok (.goto (-25), 3) := by decide +kernel
theorem dX8_init_104 : decode cX8_init 104 = .ok (.iconst 0, 1) := by decide +kernel
theorem dX8_init_105 : decode cX8_init 105 = .ok (.istore_n 1, 1) := by decide +kernel
theorem dX8_init_106 : decode cX8_init 106 = .ok (.iload_n 1, 1) := by decide +kernel
theorem dX8_init_107 : decode cX8_init 107 = .ok (.aload_n 0, 1) := by decide +kernel
theorem dX8_init_108 : decode cX8_init 108 = .ok (.getfield 17, 3) := by decide +kernel
theorem dX8_init_111 : decode cX8_init 111 = .ok (.arraylength, 1) := by decide +kernel
theorem dX8_init_112 : decode cX8_init 112 = .ok (.if_icmp .ge 22, 3) := by decide +kernel
theorem dX8_init_115 : decode cX8_init 115 = .ok (.aload_n 0, 1) := by decide +kernel
theorem dX8_init_116 : decode cX8_init 116 = .ok (.getfield 17, 3) := by decide +kernel
theorem dX8_init_119 : decode cX8_init 119 = .ok (.iload_n 1, 1) := by decide +kernel
theorem dX8_init_120 : decode cX8_init 120 = .ok (.new 15, 3) := by decide +kernel
theorem dX8_init_123 : decode cX8_init 123 = .ok (.dup, 1) := by decide +kernel
theorem dX8_init_124 : decode cX8_init 124 = .ok (.invokespecial 56, 3) := by decide +kernel
theorem dX8_init_127 : decode cX8_init 127 = .ok (.aastore, 1) := by decide +kernel
theorem dX8_init_128 : decode cX8_init 128 = .ok (.iinc 1 1, 3) := by decide +kernel
theorem dX8_init_131 : decode cX8_init 131 = .ok (.goto (-25), 3) := by decide +kernel
theorem dX8_init_134 : decode cX8_init 134 = .ok (.return_, 1) := by decide +kernel
set_option maxRecDepth 20000 in
theorem ggX8_addWorker_X8_potOf : GoodIn wsX8_addWorker wsX8_potOf := goodIn_ca (goodIn_r _ [12, 13, 14, 15, 43, 44, 45, 46, 47, 48, 49, 50, 51, 52] (by decide +kernel) (by decide +kernel)) (goodIn_sub (fun _ h => List.mem_cons_of_mem _ (List.mem_append_right _ h)) (by decide +kernel))
set_option maxRecDepth 20000 in
theorem gX8_addWorker_X8_potOf : GoodIn wsX8_addWorker (wsV RX8 57 RX8 yX8_potOf wsX8_potOf) := goodIn_app (goodIn_of _ (by decide +kernel)) ggX8_addWorker_X8_potOf
set_option maxRecDepth 20000 in
theorem ggX8_addWorker_X7_init : GoodIn wsX8_addWorker wsX7_init := goodIn_r _ [18, 19, 20, 21, 22, 23, 24, 25, 26, 27, 28, 29, 30, 31, 32, 33, 34, 35, 36, 37, 38, 39, 40, 41, 42, 61, 62, 53, 54, 55, 56, 57, 58, 59, 60] (by decide +kernel) (by decide +kernel)
set_option maxRecDepth 20000 in
theorem gX8_addWorker_X7_init : GoodIn wsX8_addWorker (wsX7_init) := ggX8_addWorker_X7_init
theorem dX8_addWorker_0 : decode cX8_addWorker 0 = .ok (.aload_n 0, 1) := by decide +kernel
theorem dX8_addWorker_1 : decode cX8_addWorker 1 = .ok (.iload_n 1, 1) := by decide +kernel
theorem dX8_addWorker_2 : decode cX8_addWorker 2 = .ok (.invokevirtual 57, 3) := by decide +kernel
theorem dX8_addWorker_5 : decode cX8_addWorker 5 = .ok (.astore_n 2, 1) := by decide +kernel
theorem dX8_addWorker_6 : decode cX8_addWorker 6 = .ok (.aload_n 0, 1) := by decide +kernel
theorem dX8_addWorker_7 : decode cX8_addWorker 7 = .ok (.getfield 39, 3) := by decide +kernel
theorem dX8_addWorker_10 : decode cX8_addWorker 10 = .ok (.ifCond .lt 15, 3) := by decide +kernel
theorem dX8_addWorker_13 : decode cX8_addWorker 13 = .ok (.aload_n 0, 1) := by decide +kernel
theorem dX8_addWorker_14 : decode cX8_addWorker 14 = .ok (.getfield 39, 3) := by decide +kernel
theorem dX8_addWorker_17 : decode cX8_addWorker 17 = .ok (.aload_n 0, 1) := by decide +kernel
theorem dX8_addWorker_18 : decode cX8_addWorker 18 = .ok (.getfield 23, 3) := by decide +kernel
theorem dX8_addWorker_21 : decode cX8_addWorker 21 = .ok (.arraylength, 1) := by decide +kernel
theorem dX8_addWorker_22 : decode cX8_addWorker 22 = .ok (.if_icmp .lt 13, 3) := by decide +kernel
theorem dX8_addWorker_25 : decode cX8_addWorker 25 = .ok (.new 61, 3) := by decide +kernel
theorem dX8_addWorker_28 : decode cX8_addWorker 28 = .ok (.dup, 1) := by decide +kernel
theorem dX8_addWorker_29 : decode cX8_addWorker 29 = .ok (.ldc 63, 2) := by decide +kernel
theorem dX8_addWorker_31 : decode cX8_addWorker 31 = .ok (.invokespecial 65, 3) := by decide +kernel
theorem dX8_addWorker_34 : decode cX8_addWorker 34 = .ok (.athrow, 1) := by decide +kernel
theorem dX8_addWorker_35 : decode cX8_addWorker 35 = .ok (.aload_n 0, 1) := by decide +kernel
theorem dX8_addWorker_36 : decode cX8_addWorker 36 = .ok (.getfield 23, 3) := by decide +kernel
theorem dX8_addWorker_39 : decode cX8_addWorker 39 = .ok (.aload_n 0, 1) := by decide +kernel
theorem dX8_addWorker_40 : decode cX8_addWorker 40 = .ok (.getfield 39, 3) := by decide +kernel
theorem dX8_addWorker_43 : decode cX8_addWorker 43 = .ok (.new 21, 3) := by decide +kernel
theorem dX8_addWorker_46 : decode cX8_addWorker 46 = .ok (.dup, 1) := by decide +kernel
theorem dX8_addWorker_47 : decode cX8_addWorker 47 = .ok (.aload_n 2, 1) := by decide +kernel
theorem dX8_addWorker_48 : decode cX8_addWorker 48 = .ok (.invokespecial 68, 3) := by decide +kernel
theorem dX8_addWorker_51 : decode cX8_addWorker 51 = .ok (.aastore, 1) := by decide +kernel
theorem dX8_addWorker_52 : decode cX8_addWorker 52 = .ok (.aload_n 0, 1) := by decide +kernel
theorem dX8_addWorker_53 : decode cX8_addWorker 53 = .ok (.dup, 1) := by decide +kernel
theorem dX8_addWorker_54 : decode cX8_addWorker 54 = .ok (.getfield 39, 3) := by decide +kernel
theorem dX8_addWorker_57 : decode cX8_addWorker 57 = .ok (.dup_x1, 1) := by decide +kernel
theorem dX8_addWorker_58 : decode cX8_addWorker 58 = .ok (.iconst 1, 1) := by decide +kernel
theorem dX8_addWorker_59 : decode cX8_addWorker 59 = .ok (.iadd, 1) := by decide +kernel
theorem dX8_addWorker_60 : decode cX8_addWorker 60 = .ok (.putfield 39, 3) := by decide +kernel
theorem dX8_addWorker_63 : decode cX8_addWorker 63 = .ok (.ireturn, 1) := by decide +kernel
set_option maxRecDepth 20000 in
theorem ggX8_setRank_X8_workerOf : GoodIn wsX8_setRank wsX8_workerOf := goodIn_ca (goodIn_r _ [6, 7, 8, 9, 46, 47, 48, 49, 50, 51, 52, 53, 54, 55] (by decide +kernel) (by decide +kernel)) (goodIn_sub (fun _ h => List.mem_cons_of_mem _ (List.mem_append_left _ (List.mem_append_right _ h))) (by decide +kernel))
set_option maxRecDepth 20000 in
theorem gX8_setRank_X8_workerOf : GoodIn wsX8_setRank (wsV RX8 71 RX8 yX8_workerOf wsX8_workerOf) := goodIn_app (goodIn_of _ (by decide +kernel)) ggX8_setRank_X8_workerOf
set_option maxRecDepth 20000 in
theorem ggX8_setRank_X8_ratesOf : GoodIn wsX8_setRank wsX8_ratesOf := goodIn_ca (goodIn_r _ [13, 7, 8, 14, 15, 16, 5, 17, 18, 46, 47, 48, 49, 50, 51, 52, 53, 54, 55] (by decide +kernel) (by decide +kernel)) (goodIn_sub (fun _ h => List.mem_cons_of_mem _ (List.mem_append_left _ (List.mem_append_right _ h))) (by decide +kernel))
set_option maxRecDepth 20000 in
theorem gX8_setRank_X8_ratesOf : GoodIn wsX8_setRank (wsV RX8 75 RX8 yX8_ratesOf wsX8_ratesOf) := goodIn_app (goodIn_of _ (by decide +kernel)) ggX8_setRank_X8_ratesOf
set_option maxRecDepth 20000 in
theorem ggX8_setRank_X8_checkWeek : GoodIn wsX8_setRank wsX8_checkWeek := goodIn_ca (goodIn_r _ [21, 22, 23, 5, 24, 25, 26] (by decide +kernel) (by decide +kernel)) (goodIn_sub (fun _ h => List.mem_cons_of_mem _ (List.mem_append_right _ h)) (by decide +kernel))
set_option maxRecDepth 20000 in
theorem gX8_setRank_X8_checkWeek : GoodIn wsX8_setRank (va_wsS RX8 79 yX8_checkWeek wsX8_checkWeek) := goodIn_app (goodIn_of _ (by decide +kernel)) ggX8_setRank_X8_checkWeek
set_option maxRecDepth 20000 in
theorem ggX8_setRank_X3_inWeek : GoodIn wsX8_setRank wsX3_inWeek := goodIn_r _ [31, 32, 56, 57] (by decide +kernel) (by decide +kernel)
set_option maxRecDepth 20000 in
theorem gX8_setRank_X3_inWeek : GoodIn wsX8_setRank (wsV RX8 87 RX3 yX3_inWeek wsX3_inWeek) := goodIn_app (goodIn_of _ (by decide +kernel)) ggX8_setRank_X3_inWeek
set_option maxRecDepth 20000 in
theorem ggX8_setRank_X3_tell : GoodIn wsX8_setRank wsX3_tell := goodIn_r _ [36, 32, 37, 56, 57] (by decide +kernel) (by decide +kernel)
set_option maxRecDepth 20000 in
theorem gX8_setRank_X3_tell : GoodIn wsX8_setRank (wsV RX8 93 RX3 yX3_tell wsX3_tell) := goodIn_app (goodIn_of _ (by decide +kernel)) ggX8_setRank_X3_tell
theorem dX8_setRank_0 : decode cX8_setRank 0 = .ok (.aload_n 0, 1) := by decide +kernel
theorem dX8_setRank_1 : decode cX8_setRank 1 = .ok (.iload_n 1, 1) := by decide +kernel
theorem dX8_setRank_2 : decode cX8_setRank 2 = .ok (.invokevirtual 71, 3) := by decide +kernel
theorem dX8_setRank_5 : decode cX8_setRank 5 = .ok (.astore 4, 2) := by decide +kernel
theorem dX8_setRank_7 : decode cX8_setRank 7 = .ok (.aload_n 0, 1) := by decide +kernel
theorem dX8_setRank_8 : decode cX8_setRank 8 = .ok (.iload_n 3, 1) := by decide +kernel
theorem dX8_setRank_9 : decode cX8_setRank 9 = .ok (.invokevirtual 75, 3) := by decide +kernel
theorem dX8_setRank_12 : decode cX8_setRank 12 = .ok (.pop, 1) := by decide +kernel
theorem dX8_setRank_13 : decode cX8_setRank 13 = .ok (.iload_n 2, 1) := by decide +kernel
theorem dX8_setRank_14 : decode cX8_setRank 14 = .ok (.invokestatic 79, 3) := by decide +kernel
theorem dX8_setRank_17 : decode cX8_setRank 17 = .ok (.aload 4, 2) := by decide +kernel
theorem dX8_setRank_19 : decode cX8_setRank 19 = .ok (.getfield 83, 3) := by decide +kernel
theorem dX8_setRank_22 : decode cX8_setRank 22 = .ok (.iload_n 2, 1) := by decide +kernel
theorem dX8_setRank_23 : decode cX8_setRank 23 = .ok (.invokevirtual 87, 3) := by decide +kernel
theorem dX8_setRank_26 : decode cX8_setRank 26 = .ok (.istore 5, 2) := by decide +kernel
theorem dX8_setRank_28 : decode cX8_setRank 28 = .ok (.aload 4, 2) := by decide +kernel
theorem dX8_setRank_30 : decode cX8_setRank 30 = .ok (.getfield 83, 3) := by decide +kernel
theorem dX8_setRank_33 : decode cX8_setRank 33 = .ok (.iload_n 2, 1) := by decide +kernel
theorem dX8_setRank_34 : decode cX8_setRank 34 = .ok (.iload_n 3, 1) := by decide +kernel
theorem dX8_setRank_35 : decode cX8_setRank 35 = .ok (.invokevirtual 93, 3) := by decide +kernel
theorem dX8_setRank_38 : decode cX8_setRank 38 = .ok (.iload 5, 2) := by decide +kernel
theorem dX8_setRank_40 : decode cX8_setRank 40 = .ok (.ireturn, 1) := by decide +kernel
set_option maxRecDepth 20000 in
theorem ggX8_setRates_X8_ratesOf : GoodIn wsX8_setRates wsX8_ratesOf := goodIn_ca (goodIn_r _ [7, 8, 9, 10, 11, 12, 6, 13, 14, 36, 37, 38, 39, 40, 41, 42, 43, 44, 45] (by decide +kernel) (by decide +kernel)) (goodIn_sub (fun _ h => List.mem_cons_of_mem _ (List.mem_append_left _ (List.mem_append_right _ h))) (by decide +kernel))
set_option maxRecDepth 20000 in
theorem gX8_setRates_X8_ratesOf : GoodIn wsX8_setRates (wsV RX8 75 RX8 yX8_ratesOf wsX8_ratesOf) := goodIn_app (goodIn_of _ (by decide +kernel)) ggX8_setRates_X8_ratesOf
set_option maxRecDepth 20000 in
theorem ggX8_setRates_X8_checkWeek : GoodIn wsX8_setRates wsX8_checkWeek := goodIn_ca (goodIn_r _ [17, 18, 19, 6, 20, 21, 22] (by decide +kernel) (by decide +kernel)) (goodIn_sub (fun _ h => List.mem_cons_of_mem _ (List.mem_append_right _ h)) (by decide +kernel))
set_option maxRecDepth 20000 in
theorem gX8_setRates_X8_checkWeek : GoodIn wsX8_setRates (va_wsS RX8 79 yX8_checkWeek wsX8_checkWeek) := goodIn_app (goodIn_of _ (by decide +kernel)) ggX8_setRates_X8_checkWeek
set_option maxRecDepth 20000 in
theorem ggX8_setRates_X8_checkRange : GoodIn wsX8_setRates wsX8_checkRange := goodIn_ca (goodIn_r _ [20, 21, 22] (by decide +kernel) (by decide +kernel)) (goodIn_sub (fun _ h => List.mem_cons_of_mem _ (List.mem_append_right _ h)) (by decide +kernel))
set_option maxRecDepth 20000 in
theorem gX8_setRates_X8_checkRange : GoodIn wsX8_setRates (va_wsS RX8 97 yX8_checkRange wsX8_checkRange) := goodIn_app (goodIn_of _ (by decide +kernel)) ggX8_setRates_X8_checkRange
set_option maxRecDepth 20000 in
theorem ggX8_setRates_X3_inWeek : GoodIn wsX8_setRates wsX3_inWeek := goodIn_r _ [27, 28, 46, 47] (by decide +kernel) (by decide +kernel)
set_option maxRecDepth 20000 in
theorem gX8_setRates_X3_inWeek : GoodIn wsX8_setRates (wsV RX8 87 RX3 yX3_inWeek wsX3_inWeek) := goodIn_app (goodIn_of _ (by decide +kernel)) ggX8_setRates_X3_inWeek
set_option maxRecDepth 20000 in
theorem ggX8_setRates_X3_tell : GoodIn wsX8_setRates wsX3_tell := goodIn_r _ [32, 28, 33, 46, 47] (by decide +kernel) (by decide +kernel)
set_option maxRecDepth 20000 in
theorem gX8_setRates_X3_tell : GoodIn wsX8_setRates (wsV RX8 93 RX3 yX3_tell wsX3_tell) := goodIn_app (goodIn_of _ (by decide +kernel)) ggX8_setRates_X3_tell
theorem dX8_setRates_0 : decode cX8_setRates 0 = .ok (.aload_n 0, 1) := by decide +kernel
theorem dX8_setRates_1 : decode cX8_setRates 1 = .ok (.iload_n 1, 1) := by decide +kernel
theorem dX8_setRates_2 : decode cX8_setRates 2 = .ok (.invokevirtual 75, 3) := by decide +kernel
theorem dX8_setRates_5 : decode cX8_setRates 5 = .ok (.astore 5, 2) := by decide +kernel
theorem dX8_setRates_7 : decode cX8_setRates 7 = .ok (.iload_n 2, 1) := by decide +kernel
theorem dX8_setRates_8 : decode cX8_setRates 8 = .ok (.invokestatic 79, 3) := by decide +kernel
theorem dX8_setRates_11 : decode cX8_setRates 11 = .ok (.iload_n 3, 1) := by decide +kernel
theorem dX8_setRates_12 : decode cX8_setRates 12 = .ok (.iconst 0, 1) := by decide +kernel
theorem dX8_setRates_13 : decode cX8_setRates 13 = .ok (.sipush 10000, 3) := by decide +kernel
theorem dX8_setRates_16 : decode cX8_setRates 16 = .ok (.invokestatic 97, 3) := by decide +kernel
theorem dX8_setRates_19 : decode cX8_setRates 19 = .ok (.iload 4, 2) := by decide +kernel
theorem dX8_setRates_21 : decode cX8_setRates 21 = .ok (.iconst 0, 1) := by decide +kernel
theorem dX8_setRates_22 : decode cX8_setRates 22 = .ok (.sipush 10000, 3) := by decide +kernel
theorem dX8_setRates_25 : decode cX8_setRates 25 = .ok (.invokestatic 97, 3) := by decide +kernel
theorem dX8_setRates_28 : decode cX8_setRates 28 = .ok (.aload 5, 2) := by decide +kernel
theorem dX8_setRates_30 : decode cX8_setRates 30 = .ok (.getfield 101, 3) := by decide +kernel
theorem dX8_setRates_33 : decode cX8_setRates 33 = .ok (.iload_n 2, 1) := by decide +kernel
theorem dX8_setRates_34 : decode cX8_setRates 34 = .ok (.invokevirtual 87, 3) := by decide +kernel
theorem dX8_setRates_37 : decode cX8_setRates 37 = .ok (.istore 6, 2) := by decide +kernel
theorem dX8_setRates_39 : decode cX8_setRates 39 = .ok (.aload 5, 2) := by decide +kernel
theorem dX8_setRates_41 : decode cX8_setRates 41 = .ok (.getfield 101, 3) := by decide +kernel
theorem dX8_setRates_44 : decode cX8_setRates 44 = .ok (.iload_n 2, 1) := by decide +kernel
theorem dX8_setRates_45 : decode cX8_setRates 45 = .ok (.iload_n 3, 1) := by decide +kernel
theorem dX8_setRates_46 : decode cX8_setRates 46 = .ok (.invokevirtual 93, 3) := by decide +kernel
theorem dX8_setRates_49 : decode cX8_setRates 49 = .ok (.aload 5, 2) := by decide +kernel
theorem dX8_setRates_51 : decode cX8_setRates 51 = .ok (.getfield 104, 3) := by decide +kernel
theorem dX8_setRates_54 : decode cX8_setRates 54 = .ok (.iload_n 2, 1) := by decide +kernel
theorem dX8_setRates_55 : decode cX8_setRates 55 = .ok (.iload 4, 2) := by decide +kernel
theorem dX8_setRates_57 : decode cX8_setRates 57 = .ok (.invokevirtual 93, 3) := by decide +kernel
theorem dX8_setRates_60 : decode cX8_setRates 60 = .ok (.iload 6, 2) := by decide +kernel
theorem dX8_setRates_62 : decode cX8_setRates 62 = .ok (.ireturn, 1) := by decide +kernel
set_option maxRecDepth 20000 in
theorem ggX8_come_X8_workerOf : GoodIn wsX8_come wsX8_workerOf := goodIn_ca (goodIn_r _ [9, 10, 11, 12, 56, 57, 58, 59, 60, 61, 62, 63, 64, 65] (by decide +kernel) (by decide +kernel)) (goodIn_sub (fun _ h => List.mem_cons_of_mem _ (List.mem_append_left _ (List.mem_append_right _ h))) (by decide +kernel))
set_option maxRecDepth 20000 in
theorem gX8_come_X8_workerOf : GoodIn wsX8_come (wsV RX8 71 RX8 yX8_workerOf wsX8_workerOf) := goodIn_app (goodIn_of _ (by decide +kernel)) ggX8_come_X8_workerOf
set_option maxRecDepth 20000 in
theorem ggX8_come_X8_checkRange : GoodIn wsX8_come wsX8_checkRange := goodIn_ca (goodIn_r _ [15, 16, 17] (by decide +kernel) (by decide +kernel)) (goodIn_sub (fun _ h => List.mem_cons_of_mem _ (List.mem_append_right _ h)) (by decide +kernel))
set_option maxRecDepth 20000 in
theorem gX8_come_X8_checkRange : GoodIn wsX8_come (va_wsS RX8 97 yX8_checkRange wsX8_checkRange) := goodIn_app (goodIn_of _ (by decide +kernel)) ggX8_come_X8_checkRange
set_option maxRecDepth 20000 in
theorem ggX8_come_X8_checkWeek : GoodIn wsX8_come wsX8_checkWeek := goodIn_ca (goodIn_r _ [20, 13, 14, 8, 15, 16, 17] (by decide +kernel) (by decide +kernel)) (goodIn_sub (fun _ h => List.mem_cons_of_mem _ (List.mem_append_right _ h)) (by decide +kernel))
set_option maxRecDepth 20000 in
theorem gX8_come_X8_checkWeek : GoodIn wsX8_come (va_wsS RX8 79 yX8_checkWeek wsX8_checkWeek) := goodIn_app (goodIn_of _ (by decide +kernel)) ggX8_come_X8_checkWeek
set_option maxRecDepth 20000 in
theorem ggX8_come_X8_checkHours : GoodIn wsX8_come wsX8_checkHours := goodIn_ca (goodIn_r _ [23, 13, 14, 8, 15, 16, 17] (by decide +kernel) (by decide +kernel)) (goodIn_sub (fun _ h => List.mem_cons_of_mem _ (List.mem_append_right _ h)) (by decide +kernel))
set_option maxRecDepth 20000 in
theorem gX8_come_X8_checkHours : GoodIn wsX8_come (va_wsS RX8 107 yX8_checkHours wsX8_checkHours) := goodIn_app (goodIn_of _ (by decide +kernel)) ggX8_come_X8_checkHours
set_option maxRecDepth 20000 in
theorem ggX8_come_X7_sheet : GoodIn wsX8_come wsX7_sheet := goodIn_r _ [28, 29, 48, 49, 50, 51, 52, 53, 54, 55] (by decide +kernel) (by decide +kernel)
set_option maxRecDepth 20000 in
theorem gX8_come_X7_sheet : GoodIn wsX8_come (wsV RX8 110 RX7 yX7_sheet wsX7_sheet) := goodIn_app (goodIn_of _ (by decide +kernel)) ggX8_come_X7_sheet
set_option maxRecDepth 20000 in
theorem ggX8_come_X4_init : GoodIn wsX8_come wsX4_init := goodIn_r _ [32, 33, 34, 35, 36, 37, 38, 45, 46, 47] (by decide +kernel) (by decide +kernel)
set_option maxRecDepth 20000 in
theorem gX8_come_X4_init : GoodIn wsX8_come (wsX4_init) := ggX8_come_X4_init
set_option maxRecDepth 20000 in
theorem ggX8_come_X7_take : GoodIn wsX8_come wsX7_take := goodIn_r _ [42, 29, 43, 44, 25, 26, 27, 28, 48, 49, 50, 51, 52, 53, 54, 55] (by decide +kernel) (by decide +kernel)
set_option maxRecDepth 20000 in
theorem gX8_come_X7_take : GoodIn wsX8_come (wsV RX8 118 RX7 yX7_take wsX7_take) := goodIn_app (goodIn_of _ (by decide +kernel)) ggX8_come_X7_take
theorem dX8_come_0 : decode cX8_come 0 = .ok (.aload_n 0, 1) := by decide +kernel
theorem dX8_come_1 : decode cX8_come 1 = .ok (.iload_n 1, 1) := by decide +kernel
theorem dX8_come_2 : decode cX8_come 2 = .ok (.invokevirtual 71, 3) := by decide +kernel
theorem dX8_come_5 : decode cX8_come 5 = .ok (.astore 6, 2) := by decide +kernel
theorem dX8_come_7 : decode cX8_come 7 = .ok (.iload_n 2, 1) := by decide +kernel
theorem dX8_come_8 : decode cX8_come 8 = .ok (.iconst 0, 1) := by decide +kernel
theorem dX8_come_9 : decode cX8_come 9 = .ok (.bipush 19, 2) := by decide +kernel
theorem dX8_come_11 : decode cX8_come 11 = .ok (.invokestatic 97, 3) := by decide +kernel
theorem dX8_come_14 : decode cX8_come 14 = .ok (.iload_n 3, 1) := by decide +kernel
theorem dX8_come_15 : decode cX8_come 15 = .ok (.invokestatic 79, 3) := by decide +kernel
theorem dX8_come_18 : decode cX8_come 18 = .ok (.iload 4, 2) := by decide +kernel
theorem dX8_come_20 : decode cX8_come 20 = .ok (.iload 5, 2) := by decide +kernel
theorem dX8_come_22 : decode cX8_come 22 = .ok (.invokestatic 107, 3) := by decide +kernel
theorem dX8_come_25 : decode cX8_come 25 = .ok (.aload 6, 2) := by decide +kernel
theorem dX8_come_27 : decode cX8_come 27 = .ok (.iload_n 2, 1) := by decide +kernel
theorem dX8_come_28 : decode cX8_come 28 = .ok (.invokevirtual 110, 3) := by decide +kernel
theorem dX8_come_31 : decode cX8_come 31 = .ok (.ifnonnull 21, 3) := by decide +kernel
theorem dX8_come_34 : decode cX8_come 34 = .ok (.aload 6, 2) := by decide +kernel
theorem dX8_come_36 : decode cX8_come 36 = .ok (.iload_n 2, 1) := by decide +kernel
theorem dX8_come_37 : decode cX8_come 37 = .ok (.new 114, 3) := by decide +kernel
theorem dX8_come_40 : decode cX8_come 40 = .ok (.dup, 1) := by decide +kernel
theorem dX8_come_41 : decode cX8_come 41 = .ok (.iload_n 3, 1) := by decide +kernel
theorem dX8_come_42 : decode cX8_come 42 = .ok (.iload 4, 2) := by decide +kernel
theorem dX8_come_44 : decode cX8_come 44 = .ok (.iload 5, 2) := by decide +kernel
theorem dX8_come_46 : decode cX8_come 46 = .ok (.invokespecial 116, 3) := by decide +kernel
theorem dX8_come_49 : decode cX8_come 49 = .ok (.invokevirtual 118, 3) := by decide +kernel
theorem dX8_come_52 : decode cX8_come 52 = .ok (.aload 6, 2) := by decide +kernel
theorem dX8_come_54 : decode cX8_come 54 = .ok (.getfield 122, 3) := by decide +kernel
theorem dX8_come_57 : decode cX8_come 57 = .ok (.ireturn, 1) := by decide +kernel
set_option maxRecDepth 20000 in
theorem ggX8_correct_X8_workerOf : GoodIn wsX8_correct wsX8_workerOf := goodIn_ca (goodIn_r _ [9, 1, 2, 10, 28, 29, 30, 31, 32, 33, 34, 35, 36, 37] (by decide +kernel) (by decide +kernel)) (goodIn_sub (fun _ h => List.mem_cons_of_mem _ (List.mem_append_left _ (List.mem_append_right _ h))) (by decide +kernel))
set_option maxRecDepth 20000 in
theorem gX8_correct_X8_workerOf : GoodIn wsX8_correct (wsV RX8 71 RX8 yX8_workerOf wsX8_workerOf) := goodIn_app (goodIn_of _ (by decide +kernel)) ggX8_correct_X8_workerOf
set_option maxRecDepth 20000 in
theorem ggX8_correct_X7_sheet : GoodIn wsX8_correct wsX7_sheet := goodIn_r _ [15, 16, 38, 39, 40, 41, 42, 43, 44, 45] (by decide +kernel) (by decide +kernel)
set_option maxRecDepth 20000 in
theorem gX8_correct_X7_sheet : GoodIn wsX8_correct (wsV RX8 110 RX7 yX7_sheet wsX7_sheet) := goodIn_app (goodIn_of _ (by decide +kernel)) ggX8_correct_X7_sheet
set_option maxRecDepth 20000 in
theorem ggX8_correct_X8_checkHours : GoodIn wsX8_correct wsX8_checkHours := goodIn_ca (goodIn_r _ [19, 20, 21, 8, 22, 23, 24] (by decide +kernel) (by decide +kernel)) (goodIn_sub (fun _ h => List.mem_cons_of_mem _ (List.mem_append_right _ h)) (by decide +kernel))
set_option maxRecDepth 20000 in
theorem gX8_correct_X8_checkHours : GoodIn wsX8_correct (va_wsS RX8 107 yX8_checkHours wsX8_checkHours) := goodIn_app (goodIn_of _ (by decide +kernel)) ggX8_correct_X8_checkHours
theorem dX8_correct_0 : decode cX8_correct 0 = .ok (.aload_n 0, 1) := by decide +kernel
theorem dX8_correct_1 : decode cX8_correct 1 = .ok (.iload_n 1, 1) := by decide +kernel
theorem dX8_correct_2 : decode cX8_correct 2 = .ok (.invokevirtual 71, 3) := by decide +kernel
theorem dX8_correct_5 : decode cX8_correct 5 = .ok (.iload_n 2, 1) := by decide +kernel
theorem dX8_correct_6 : decode cX8_correct 6 = .ok (.invokevirtual 110, 3) := by decide +kernel
theorem dX8_correct_9 : decode cX8_correct 9 = .ok (.astore 5, 2) := by decide +kernel
theorem dX8_correct_11 : decode cX8_correct 11 = .ok (.aload 5, 2) := by decide +kernel
theorem dX8_correct_13 : decode cX8_correct 13 = .ok (.ifnonnull 13, 3) := by decide +kernel
theorem dX8_correct_16 : decode cX8_correct 16 = .ok (.new 125, 3) := by decide +kernel
theorem dX8_correct_19 : decode cX8_correct 19 = .ok (.dup, 1) := by decide +kernel
theorem dX8_correct_20 : decode cX8_correct 20 = .ok (.ldc 127, 2) := by decide +kernel
theorem dX8_correct_22 : decode cX8_correct 22 = .ok (.invokespecial 129, 3) := by decide +kernel
theorem dX8_correct_25 : decode cX8_correct 25 = .ok (.athrow, 1) := by decide +kernel
theorem dX8_correct_26 : decode cX8_correct 26 = .ok (.iload_n 3, 1) := by decide +kernel
theorem dX8_correct_27 : decode cX8_correct 27 = .ok (.iload 4, 2) := by decide +kernel
theorem dX8_correct_29 : decode cX8_correct 29 = .ok (.invokestatic 107, 3) := by decide +kernel
theorem dX8_correct_32 : decode cX8_correct 32 = .ok (.aload 5, 2) := by decide +kernel
theorem dX8_correct_34 : decode cX8_correct 34 = .ok (.getfield 130, 3) := by decide +kernel
theorem dX8_correct_37 : decode cX8_correct 37 = .ok (.aload 5, 2) := by decide +kernel
theorem dX8_correct_39 : decode cX8_correct 39 = .ok (.getfield 132, 3) := by decide +kernel
theorem dX8_correct_42 : decode cX8_correct 42 = .ok (.iadd, 1) := by decide +kernel
theorem dX8_correct_43 : decode cX8_correct 43 = .ok (.istore 6, 2) := by decide +kernel
theorem dX8_correct_45 : decode cX8_correct 45 = .ok (.aload 5, 2) := by decide +kernel
theorem dX8_correct_47 : decode cX8_correct 47 = .ok (.iload_n 3, 1) := by decide +kernel
theorem dX8_correct_48 : decode cX8_correct 48 = .ok (.putfield 130, 3) := by decide +kernel
theorem dX8_correct_51 : decode cX8_correct 51 = .ok (.aload 5, 2) := by decide +kernel
theorem dX8_correct_53 : decode cX8_correct 53 = .ok (.iload 4, 2) := by decide +kernel
theorem dX8_correct_55 : decode cX8_correct 55 = .ok (.putfield 132, 3) := by decide +kernel
theorem dX8_correct_58 : decode cX8_correct 58 = .ok (.iload 6, 2) := by decide +kernel
theorem dX8_correct_60 : decode cX8_correct 60 = .ok (.ireturn, 1) := by decide +kernel
set_option maxRecDepth 20000 in
theorem ggX8_acknowledged_X8_workerOf : GoodIn wsX8_acknowledged wsX8_workerOf := goodIn_ca (goodIn_r _ [6, 7, 8, 9, 18, 19, 20, 21, 22, 23, 24, 25, 26, 27] (by decide +kernel) (by decide +kernel)) (goodIn_sub (fun _ h => List.mem_cons_of_mem _ (List.mem_append_right _ h)) (by decide +kernel))
set_option maxRecDepth 20000 in
theorem gX8_acknowledged_X8_workerOf : GoodIn wsX8_acknowledged (wsV RX8 71 RX8 yX8_workerOf wsX8_workerOf) := goodIn_app (goodIn_of _ (by decide +kernel)) ggX8_acknowledged_X8_workerOf
theorem dX8_acknowledged_0 : decode cX8_acknowledged 0 = .ok (.aload_n 0, 1) := by decide +kernel
theorem dX8_acknowledged_1 : decode cX8_acknowledged 1 = .ok (.iload_n 1, 1) := by decide +kernel
theorem dX8_acknowledged_2 : decode cX8_acknowledged 2 = .ok (.invokevirtual 71, 3) := by decide +kernel
theorem dX8_acknowledged_5 : decode cX8_acknowledged 5 = .ok (.getfield 122, 3) := by decide +kernel
theorem dX8_acknowledged_8 : decode cX8_acknowledged 8 = .ok (.ireturn, 1) := by decide +kernel
set_option maxRecDepth 20000 in
theorem ggX8_due_X8_workerOf : GoodIn wsX8_due wsX8_workerOf := goodIn_ca (goodIn_r _ [5, 6, 7, 8, 48, 49, 50, 51, 52, 53, 54, 55, 56, 57] (by decide +kernel) (by decide +kernel)) (goodIn_sub (fun _ h => List.mem_cons_of_mem _ (List.mem_append_left _ (List.mem_append_right _ h))) (by decide +kernel))
set_option maxRecDepth 20000 in
theorem gX8_due_X8_workerOf : GoodIn wsX8_due (wsV RX8 71 RX8 yX8_workerOf wsX8_workerOf) := goodIn_app (goodIn_of _ (by decide +kernel)) ggX8_due_X8_workerOf
set_option maxRecDepth 20000 in
theorem ggX8_due_X8_checkWeek : GoodIn wsX8_due wsX8_checkWeek := goodIn_ca (goodIn_r _ [11, 12, 13, 4, 14, 15, 16] (by decide +kernel) (by decide +kernel)) (goodIn_sub (fun _ h => List.mem_cons_of_mem _ (List.mem_append_right _ h)) (by decide +kernel))
set_option maxRecDepth 20000 in
theorem gX8_due_X8_checkWeek : GoodIn wsX8_due (va_wsS RX8 79 yX8_checkWeek wsX8_checkWeek) := goodIn_app (goodIn_of _ (by decide +kernel)) ggX8_due_X8_checkWeek
set_option maxRecDepth 20000 in
theorem ggX8_due_X8_dueBetween : GoodIn wsX8_due wsX8_dueBetween := goodIn_r _ [20, 21, 22, 23, 24, 25, 26, 27, 28, 29, 30, 31, 32, 33, 34, 35, 36, 37, 38, 4, 39, 40, 41, 42, 43, 44, 45, 46, 47, 58, 59, 60, 61, 62, 63, 64, 65, 66, 67, 68, 69, 70, 48, 49, 50, 51, 52, 53, 54, 55, 56, 57, 71, 72] (by decide +kernel) (by decide +kernel)
set_option maxRecDepth 20000 in
theorem gX8_due_X8_dueBetween : GoodIn wsX8_due (wsV RX8 134 RX8 yX8_dueBetween wsX8_dueBetween) := goodIn_app (goodIn_of _ (by decide +kernel)) ggX8_due_X8_dueBetween
theorem dX8_due_0 : decode cX8_due 0 = .ok (.aload_n 0, 1) := by decide +kernel
theorem dX8_due_1 : decode cX8_due 1 = .ok (.iload_n 1, 1) := by decide +kernel
theorem dX8_due_2 : decode cX8_due 2 = .ok (.invokevirtual 71, 3) := by decide +kernel
theorem dX8_due_5 : decode cX8_due 5 = .ok (.astore_n 3, 1) := by decide +kernel
theorem dX8_due_6 : decode cX8_due 6 = .ok (.iload_n 2, 1) := by decide +kernel
theorem dX8_due_7 : decode cX8_due 7 = .ok (.invokestatic 79, 3) := by decide +kernel
theorem dX8_due_10 : decode cX8_due 10 = .ok (.aload_n 0, 1) := by decide +kernel
theorem dX8_due_11 : decode cX8_due 11 = .ok (.aload_n 3, 1) := by decide +kernel
theorem dX8_due_12 : decode cX8_due 12 = .ok (.iload_n 2, 1) := by decide +kernel
theorem dX8_due_13 : decode cX8_due 13 = .ok (.iload_n 2, 1) := by decide +kernel
theorem dX8_due_14 : decode cX8_due 14 = .ok (.invokevirtual 134, 3) := by decide +kernel
theorem dX8_due_17 : decode cX8_due 17 = .ok (.ireturn, 1) := by decide +kernel
set_option maxRecDepth 20000 in
theorem ggX8_order_X8_workerOf : GoodIn wsX8_order wsX8_workerOf := goodIn_ca (goodIn_r _ [14, 15, 16, 17, 33, 34, 35, 36, 37, 38, 39, 40, 41, 42] (by decide +kernel) (by decide +kernel)) (goodIn_sub (fun _ h => List.mem_cons_of_mem _ (List.mem_append_left _ (List.mem_append_right _ h))) (by decide +kernel))
set_option maxRecDepth 20000 in
theorem gX8_order_X8_workerOf : GoodIn wsX8_order (wsV RX8 71 RX8 yX8_workerOf wsX8_workerOf) := goodIn_app (goodIn_of _ (by decide +kernel)) ggX8_order_X8_workerOf
set_option maxRecDepth 20000 in
theorem ggX8_order_X8_checkRange : GoodIn wsX8_order wsX8_checkRange := goodIn_ca (goodIn_r _ [20, 21, 22] (by decide +kernel) (by decide +kernel)) (goodIn_sub (fun _ h => List.mem_cons_of_mem _ (List.mem_append_right _ h)) (by decide +kernel))
set_option maxRecDepth 20000 in
theorem gX8_order_X8_checkRange : GoodIn wsX8_order (va_wsS RX8 97 yX8_checkRange wsX8_checkRange) := goodIn_app (goodIn_of _ (by decide +kernel)) ggX8_order_X8_checkRange
set_option maxRecDepth 20000 in
theorem ggX8_order_X0_init : GoodIn wsX8_order wsX0_init := goodIn_r _ [25, 26, 27, 28, 29, 30, 31, 32, 43, 44, 45, 46] (by decide +kernel) (by decide +kernel)
set_option maxRecDepth 20000 in
theorem gX8_order_X0_init : GoodIn wsX8_order (wsX0_init) := ggX8_order_X0_init
theorem dX8_order_0 : decode cX8_order 0 = .ok (.aload_n 0, 1) := by decide +kernel
theorem dX8_order_1 : decode cX8_order 1 = .ok (.iload_n 1, 1) := by decide +kernel
theorem dX8_order_2 : decode cX8_order 2 = .ok (.invokevirtual 71, 3) := by decide +kernel
theorem dX8_order_5 : decode cX8_order 5 = .ok (.astore 5, 2) := by decide +kernel
theorem dX8_order_7 : decode cX8_order 7 = .ok (.iload_n 2, 1) := by decide +kernel
theorem dX8_order_8 : decode cX8_order 8 = .ok (.iconst 0, 1) := by decide +kernel
theorem dX8_order_9 : decode cX8_order 9 = .ok (.iconst 2, 1) := by decide +kernel
theorem dX8_order_10 : decode cX8_order 10 = .ok (.invokestatic 97, 3) := by decide +kernel
theorem dX8_order_13 : decode cX8_order 13 = .ok (.iload_n 3, 1) := by decide +kernel
theorem dX8_order_14 : decode cX8_order 14 = .ok (.iconst 1, 1) := by decide +kernel
theorem dX8_order_15 : decode cX8_order 15 = .ok (.ldc 138, 2) := by decide +kernel
theorem dX8_order_17 : decode cX8_order 17 = .ok (.invokestatic 97, 3) := by decide +kernel
theorem dX8_order_20 : decode cX8_order 20 = .ok (.iload 4, 2) := by decide +kernel
theorem dX8_order_22 : decode cX8_order 22 = .ok (.iconst 1, 1) := by decide +kernel
theorem dX8_order_23 : decode cX8_order 23 = .ok (.ldc 139, 2) := by decide +kernel
theorem dX8_order_25 : decode cX8_order 25 = .ok (.invokestatic 97, 3) := by decide +kernel
theorem dX8_order_28 : decode cX8_order 28 = .ok (.aload_n 0, 1) := by decide +kernel
theorem dX8_order_29 : decode cX8_order 29 = .ok (.getfield 43, 3) := by decide +kernel
theorem dX8_order_32 : decode cX8_order 32 = .ok (.ifCond .lt 15, 3) := by decide +kernel
theorem dX8_order_35 : decode cX8_order 35 = .ok (.aload_n 0, 1) := by decide +kernel
theorem dX8_order_36 : decode cX8_order 36 = .ok (.getfield 43, 3) := by decide +kernel
theorem dX8_order_39 : decode cX8_order 39 = .ok (.aload_n 0, 1) := by decide +kernel
theorem dX8_order_40 : decode cX8_order 40 = .ok (.getfield 29, 3) := by decide +kernel
theorem dX8_order_43 : decode cX8_order 43 = .ok (.arraylength, 1) := by decide +kernel
theorem dX8_order_44 : decode cX8_order 44 = .ok (.if_icmp .lt 13, 3) := by decide +kernel
theorem dX8_order_47 : decode cX8_order 47 = .ok (.new 61, 3) := by decide +kernel
theorem dX8_order_50 : decode cX8_order 50 = .ok (.dup, 1) := by decide +kernel
theorem dX8_order_51 : decode cX8_order 51 = .ok (.ldc 140, 2) := by decide +kernel
theorem dX8_order_53 : decode cX8_order 53 = .ok (.invokespecial 65, 3) := by decide +kernel
theorem dX8_order_56 : decode cX8_order 56 = .ok (.athrow, 1) := by decide +kernel
theorem dX8_order_57 : decode cX8_order 57 = .ok (.aload_n 0, 1) := by decide +kernel
theorem dX8_order_58 : decode cX8_order 58 = .ok (.getfield 29, 3) := by decide +kernel
theorem dX8_order_61 : decode cX8_order 61 = .ok (.aload_n 0, 1) := by decide +kernel
theorem dX8_order_62 : decode cX8_order 62 = .ok (.getfield 43, 3) := by decide +kernel
theorem dX8_order_65 : decode cX8_order 65 = .ok (.new 27, 3) := by decide +kernel
theorem dX8_order_68 : decode cX8_order 68 = .ok (.dup, 1) := by decide +kernel
theorem dX8_order_69 : decode cX8_order 69 = .ok (.aload 5, 2) := by decide +kernel
theorem dX8_order_71 : decode cX8_order 71 = .ok (.iload_n 2, 1) := by decide +kernel
theorem dX8_order_72 : decode cX8_order 72 = .ok (.iload_n 3, 1) := by decide +kernel
theorem dX8_order_73 : decode cX8_order 73 = .ok (.iload 4, 2) := by decide +kernel
theorem dX8_order_75 : decode cX8_order 75 = .ok (.invokespecial 142, 3) := by decide +kernel
theorem dX8_order_78 : decode cX8_order 78 = .ok (.aastore, 1) := by decide +kernel
theorem dX8_order_79 : decode cX8_order 79 = .ok (.aload_n 0, 1) := by decide +kernel
theorem dX8_order_80 : decode cX8_order 80 = .ok (.dup, 1) := by decide +kernel
theorem dX8_order_81 : decode cX8_order 81 = .ok (.getfield 43, 3) := by decide +kernel
theorem dX8_order_84 : decode cX8_order 84 = .ok (.dup_x1, 1) := by decide +kernel
theorem dX8_order_85 : decode cX8_order 85 = .ok (.iconst 1, 1) := by decide +kernel
theorem dX8_order_86 : decode cX8_order 86 = .ok (.iadd, 1) := by decide +kernel
theorem dX8_order_87 : decode cX8_order 87 = .ok (.putfield 43, 3) := by decide +kernel
theorem dX8_order_90 : decode cX8_order 90 = .ok (.ireturn, 1) := by decide +kernel
theorem dX8_left_0 : decode cX8_left 0 = .ok (.iload_n 1, 1) := by decide +kernel
theorem dX8_left_1 : decode cX8_left 1 = .ok (.ifCond .lt 21, 3) := by decide +kernel
theorem dX8_left_4 : decode cX8_left 4 = .ok (.iload_n 1, 1) := by decide +kernel
theorem dX8_left_5 : decode cX8_left 5 = .ok (.aload_n 0, 1) := by decide +kernel
theorem dX8_left_6 : decode cX8_left 6 = .ok (.getfield 29, 3) := by decide +kernel
theorem dX8_left_9 : decode cX8_left 9 = .ok (.arraylength, 1) := by decide +kernel
theorem dX8_left_10 : decode cX8_left 10 = .ok (.if_icmp .ge 12, 3) := by decide +kernel
theorem dX8_left_13 : decode cX8_left 13 = .ok (.aload_n 0, 1) := by decide +kernel
theorem dX8_left_14 : decode cX8_left 14 = .ok (.getfield 29, 3) := by decide +kernel
theorem dX8_left_17 : decode cX8_left 17 = .ok (.iload_n 1, 1) := by decide +kernel
theorem dX8_left_18 : decode cX8_left 18 = .ok (.aaload, 1) := by decide +kernel
theorem dX8_left_19 : decode cX8_left 19 = .ok (.goto 4, 3) := by decide +kernel
theorem dX8_left_22 : decode cX8_left 22 = .ok (.aconst_null, 1) := by decide +kernel
theorem dX8_left_23 : decode cX8_left 23 = .ok (.astore_n 2, 1) := by decide +kernel
theorem dX8_left_24 : decode cX8_left 24 = .ok (.aload_n 2, 1) := by decide +kernel
theorem dX8_left_25 : decode cX8_left 25 = .ok (.ifnonnull 13, 3) := by decide +kernel
theorem dX8_left_28 : decode cX8_left 28 = .ok (.new 125, 3) := by decide +kernel
theorem dX8_left_31 : decode cX8_left 31 = .ok (.dup, 1) := by decide +kernel
theorem dX8_left_32 : decode cX8_left 32 = .ok (.ldc 145, 2) := by decide +kernel
theorem dX8_left_34 : decode cX8_left 34 = .ok (.invokespecial 129, 3) := by decide +kernel
theorem dX8_left_37 : decode cX8_left 37 = .ok (.athrow, 1) := by decide +kernel
theorem dX8_left_38 : decode cX8_left 38 = .ok (.aload_n 2, 1) := by decide +kernel
theorem dX8_left_39 : decode cX8_left 39 = .ok (.getfield 147, 3) := by decide +kernel
theorem dX8_left_42 : decode cX8_left 42 = .ok (.ireturn, 1) := by decide +kernel
set_option maxRecDepth 20000 in
theorem ggX8_setFloor_X8_checkRange : GoodIn wsX8_setFloor wsX8_checkRange := goodIn_ca (goodIn_r _ [6, 7, 8] (by decide +kernel) (by decide +kernel)) (goodIn_sub (fun _ h => List.mem_cons_of_mem _ (List.mem_append_right _ h)) (by decide +kernel))
set_option maxRecDepth 20000 in
theorem gX8_setFloor_X8_checkRange : GoodIn wsX8_setFloor (va_wsS RX8 97 yX8_checkRange wsX8_checkRange) := goodIn_app (goodIn_of _ (by decide +kernel)) ggX8_setFloor_X8_checkRange
theorem dX8_setFloor_0 : decode cX8_setFloor 0 = .ok (.iload_n 1, 1) := by decide +kernel
theorem dX8_setFloor_1 : decode cX8_setFloor 1 = .ok (.iconst 0, 1) := by decide +kernel
theorem dX8_setFloor_2 : decode cX8_setFloor 2 = .ok (.ldc 138, 2) := by decide +kernel
theorem dX8_setFloor_4 : decode cX8_setFloor 4 = .ok (.invokestatic 97, 3) := by decide +kernel
theorem dX8_setFloor_7 : decode cX8_setFloor 7 = .ok (.aload_n 0, 1) := by decide +kernel
theorem dX8_setFloor_8 : decode cX8_setFloor 8 = .ok (.getfield 49, 3) := by decide +kernel
theorem dX8_setFloor_11 : decode cX8_setFloor 11 = .ok (.istore_n 2, 1) := by decide +kernel
theorem dX8_setFloor_12 : decode cX8_setFloor 12 = .ok (.aload_n 0, 1) := by decide +kernel
theorem dX8_setFloor_13 : decode cX8_setFloor 13 = .ok (.iload_n 1, 1) := by decide +kernel
theorem dX8_setFloor_14 : decode cX8_setFloor 14 = .ok (.putfield 49, 3) := by decide +kernel
theorem dX8_setFloor_17 : decode cX8_setFloor 17 = .ok (.iload_n 2, 1) := by decide +kernel
theorem dX8_setFloor_18 : decode cX8_setFloor 18 = .ok (.ireturn, 1) := by decide +kernel
set_option maxRecDepth 20000 in
theorem ggX8_fill_X8_potOf : GoodIn wsX8_fill wsX8_potOf := goodIn_ca (goodIn_r _ [13, 14, 15, 16, 42, 43, 44, 45, 46, 47, 48, 49, 50, 51] (by decide +kernel) (by decide +kernel)) (goodIn_sub (fun _ h => List.mem_cons_of_mem _ (List.mem_append_left _ (List.mem_append_right _ h))) (by decide +kernel))
set_option maxRecDepth 20000 in
theorem gX8_fill_X8_potOf : GoodIn wsX8_fill (wsV RX8 57 RX8 yX8_potOf wsX8_potOf) := goodIn_app (goodIn_of _ (by decide +kernel)) ggX8_fill_X8_potOf
set_option maxRecDepth 20000 in
theorem ggX8_fill_X8_checkRange : GoodIn wsX8_fill wsX8_checkRange := goodIn_ca (goodIn_r _ [19, 20, 21] (by decide +kernel) (by decide +kernel)) (goodIn_sub (fun _ h => List.mem_cons_of_mem _ (List.mem_append_right _ h)) (by decide +kernel))
set_option maxRecDepth 20000 in
theorem gX8_fill_X8_checkRange : GoodIn wsX8_fill (va_wsS RX8 97 yX8_checkRange wsX8_checkRange) := goodIn_app (goodIn_of _ (by decide +kernel)) ggX8_fill_X8_checkRange
set_option maxRecDepth 20000 in
theorem ggX8_fill_X6_init : GoodIn wsX8_fill wsX6_init := goodIn_r _ [24, 25, 26, 27, 28, 29, 30, 52, 53, 54] (by decide +kernel) (by decide +kernel)
set_option maxRecDepth 20000 in
theorem gX8_fill_X6_init : GoodIn wsX8_fill (wsX6_init) := ggX8_fill_X6_init
set_option maxRecDepth 20000 in
theorem ggX8_fill_X1_receive : GoodIn wsX8_fill wsX1_receive := goodIn_r _ [35, 36, 37, 38, 39, 40, 41, 55, 56] (by decide +kernel) (by decide +kernel)
set_option maxRecDepth 20000 in
theorem gX8_fill_X1_receive : GoodIn wsX8_fill (wsV RX8 155 RX1 yX1_receive wsX1_receive) := goodIn_app (goodIn_of _ (by decide +kernel)) ggX8_fill_X1_receive
theorem dX8_fill_0 : decode cX8_fill 0 = .ok (.aload_n 0, 1) := by decide +kernel
theorem dX8_fill_1 : decode cX8_fill 1 = .ok (.iload_n 1, 1) := by decide +kernel
theorem dX8_fill_2 : decode cX8_fill 2 = .ok (.invokevirtual 57, 3) := by decide +kernel
theorem dX8_fill_5 : decode cX8_fill 5 = .ok (.astore_n 3, 1) := by decide +kernel
theorem dX8_fill_6 : decode cX8_fill 6 = .ok (.iload_n 2, 1) := by decide +kernel
theorem dX8_fill_7 : decode cX8_fill 7 = .ok (.iconst 1, 1) := by decide +kernel
theorem dX8_fill_8 : decode cX8_fill 8 = .ok (.ldc 138, 2) := by decide +kernel
theorem dX8_fill_10 : decode cX8_fill 10 = .ok (.invokestatic 97, 3) := by decide +kernel
theorem dX8_fill_13 : decode cX8_fill 13 = .ok (.aload_n 0, 1) := by decide +kernel
theorem dX8_fill_14 : decode cX8_fill 14 = .ok (.getfield 46, 3) := by decide +kernel
theorem dX8_fill_17 : decode cX8_fill 17 = .ok (.ifCond .lt 15, 3) := by decide +kernel
theorem dX8_fill_20 : decode cX8_fill 20 = .ok (.aload_n 0, 1) := by decide +kernel
theorem dX8_fill_21 : decode cX8_fill 21 = .ok (.getfield 46, 3) := by decide +kernel
theorem dX8_fill_24 : decode cX8_fill 24 = .ok (.aload_n 0, 1) := by decide +kernel
theorem dX8_fill_25 : decode cX8_fill 25 = .ok (.getfield 35, 3) := by decide +kernel
theorem dX8_fill_28 : decode cX8_fill 28 = .ok (.arraylength, 1) := by decide +kernel
theorem dX8_fill_29 : decode cX8_fill 29 = .ok (.if_icmp .lt 13, 3) := by decide +kernel
theorem dX8_fill_32 : decode cX8_fill 32 = .ok (.new 61, 3) := by decide +kernel
theorem dX8_fill_35 : decode cX8_fill 35 = .ok (.dup, 1) := by decide +kernel
theorem dX8_fill_36 : decode cX8_fill 36 = .ok (.ldc 150, 2) := by decide +kernel
theorem dX8_fill_38 : decode cX8_fill 38 = .ok (.invokespecial 65, 3) := by decide +kernel
theorem dX8_fill_41 : decode cX8_fill 41 = .ok (.athrow, 1) := by decide +kernel
theorem dX8_fill_42 : decode cX8_fill 42 = .ok (.aload_n 0, 1) := by decide +kernel
theorem dX8_fill_43 : decode cX8_fill 43 = .ok (.getfield 35, 3) := by decide +kernel
theorem dX8_fill_46 : decode cX8_fill 46 = .ok (.aload_n 0, 1) := by decide +kernel
theorem dX8_fill_47 : decode cX8_fill 47 = .ok (.getfield 46, 3) := by decide +kernel
theorem dX8_fill_50 : decode cX8_fill 50 = .ok (.new 33, 3) := by decide +kernel
theorem dX8_fill_53 : decode cX8_fill 53 = .ok (.dup, 1) := by decide +kernel
theorem dX8_fill_54 : decode cX8_fill 54 = .ok (.aload_n 3, 1) := by decide +kernel
theorem dX8_fill_55 : decode cX8_fill 55 = .ok (.iload_n 2, 1) := by decide +kernel
theorem dX8_fill_56 : decode cX8_fill 56 = .ok (.invokespecial 152, 3) := by decide +kernel
theorem dX8_fill_59 : decode cX8_fill 59 = .ok (.aastore, 1) := by decide +kernel
theorem dX8_fill_60 : decode cX8_fill 60 = .ok (.aload_n 3, 1) := by decide +kernel
theorem dX8_fill_61 : decode cX8_fill 61 = .ok (.iload_n 2, 1) := by decide +kernel
theorem dX8_fill_62 : decode cX8_fill 62 = .ok (.invokevirtual 155, 3) := by decide +kernel
theorem dX8_fill_65 : decode cX8_fill 65 = .ok (.aload_n 0, 1) := by decide +kernel
theorem dX8_fill_66 : decode cX8_fill 66 = .ok (.dup, 1) := by decide +kernel
theorem dX8_fill_67 : decode cX8_fill 67 = .ok (.getfield 46, 3) := by decide +kernel
theorem dX8_fill_70 : decode cX8_fill 70 = .ok (.dup_x1, 1) := by decide +kernel
theorem dX8_fill_71 : decode cX8_fill 71 = .ok (.iconst 1, 1) := by decide +kernel
theorem dX8_fill_72 : decode cX8_fill 72 = .ok (.iadd, 1) := by decide +kernel
theorem dX8_fill_73 : decode cX8_fill 73 = .ok (.putfield 46, 3) := by decide +kernel
theorem dX8_fill_76 : decode cX8_fill 76 = .ok (.ireturn, 1) := by decide +kernel
set_option maxRecDepth 20000 in
theorem ggX8_bounce_X1_lose : GoodIn wsX8_bounce wsX1_lose := goodIn_r _ [14, 15, 16, 17, 18, 19, 20, 34, 35] (by decide +kernel) (by decide +kernel)
set_option maxRecDepth 20000 in
theorem gX8_bounce_X1_lose : GoodIn wsX8_bounce (wsV RX8 173 RX1 yX1_lose wsX1_lose) := goodIn_app (goodIn_of _ (by decide +kernel)) ggX8_bounce_X1_lose
theorem dX8_bounce_0 : decode cX8_bounce 0 = .ok (.iload_n 1, 1) := by decide +kernel
theorem dX8_bounce_1 : decode cX8_bounce 1 = .ok (.ifCond .lt 21, 3) := by decide +kernel
theorem dX8_bounce_4 : decode cX8_bounce 4 = .ok (.iload_n 1, 1) := by decide +kernel
theorem dX8_bounce_5 : decode cX8_bounce 5 = .ok (.aload_n 0, 1) := by decide +kernel
theorem dX8_bounce_6 : decode cX8_bounce 6 = .ok (.getfield 35, 3) := by decide +kernel
theorem dX8_bounce_9 : decode cX8_bounce 9 = .ok (.arraylength, 1) := by decide +kernel
theorem dX8_bounce_10 : decode cX8_bounce 10 = .ok (.if_icmp .ge 12, 3) := by decide +kernel
theorem dX8_bounce_13 : decode cX8_bounce 13 = .ok (.aload_n 0, 1) := by decide +kernel
theorem dX8_bounce_14 : decode cX8_bounce 14 = .ok (.getfield 35, 3) := by decide +kernel
theorem dX8_bounce_17 : decode cX8_bounce 17 = .ok (.iload_n 1, 1) := by decide +kernel
theorem dX8_bounce_18 : decode cX8_bounce 18 = .ok (.aaload, 1) := by decide +kernel
theorem dX8_bounce_19 : decode cX8_bounce 19 = .ok (.goto 4, 3) := by decide +kernel
theorem dX8_bounce_22 : decode cX8_bounce 22 = .ok (.aconst_null, 1) := by decide +kernel
theorem dX8_bounce_23 : decode cX8_bounce 23 = .ok (.astore_n 2, 1) := by decide +kernel
theorem dX8_bounce_24 : decode cX8_bounce 24 = .ok (.aload_n 2, 1) := by decide +kernel
theorem dX8_bounce_25 : decode cX8_bounce 25 = .ok (.ifnonnull 13, 3) := by decide +kernel
theorem dX8_bounce_28 : decode cX8_bounce 28 = .ok (.new 125, 3) := by decide +kernel
theorem dX8_bounce_31 : decode cX8_bounce 31 = .ok (.dup, 1) := by decide +kernel
theorem dX8_bounce_32 : decode cX8_bounce 32 = .ok (.ldc 158, 2) := by decide +kernel
theorem dX8_bounce_34 : decode cX8_bounce 34 = .ok (.invokespecial 129, 3) := by decide +kernel
theorem dX8_bounce_37 : decode cX8_bounce 37 = .ok (.athrow, 1) := by decide +kernel
theorem dX8_bounce_38 : decode cX8_bounce 38 = .ok (.aload_n 2, 1) := by decide +kernel
theorem dX8_bounce_39 : decode cX8_bounce 39 = .ok (.getfield 160, 3) := by decide +kernel
theorem dX8_bounce_42 : decode cX8_bounce 42 = .ok (.ifCond .eq 13, 3) := by decide +kernel
theorem dX8_bounce_45 : decode cX8_bounce 45 = .ok (.new 61, 3) := by decide +kernel
theorem dX8_bounce_48 : decode cX8_bounce 48 = .ok (.dup, 1) := by decide +kernel
theorem dX8_bounce_49 : decode cX8_bounce 49 = .ok (.ldc 164, 2) := by decide +kernel
theorem dX8_bounce_51 : decode cX8_bounce 51 = .ok (.invokespecial 65, 3) := by decide +kernel
theorem dX8_bounce_54 : decode cX8_bounce 54 = .ok (.athrow, 1) := by decide +kernel
theorem dX8_bounce_55 : decode cX8_bounce 55 = .ok (.aload_n 2, 1) := by decide +kernel
theorem dX8_bounce_56 : decode cX8_bounce 56 = .ok (.iconst 1, 1) := by decide +kernel
theorem dX8_bounce_57 : decode cX8_bounce 57 = .ok (.putfield 160, 3) := by decide +kernel
theorem dX8_bounce_60 : decode cX8_bounce 60 = .ok (.aload_n 2, 1) := by decide +kernel
theorem dX8_bounce_61 : decode cX8_bounce 61 = .ok (.getfield 166, 3) := by decide +kernel
theorem dX8_bounce_64 : decode cX8_bounce 64 = .ok (.aload_n 2, 1) := by decide +kernel
theorem dX8_bounce_65 : decode cX8_bounce 65 = .ok (.getfield 170, 3) := by decide +kernel
theorem dX8_bounce_68 : decode cX8_bounce 68 = .ok (.invokevirtual 173, 3) := by decide +kernel
theorem dX8_bounce_71 : decode cX8_bounce 71 = .ok (.aload_n 2, 1) := by decide +kernel
theorem dX8_bounce_72 : decode cX8_bounce 72 = .ok (.getfield 166, 3) := by decide +kernel
theorem dX8_bounce_75 : decode cX8_bounce 75 = .ok (.getfield 176, 3) := by decide +kernel
theorem dX8_bounce_78 : decode cX8_bounce 78 = .ok (.ireturn, 1) := by decide +kernel
set_option maxRecDepth 20000 in
theorem ggX8_pot_X8_potOf : GoodIn wsX8_pot wsX8_potOf := goodIn_ca (goodIn_r _ [6, 7, 8, 9, 12, 13, 14, 15, 16, 17, 18, 19, 20, 21] (by decide +kernel) (by decide +kernel)) (goodIn_sub (fun _ h => List.mem_cons_of_mem _ (List.mem_append_right _ h)) (by decide +kernel))
set_option maxRecDepth 20000 in
theorem gX8_pot_X8_potOf : GoodIn wsX8_pot (wsV RX8 57 RX8 yX8_potOf wsX8_potOf) := goodIn_app (goodIn_of _ (by decide +kernel)) ggX8_pot_X8_potOf
theorem dX8_pot_0 : decode cX8_pot 0 = .ok (.aload_n 0, 1) := by decide +kernel
theorem dX8_pot_1 : decode cX8_pot 1 = .ok (.iload_n 1, 1) := by decide +kernel
theorem dX8_pot_2 : decode cX8_pot 2 = .ok (.invokevirtual 57, 3) := by decide +kernel
theorem dX8_pot_5 : decode cX8_pot 5 = .ok (.getfield 179, 3) := by decide +kernel
theorem dX8_pot_8 : decode cX8_pot 8 = .ok (.ireturn, 1) := by decide +kernel
set_option maxRecDepth 20000 in
theorem ggX8_shortage_X8_potOf : GoodIn wsX8_shortage wsX8_potOf := goodIn_ca (goodIn_r _ [6, 7, 8, 9, 12, 13, 14, 15, 16, 17, 18, 19, 20, 21] (by decide +kernel) (by decide +kernel)) (goodIn_sub (fun _ h => List.mem_cons_of_mem _ (List.mem_append_right _ h)) (by decide +kernel))
set_option maxRecDepth 20000 in
theorem gX8_shortage_X8_potOf : GoodIn wsX8_shortage (wsV RX8 57 RX8 yX8_potOf wsX8_potOf) := goodIn_app (goodIn_of _ (by decide +kernel)) ggX8_shortage_X8_potOf
theorem dX8_shortage_0 : decode cX8_shortage 0 = .ok (.aload_n 0, 1) := by decide +kernel
theorem dX8_shortage_1 : decode cX8_shortage 1 = .ok (.iload_n 1, 1) := by decide +kernel
theorem dX8_shortage_2 : decode cX8_shortage 2 = .ok (.invokevirtual 57, 3) := by decide +kernel
theorem dX8_shortage_5 : decode cX8_shortage 5 = .ok (.getfield 176, 3) := by decide +kernel
theorem dX8_shortage_8 : decode cX8_shortage 8 = .ok (.ireturn, 1) := by decide +kernel
set_option maxRecDepth 20000 in
theorem ggX8_close_X8_settle : GoodIn wsX8_close wsX8_settle := goodIn_r _ [9, 10, 11, 12, 13, 14, 8, 15, 3, 16, 17, 18, 19, 20, 21, 22, 23, 24, 25, 26, 27, 28, 29, 30, 31, 32, 33, 34, 35, 36, 37, 38, 39, 40, 41, 42, 43, 44, 45, 46, 47, 48, 49, 50, 51, 52, 53, 54, 55, 56, 57, 58, 59, 60, 61, 62, 63, 64, 65, 66, 67, 68, 69, 70, 71, 72, 73, 74, 75, 76, 77, 78, 79, 80, 81, 82, 83, 84, 85, 86, 87, 88, 89, 90, 91, 92, 93, 94, 95, 96, 97, 98, 99, 100, 111, 112, 113, 114, 115, 116, 117, 118, 119, 120, 101, 102, 103, 104, 105, 106, 107, 108, 109, 110, 121, 122, 123, 124, 125, 126, 127, 128, 129, 130, 131, 132, 133, 134, 135] (by decide +kernel) (by decide +kernel)
set_option maxRecDepth 20000 in
theorem gX8_close_X8_settle : GoodIn wsX8_close (wsV RX8 184 RX8 yX8_settle wsX8_settle) := goodIn_app (goodIn_of _ (by decide +kernel)) ggX8_close_X8_settle
theorem dX8_close_0 : decode cX8_close 0 = .ok (.aload_n 0, 1) := by decide +kernel
theorem dX8_close_1 : decode cX8_close 1 = .ok (.getfield 52, 3) := by decide +kernel
theorem dX8_close_4 : decode cX8_close 4 = .ok (.bipush 31, 2) := by decide +kernel
theorem dX8_close_6 : decode cX8_close 6 = .ok (.if_icmp .lt 13, 3) := by decide +kernel
theorem dX8_close_9 : decode cX8_close 9 = .ok (.new 61, 3) := by decide +kernel
theorem dX8_close_12 : decode cX8_close 12 = .ok (.dup, 1) := by decide +kernel
theorem dX8_close_13 : decode cX8_close 13 = .ok (.ldc 182, 2) := by decide +kernel
theorem dX8_close_15 : decode cX8_close 15 = .ok (.invokespecial 65, 3) := by decide +kernel
theorem dX8_close_18 : decode cX8_close 18 = .ok (.athrow, 1) := by decide +kernel
theorem dX8_close_19 : decode cX8_close 19 = .ok (.iconst 0, 1) := by decide +kernel
theorem dX8_close_20 : decode cX8_close 20 = .ok (.istore_n 1, 1) := by decide +kernel
theorem dX8_close_21 : decode cX8_close 21 = .ok (.aload_n 0, 1) := by decide +kernel
theorem dX8_close_22 : decode cX8_close 22 = .ok (.getfield 23, 3) := by decide +kernel
theorem dX8_close_25 : decode cX8_close 25 = .ok (.astore_n 2, 1) := by decide +kernel
theorem dX8_close_26 : decode cX8_close 26 = .ok (.aload_n 2, 1) := by decide +kernel
theorem dX8_close_27 : decode cX8_close 27 = .ok (.arraylength, 1) := by decide +kernel
theorem dX8_close_28 : decode cX8_close 28 = .ok (.istore_n 3, 1) := by decide +kernel
theorem dX8_close_29 : decode cX8_close 29 = .ok (.iconst 0, 1) := by decide +kernel
theorem dX8_close_30 : decode cX8_close 30 = .ok (.istore 4, 2) := by decide +kernel
theorem dX8_close_32 : decode cX8_close 32 = .ok (.iload 4, 2) := by decide +kernel
theorem dX8_close_34 : decode cX8_close 34 = .ok (.iload_n 3, 1) := by decide +kernel
theorem dX8_close_35 : decode cX8_close 35 = .ok (.if_icmp .ge 32, 3) := by decide +kernel
theorem dX8_close_38 : decode cX8_close 38 = .ok (.aload_n 2, 1) := by decide +kernel
theorem dX8_close_39 : decode cX8_close 39 = .ok (.iload 4, 2) := by decide +kernel
theorem dX8_close_41 : decode cX8_close 41 = .ok (.aaload, 1) := by decide +kernel
theorem dX8_close_42 : decode cX8_close 42 = .ok (.astore 5, 2) := by decide +kernel
theorem dX8_close_44 : decode cX8_close 44 = .ok (.aload 5, 2) := by decide +kernel
theorem dX8_close_46 : decode cX8_close 46 = .ok (.ifnull 15, 3) := by decide +kernel
theorem dX8_close_49 : decode cX8_close 49 = .ok (.aload_n 0, 1) := by decide +kernel
theorem dX8_close_50 : decode cX8_close 50 = .ok (.aload 5, 2) := by decide +kernel
theorem dX8_close_52 : decode cX8_close 52 = .ok (.invokevirtual 184, 3) := by decide +kernel
theorem dX8_close_55 : decode cX8_close 55 = .ok (.ifCond .eq 6, 3) := by decide +kernel
theorem dX8_close_58 : decode cX8_close 58 = .ok (.iinc 1 1, 3) := by decide +kernel
theorem dX8_close_61 : decode cX8_close 61 = .ok (.iinc 4 1, 3) := by decide +kernel
theorem dX8_close_64 : decode cX8_close 64 = .ok (.goto (-32), 3) := by decide +kernel
theorem dX8_close_67 : decode cX8_close 67 = .ok (.aload_n 0, 1) := by decide +kernel
theorem dX8_close_68 : decode cX8_close 68 = .ok (.dup, 1) := by decide +kernel
theorem dX8_close_69 : decode cX8_close 69 = .ok (.getfield 52, 3) := by decide +kernel
theorem dX8_close_72 : decode cX8_close 72 = .ok (.iconst 1, 1) := by decide +kernel
theorem dX8_close_73 : decode cX8_close 73 = .ok (.iadd, 1) := by decide +kernel
theorem dX8_close_74 : decode cX8_close 74 = .ok (.putfield 52, 3) := by decide +kernel
theorem dX8_close_77 : decode cX8_close 77 = .ok (.iload_n 1, 1) := by decide +kernel
theorem dX8_close_78 : decode cX8_close 78 = .ok (.ireturn, 1) := by decide +kernel
theorem dX8_week_0 : decode cX8_week 0 = .ok (.aload_n 0, 1) := by decide +kernel
theorem dX8_week_1 : decode cX8_week 1 = .ok (.getfield 52, 3) := by decide +kernel
theorem dX8_week_4 : decode cX8_week 4 = .ok (.ireturn, 1) := by decide +kernel
set_option maxRecDepth 20000 in
theorem ggX8_slip_X8_workerOf : GoodIn wsX8_slip wsX8_workerOf := goodIn_ca (goodIn_r _ [5, 6, 7, 8, 32, 33, 34, 35, 36, 37, 38, 39, 40, 41] (by decide +kernel) (by decide +kernel)) (goodIn_sub (fun _ h => List.mem_cons_of_mem _ (List.mem_append_left _ (List.mem_append_right _ h))) (by decide +kernel))
set_option maxRecDepth 20000 in
theorem gX8_slip_X8_workerOf : GoodIn wsX8_slip (wsV RX8 71 RX8 yX8_workerOf wsX8_workerOf) := goodIn_app (goodIn_of _ (by decide +kernel)) ggX8_slip_X8_workerOf
set_option maxRecDepth 20000 in
theorem ggX8_slip_X8_checkWeek : GoodIn wsX8_slip wsX8_checkWeek := goodIn_ca (goodIn_r _ [11, 12, 13, 4, 14, 15, 16] (by decide +kernel) (by decide +kernel)) (goodIn_sub (fun _ h => List.mem_cons_of_mem _ (List.mem_append_right _ h)) (by decide +kernel))
set_option maxRecDepth 20000 in
theorem gX8_slip_X8_checkWeek : GoodIn wsX8_slip (va_wsS RX8 79 yX8_checkWeek wsX8_checkWeek) := goodIn_app (goodIn_of _ (by decide +kernel)) ggX8_slip_X8_checkWeek
set_option maxRecDepth 20000 in
theorem ggX8_slip_X8_checkRange : GoodIn wsX8_slip wsX8_checkRange := goodIn_ca (goodIn_r _ [14, 15, 16] (by decide +kernel) (by decide +kernel)) (goodIn_sub (fun _ h => List.mem_cons_of_mem _ (List.mem_append_right _ h)) (by decide +kernel))
set_option maxRecDepth 20000 in
theorem gX8_slip_X8_checkRange : GoodIn wsX8_slip (va_wsS RX8 97 yX8_checkRange wsX8_checkRange) := goodIn_app (goodIn_of _ (by decide +kernel)) ggX8_slip_X8_checkRange
set_option maxRecDepth 20000 in
theorem ggX8_slip_X7_slipPart : GoodIn wsX8_slip wsX7_slipPart := goodIn_r _ [21, 22, 23, 24, 25, 26, 27, 28, 29, 30, 31, 42, 43, 44, 45, 46, 47, 48, 49, 50, 51, 52, 53] (by decide +kernel) (by decide +kernel)
set_option maxRecDepth 20000 in
theorem gX8_slip_X7_slipPart : GoodIn wsX8_slip (wsV RX8 188 RX7 yX7_slipPart wsX7_slipPart) := goodIn_app (goodIn_of _ (by decide +kernel)) ggX8_slip_X7_slipPart
theorem dX8_slip_0 : decode cX8_slip 0 = .ok (.aload_n 0, 1) := by decide +kernel
theorem dX8_slip_1 : decode cX8_slip 1 = .ok (.iload_n 1, 1) := by decide +kernel
theorem dX8_slip_2 : decode cX8_slip 2 = .ok (.invokevirtual 71, 3) := by decide +kernel
theorem dX8_slip_5 : decode cX8_slip 5 = .ok (.astore 4, 2) := by decide +kernel
theorem dX8_slip_7 : decode cX8_slip 7 = .ok (.iload_n 2, 1) := by decide +kernel
theorem dX8_slip_8 : decode cX8_slip 8 = .ok (.invokestatic 79, 3) := by decide +kernel
theorem dX8_slip_11 : decode cX8_slip 11 = .ok (.iload_n 3, 1) := by decide +kernel
theorem dX8_slip_12 : decode cX8_slip 12 = .ok (.iconst 0, 1) := by decide +kernel
theorem dX8_slip_13 : decode cX8_slip 13 = .ok (.iconst 3, 1) := by decide +kernel
theorem dX8_slip_14 : decode cX8_slip 14 = .ok (.invokestatic 97, 3) := by decide +kernel
theorem dX8_slip_17 : decode cX8_slip 17 = .ok (.aload 4, 2) := by decide +kernel
theorem dX8_slip_19 : decode cX8_slip 19 = .ok (.iload_n 2, 1) := by decide +kernel
theorem dX8_slip_20 : decode cX8_slip 20 = .ok (.iload_n 3, 1) := by decide +kernel
theorem dX8_slip_21 : decode cX8_slip 21 = .ok (.invokevirtual 188, 3) := by decide +kernel
theorem dX8_slip_24 : decode cX8_slip 24 = .ok (.ireturn, 1) := by decide +kernel
set_option maxRecDepth 20000 in
theorem ggX8_toTakeBack_X8_workerOf : GoodIn wsX8_toTakeBack wsX8_workerOf := goodIn_ca (goodIn_r _ [6, 7, 8, 9, 18, 19, 20, 21, 22, 23, 24, 25, 26, 27] (by decide +kernel) (by decide +kernel)) (goodIn_sub (fun _ h => List.mem_cons_of_mem _ (List.mem_append_right _ h)) (by decide +kernel))
set_option maxRecDepth 20000 in
theorem gX8_toTakeBack_X8_workerOf : GoodIn wsX8_toTakeBack (wsV RX8 71 RX8 yX8_workerOf wsX8_workerOf) := goodIn_app (goodIn_of _ (by decide +kernel)) ggX8_toTakeBack_X8_workerOf
theorem dX8_toTakeBack_0 : decode cX8_toTakeBack 0 = .ok (.aload_n 0, 1) := by decide +kernel
theorem dX8_toTakeBack_1 : decode cX8_toTakeBack 1 = .ok (.iload_n 1, 1) := by decide +kernel
theorem dX8_toTakeBack_2 : decode cX8_toTakeBack 2 = .ok (.invokevirtual 71, 3) := by decide +kernel
theorem dX8_toTakeBack_5 : decode cX8_toTakeBack 5 = .ok (.getfield 192, 3) := by decide +kernel
theorem dX8_toTakeBack_8 : decode cX8_toTakeBack 8 = .ok (.ireturn, 1) := by decide +kernel
set_option maxRecDepth 20000 in
theorem ggX8_claim_X8_workerOf : GoodIn wsX8_claim wsX8_workerOf := goodIn_ca (goodIn_r _ [5, 6, 7, 8, 46, 47, 48, 49, 50, 51, 52, 53, 54, 55] (by decide +kernel) (by decide +kernel)) (goodIn_sub (fun _ h => List.mem_cons_of_mem _ (List.mem_append_right _ h)) (by decide +kernel))
set_option maxRecDepth 20000 in
theorem gX8_claim_X8_workerOf : GoodIn wsX8_claim (wsV RX8 71 RX8 yX8_workerOf wsX8_workerOf) := goodIn_app (goodIn_of _ (by decide +kernel)) ggX8_claim_X8_workerOf
set_option maxRecDepth 20000 in
theorem ggX8_claim_X8_claimOf : GoodIn wsX8_claim wsX8_claimOf := goodIn_r _ [12, 13, 14, 15, 16, 17, 4, 18, 19, 20, 21, 22, 23, 24, 25, 26, 27, 28, 29, 30, 31, 32, 33, 34, 35, 36, 37, 38, 39, 40, 41, 42, 43, 44, 45, 46, 47, 48, 49, 50, 51, 52, 53, 54, 55, 56, 57, 58, 59, 60, 61, 62, 63, 64, 65, 66, 67, 68, 69, 70] (by decide +kernel) (by decide +kernel)
set_option maxRecDepth 20000 in
theorem gX8_claim_X8_claimOf : GoodIn wsX8_claim (wsV RX8 195 RX8 yX8_claimOf wsX8_claimOf) := goodIn_app (goodIn_of _ (by decide +kernel)) ggX8_claim_X8_claimOf
theorem dX8_claim_0 : decode cX8_claim 0 = .ok (.aload_n 0, 1) := by decide +kernel
theorem dX8_claim_1 : decode cX8_claim 1 = .ok (.aload_n 0, 1) := by decide +kernel
theorem dX8_claim_2 : decode cX8_claim 2 = .ok (.iload_n 1, 1) := by decide +kernel
theorem dX8_claim_3 : decode cX8_claim 3 = .ok (.invokevirtual 71, 3) := by decide +kernel
theorem dX8_claim_6 : decode cX8_claim 6 = .ok (.invokevirtual 195, 3) := by decide +kernel
theorem dX8_claim_9 : decode cX8_claim 9 = .ok (.ireturn, 1) := by decide +kernel
set_option maxRecDepth 20000 in
theorem ggX8_claimBySlips_X8_workerOf : GoodIn wsX8_claimBySlips wsX8_workerOf := goodIn_ca (goodIn_r _ [7, 8, 9, 10, 56, 57, 58, 59, 60, 61, 62, 63, 64, 65] (by decide +kernel) (by decide +kernel)) (goodIn_sub (fun _ h => List.mem_cons_of_mem _ (List.mem_append_right _ h)) (by decide +kernel))
set_option maxRecDepth 20000 in
theorem gX8_claimBySlips_X8_workerOf : GoodIn wsX8_claimBySlips (wsV RX8 71 RX8 yX8_workerOf wsX8_workerOf) := goodIn_app (goodIn_of _ (by decide +kernel)) ggX8_claimBySlips_X8_workerOf
set_option maxRecDepth 20000 in
theorem ggX8_claimBySlips_X8_dueBetween : GoodIn wsX8_claimBySlips wsX8_dueBetween := goodIn_r _ [14, 15, 16, 17, 18, 19, 20, 21, 22, 23, 24, 25, 26, 27, 28, 29, 30, 31, 32, 6, 33, 34, 35, 36, 37, 38, 39, 40, 41, 66, 67, 68, 69, 70, 71, 72, 73, 74, 75, 76, 77, 78, 56, 57, 58, 59, 60, 61, 62, 63, 64, 65, 79, 80] (by decide +kernel) (by decide +kernel)
set_option maxRecDepth 20000 in
theorem gX8_claimBySlips_X8_dueBetween : GoodIn wsX8_claimBySlips (wsV RX8 134 RX8 yX8_dueBetween wsX8_dueBetween) := goodIn_app (goodIn_of _ (by decide +kernel)) ggX8_claimBySlips_X8_dueBetween
set_option maxRecDepth 20000 in
theorem ggX8_claimBySlips_X7_slipPart : GoodIn wsX8_claimBySlips wsX7_slipPart := goodIn_r _ [45, 46, 47, 48, 49, 50, 51, 52, 53, 54, 55, 66, 67, 68, 69, 70, 71, 72, 73, 81, 82, 83, 84] (by decide +kernel) (by decide +kernel)
set_option maxRecDepth 20000 in
theorem gX8_claimBySlips_X7_slipPart : GoodIn wsX8_claimBySlips (wsV RX8 188 RX7 yX7_slipPart wsX7_slipPart) := goodIn_app (goodIn_of _ (by decide +kernel)) ggX8_claimBySlips_X7_slipPart
theorem dX8_claimBySlips_0 : decode cX8_claimBySlips 0 = .ok (.aload_n 0, 1) := by decide +kernel
theorem dX8_claimBySlips_1 : decode cX8_claimBySlips 1 = .ok (.iload_n 1, 1) := by decide +kernel
theorem dX8_claimBySlips_2 : decode cX8_claimBySlips 2 = .ok (.invokevirtual 71, 3) := by decide +kernel
theorem dX8_claimBySlips_5 : decode cX8_claimBySlips 5 = .ok (.astore_n 2, 1) := by decide +kernel
theorem dX8_claimBySlips_6 : decode cX8_claimBySlips 6 = .ok (.aload_n 0, 1) := by decide +kernel
theorem dX8_claimBySlips_7 : decode cX8_claimBySlips 7 = .ok (.aload_n 2, 1) := by decide +kernel
theorem dX8_claimBySlips_8 : decode cX8_claimBySlips 8 = .ok (.iconst 0, 1) := by decide +kernel
theorem dX8_claimBySlips_9 : decode cX8_claimBySlips 9 = .ok (.aload_n 0, 1) := by decide +kernel
theorem dX8_claimBySlips_10 : decode cX8_claimBySlips 10 = .ok (.getfield 52, 3) := by decide +kernel
theorem dX8_claimBySlips_13 : decode cX8_claimBySlips 13 = .ok (.invokevirtual 134, 3) := by decide +kernel
theorem dX8_claimBySlips_16 : decode cX8_claimBySlips 16 = .ok (.aload_n 2, 1) := by decide +kernel
theorem dX8_claimBySlips_17 : decode cX8_claimBySlips 17 = .ok (.getfield 199, 3) := by decide +kernel
theorem dX8_claimBySlips_20 : decode cX8_claimBySlips 20 = .ok (.iadd, 1) := by decide +kernel
theorem dX8_claimBySlips_21 : decode cX8_claimBySlips 21 = .ok (.istore_n 3, 1) := by decide +kernel
theorem dX8_claimBySlips_22 : decode cX8_claimBySlips 22 = .ok (.iconst 0, 1) := by decide +kernel
theorem dX8_claimBySlips_23 : decode cX8_claimBySlips 23 = .ok (.istore 4, 2) := by decide +kernel
theorem dX8_claimBySlips_25 : decode cX8_claimBySlips 25 = .ok (.iload 4, 2) := by decide +kernel
theorem dX8_claimBySlips_27 : decode cX8_claimBySlips 27 = .ok (.bipush 31, 2) := by decide +kernel
theorem dX8_claimBySlips_29 : decode cX8_claimBySlips 29 = .ok (.if_icmp .ge 19, 3) := by decide +kernel
theorem dX8_claimBySlips_32 : decode cX8_claimBySlips 32 = .ok (.iload_n 3, 1) := by decide +kernel
theorem dX8_claimBySlips_33 : decode cX8_claimBySlips 33 = .ok (.aload_n 2, 1) := by decide +kernel
theorem dX8_claimBySlips_34 : decode cX8_claimBySlips 34 = .ok (.iload 4, 2) := by decide +kernel
theorem dX8_claimBySlips_36 : decode cX8_claimBySlips 36 = .ok (.iconst 0, 1) := by decide +kernel
theorem dX8_claimBySlips_37 : decode cX8_claimBySlips 37 = .ok (.invokevirtual 188, 3) := by decide +kernel
theorem dX8_claimBySlips_40 : decode cX8_claimBySlips 40 = .ok (.isub, 1) := by decide +kernel
theorem dX8_claimBySlips_41 : decode cX8_claimBySlips 41 = .ok (.istore_n 3, 1) := by decide +kernel
theorem dX8_claimBySlips_42 : decode cX8_claimBySlips 42 = .ok (.iinc 4 1, 3) := by decide +kernel
theorem dX8_claimBySlips_45 : decode cX8_claimBySlips 45 = .ok (.goto (-20), 3) := by decide +kernel
theorem dX8_claimBySlips_48 : decode cX8_claimBySlips 48 = .ok (.iload_n 3, 1) := by decide +kernel
theorem dX8_claimBySlips_49 : decode cX8_claimBySlips 49 = .ok (.ireturn, 1) := by decide +kernel
theorem dX8_workerOf_0 : decode cX8_workerOf 0 = .ok (.iload_n 1, 1) := by decide +kernel
theorem dX8_workerOf_1 : decode cX8_workerOf 1 = .ok (.ifCond .lt 21, 3) := by decide +kernel
theorem dX8_workerOf_4 : decode cX8_workerOf 4 = .ok (.iload_n 1, 1) := by decide +kernel
theorem dX8_workerOf_5 : decode cX8_workerOf 5 = .ok (.aload_n 0, 1) := by decide +kernel
theorem dX8_workerOf_6 : decode cX8_workerOf 6 = .ok (.getfield 23, 3) := by decide +kernel
theorem dX8_workerOf_9 : decode cX8_workerOf 9 = .ok (.arraylength, 1) := by decide +kernel
theorem dX8_workerOf_10 : decode cX8_workerOf 10 = .ok (.if_icmp .ge 12, 3) := by decide +kernel
theorem dX8_workerOf_13 : decode cX8_workerOf 13 = .ok (.aload_n 0, 1) := by decide +kernel
theorem dX8_workerOf_14 : decode cX8_workerOf 14 = .ok (.getfield 23, 3) := by decide +kernel
theorem dX8_workerOf_17 : decode cX8_workerOf 17 = .ok (.iload_n 1, 1) := by decide +kernel
theorem dX8_workerOf_18 : decode cX8_workerOf 18 = .ok (.aaload, 1) := by decide +kernel
theorem dX8_workerOf_19 : decode cX8_workerOf 19 = .ok (.goto 4, 3) := by decide +kernel
theorem dX8_workerOf_22 : decode cX8_workerOf 22 = .ok (.aconst_null, 1) := by decide +kernel
theorem dX8_workerOf_23 : decode cX8_workerOf 23 = .ok (.astore_n 2, 1) := by decide +kernel
theorem dX8_workerOf_24 : decode cX8_workerOf 24 = .ok (.aload_n 2, 1) := by decide +kernel
theorem dX8_workerOf_25 : decode cX8_workerOf 25 = .ok (.ifnonnull 13, 3) := by decide +kernel
theorem dX8_workerOf_28 : decode cX8_workerOf 28 = .ok (.new 125, 3) := by decide +kernel
theorem dX8_workerOf_31 : decode cX8_workerOf 31 = .ok (.dup, 1) := by decide +kernel
theorem dX8_workerOf_32 : decode cX8_workerOf 32 = .ok (.ldc 202, 2) := by decide +kernel
theorem dX8_workerOf_34 : decode cX8_workerOf 34 = .ok (.invokespecial 129, 3) := by decide +kernel
theorem dX8_workerOf_37 : decode cX8_workerOf 37 = .ok (.athrow, 1) := by decide +kernel
theorem dX8_workerOf_38 : decode cX8_workerOf 38 = .ok (.aload_n 2, 1) := by decide +kernel
theorem dX8_workerOf_39 : decode cX8_workerOf 39 = .ok (.areturn, 1) := by decide +kernel
theorem dX8_potOf_0 : decode cX8_potOf 0 = .ok (.iload_n 1, 1) := by decide +kernel
theorem dX8_potOf_1 : decode cX8_potOf 1 = .ok (.ifCond .lt 21, 3) := by decide +kernel
theorem dX8_potOf_4 : decode cX8_potOf 4 = .ok (.iload_n 1, 1) := by decide +kernel
theorem dX8_potOf_5 : decode cX8_potOf 5 = .ok (.aload_n 0, 1) := by decide +kernel
theorem dX8_potOf_6 : decode cX8_potOf 6 = .ok (.getfield 11, 3) := by decide +kernel
theorem dX8_potOf_9 : decode cX8_potOf 9 = .ok (.arraylength, 1) := by decide +kernel
theorem dX8_potOf_10 : decode cX8_potOf 10 = .ok (.if_icmp .ge 12, 3) := by decide +kernel
theorem dX8_potOf_13 : decode cX8_potOf 13 = .ok (.aload_n 0, 1) := by decide +kernel
theorem dX8_potOf_14 : decode cX8_potOf 14 = .ok (.getfield 11, 3) := by decide +kernel
theorem dX8_potOf_17 : decode cX8_potOf 17 = .ok (.iload_n 1, 1) := by decide +kernel
theorem dX8_potOf_18 : decode cX8_potOf 18 = .ok (.aaload, 1) := by decide +kernel
theorem dX8_potOf_19 : decode cX8_potOf 19 = .ok (.goto 4, 3) := by decide +kernel
theorem dX8_potOf_22 : decode cX8_potOf 22 = .ok (.aconst_null, 1) := by decide +kernel
theorem dX8_potOf_23 : decode cX8_potOf 23 = .ok (.astore_n 2, 1) := by decide +kernel
theorem dX8_potOf_24 : decode cX8_potOf 24 = .ok (.aload_n 2, 1) := by decide +kernel
theorem dX8_potOf_25 : decode cX8_potOf 25 = .ok (.ifnonnull 13, 3) := by decide +kernel
theorem dX8_potOf_28 : decode cX8_potOf 28 = .ok (.new 125, 3) := by decide +kernel
theorem dX8_potOf_31 : decode cX8_potOf 31 = .ok (.dup, 1) := by decide +kernel
theorem dX8_potOf_32 : decode cX8_potOf 32 = .ok (.ldc 204, 2) := by decide +kernel
theorem dX8_potOf_34 : decode cX8_potOf 34 = .ok (.invokespecial 129, 3) := by decide +kernel
theorem dX8_potOf_37 : decode cX8_potOf 37 = .ok (.athrow, 1) := by decide +kernel
theorem dX8_potOf_38 : decode cX8_potOf 38 = .ok (.aload_n 2, 1) := by decide +kernel
theorem dX8_potOf_39 : decode cX8_potOf 39 = .ok (.areturn, 1) := by decide +kernel
set_option maxRecDepth 20000 in
theorem ggX8_ratesOf_X8_ratesOrNull : GoodIn wsX8_ratesOf wsX8_ratesOrNull := goodIn_r _ [7, 8, 9, 10, 11, 12, 13, 14, 15, 16, 17, 18] (by decide +kernel) (by decide +kernel)
set_option maxRecDepth 20000 in
theorem gX8_ratesOf_X8_ratesOrNull : GoodIn wsX8_ratesOf (wsV RX8 206 RX8 yX8_ratesOrNull wsX8_ratesOrNull) := goodIn_app (goodIn_of _ (by decide +kernel)) ggX8_ratesOf_X8_ratesOrNull
theorem dX8_ratesOf_0 : decode cX8_ratesOf 0 = .ok (.aload_n 0, 1) := by decide +kernel
theorem dX8_ratesOf_1 : decode cX8_ratesOf 1 = .ok (.iload_n 1, 1) := by decide +kernel
theorem dX8_ratesOf_2 : decode cX8_ratesOf 2 = .ok (.invokevirtual 206, 3) := by decide +kernel
theorem dX8_ratesOf_5 : decode cX8_ratesOf 5 = .ok (.astore_n 2, 1) := by decide +kernel
theorem dX8_ratesOf_6 : decode cX8_ratesOf 6 = .ok (.aload_n 2, 1) := by decide +kernel
theorem dX8_ratesOf_7 : decode cX8_ratesOf 7 = .ok (.ifnonnull 13, 3) := by decide +kernel
theorem dX8_ratesOf_10 : decode cX8_ratesOf 10 = .ok (.new 125, 3) := by decide +kernel
theorem dX8_ratesOf_13 : decode cX8_ratesOf 13 = .ok (.dup, 1) := by decide +kernel
theorem dX8_ratesOf_14 : decode cX8_ratesOf 14 = .ok (.ldc 209, 2) := by decide +kernel
theorem dX8_ratesOf_16 : decode cX8_ratesOf 16 = .ok (.invokespecial 129, 3) := by decide +kernel
theorem dX8_ratesOf_19 : decode cX8_ratesOf 19 = .ok (.athrow, 1) := by decide +kernel
theorem dX8_ratesOf_20 : decode cX8_ratesOf 20 = .ok (.aload_n 2, 1) := by decide +kernel
theorem dX8_ratesOf_21 : decode cX8_ratesOf 21 = .ok (.areturn, 1) := by decide +kernel
theorem dX8_ratesOrNull_0 : decode cX8_ratesOrNull 0 = .ok (.iload_n 1, 1) := by decide +kernel
theorem dX8_ratesOrNull_1 : decode cX8_ratesOrNull 1 = .ok (.ifCond .lt 21, 3) := by decide +kernel
theorem dX8_ratesOrNull_4 : decode cX8_ratesOrNull 4 = .ok (.iload_n 1, 1) := by decide +kernel
theorem dX8_ratesOrNull_5 : decode cX8_ratesOrNull 5 = .ok (.aload_n 0, 1) := by decide +kernel
theorem dX8_ratesOrNull_6 : decode cX8_ratesOrNull 6 = .ok (.getfield 17, 3) := by decide +kernel
theorem dX8_ratesOrNull_9 : decode cX8_ratesOrNull 9 = .ok (.arraylength, 1) := by decide +kernel
theorem dX8_ratesOrNull_10 : decode cX8_ratesOrNull 10 = .ok (.if_icmp .ge 12, 3) := by decide +kernel
theorem dX8_ratesOrNull_13 : decode cX8_ratesOrNull 13 = .ok (.aload_n 0, 1) := by decide +kernel
theorem dX8_ratesOrNull_14 : decode cX8_ratesOrNull 14 = .ok (.getfield 17, 3) := by decide +kernel
theorem dX8_ratesOrNull_17 : decode cX8_ratesOrNull 17 = .ok (.iload_n 1, 1) := by decide +kernel
theorem dX8_ratesOrNull_18 : decode cX8_ratesOrNull 18 = .ok (.aaload, 1) := by decide +kernel
theorem dX8_ratesOrNull_19 : decode cX8_ratesOrNull 19 = .ok (.goto 4, 3) := by decide +kernel
theorem dX8_ratesOrNull_22 : decode cX8_ratesOrNull 22 = .ok (.aconst_null, 1) := by decide +kernel
theorem dX8_ratesOrNull_23 : decode cX8_ratesOrNull 23 = .ok (.areturn, 1) := by decide +kernel
set_option maxRecDepth 20000 in
theorem ggX8_checkWeek_X8_checkRange : GoodIn wsX8_checkWeek wsX8_checkRange := goodIn_ca (goodIn_r _ [4, 5, 6] (by decide +kernel) (by decide +kernel)) (goodIn_sub (fun _ h => List.mem_cons_of_mem _ (List.mem_append_right _ h)) (by decide +kernel))
set_option maxRecDepth 20000 in
theorem gX8_checkWeek_X8_checkRange : GoodIn wsX8_checkWeek (va_wsS RX8 97 yX8_checkRange wsX8_checkRange) := goodIn_app (goodIn_of _ (by decide +kernel)) ggX8_checkWeek_X8_checkRange
theorem dX8_checkWeek_0 : decode cX8_checkWeek 0 = .ok (.iload_n 0, 1) := by decide +kernel
theorem dX8_checkWeek_1 : decode cX8_checkWeek 1 = .ok (.iconst 0, 1) := by decide +kernel
theorem dX8_checkWeek_2 : decode cX8_checkWeek 2 = .ok (.bipush 30, 2) := by decide +kernel
theorem dX8_checkWeek_4 : decode cX8_checkWeek 4 = .ok (.invokestatic 97, 3) := by decide +kernel
theorem dX8_checkWeek_7 : decode cX8_checkWeek 7 = .ok (.return_, 1) := by decide +kernel
set_option maxRecDepth 20000 in
theorem ggX8_checkHours_X8_checkRange : GoodIn wsX8_checkHours wsX8_checkRange := goodIn_ca (goodIn_r _ [4, 5, 6] (by decide +kernel) (by decide +kernel)) (goodIn_sub (fun _ h => List.mem_cons_of_mem _ (List.mem_append_right _ h)) (by decide +kernel))
set_option maxRecDepth 20000 in
theorem gX8_checkHours_X8_checkRange : GoodIn wsX8_checkHours (va_wsS RX8 97 yX8_checkRange wsX8_checkRange) := goodIn_app (goodIn_of _ (by decide +kernel)) ggX8_checkHours_X8_checkRange
theorem dX8_checkHours_0 : decode cX8_checkHours 0 = .ok (.iload_n 0, 1) := by decide +kernel
theorem dX8_checkHours_1 : decode cX8_checkHours 1 = .ok (.iconst 0, 1) := by decide +kernel
theorem dX8_checkHours_2 : decode cX8_checkHours 2 = .ok (.bipush 100, 2) := by decide +kernel
theorem dX8_checkHours_4 : decode cX8_checkHours 4 = .ok (.invokestatic 97, 3) := by decide +kernel
theorem dX8_checkHours_7 : decode cX8_checkHours 7 = .ok (.iload_n 1, 1) := by decide +kernel
theorem dX8_checkHours_8 : decode cX8_checkHours 8 = .ok (.iconst 0, 1) := by decide +kernel
theorem dX8_checkHours_9 : decode cX8_checkHours 9 = .ok (.bipush 100, 2) := by decide +kernel
theorem dX8_checkHours_11 : decode cX8_checkHours 11 = .ok (.invokestatic 97, 3) := by decide +kernel
theorem dX8_checkHours_14 : decode cX8_checkHours 14 = .ok (.return_, 1) := by decide +kernel
theorem dX8_checkRange_0 : decode cX8_checkRange 0 = .ok (.iload_n 0, 1) := by decide +kernel
theorem dX8_checkRange_1 : decode cX8_checkRange 1 = .ok (.iload_n 1, 1) := by decide +kernel
theorem dX8_checkRange_2 : decode cX8_checkRange 2 = .ok (.if_icmp .lt 8, 3) := by decide +kernel
theorem dX8_checkRange_5 : decode cX8_checkRange 5 = .ok (.iload_n 0, 1) := by decide +kernel
theorem dX8_checkRange_6 : decode cX8_checkRange 6 = .ok (.iload_n 2, 1) := by decide +kernel
theorem dX8_checkRange_7 : decode cX8_checkRange 7 = .ok (.if_icmp .le 13, 3) := by decide +kernel
theorem dX8_checkRange_10 : decode cX8_checkRange 10 = .ok (.new 211, 3) := by decide +kernel
theorem dX8_checkRange_13 : decode cX8_checkRange 13 = .ok (.dup, 1) := by decide +kernel
theorem dX8_checkRange_14 : decode cX8_checkRange 14 = .ok (.ldc 213, 2) := by decide +kernel
theorem dX8_checkRange_16 : decode cX8_checkRange 16 = .ok (.invokespecial 215, 3) := by decide +kernel
theorem dX8_checkRange_19 : decode cX8_checkRange 19 = .ok (.athrow, 1) := by decide +kernel
theorem dX8_checkRange_20 : decode cX8_checkRange 20 = .ok (.return_, 1) := by decide +kernel
set_option maxRecDepth 20000 in
theorem ggX8_dueBetween_X7_sheet : GoodIn wsX8_dueBetween wsX7_sheet := goodIn_r _ [8, 9, 29, 30, 31, 32, 33, 34, 35, 36] (by decide +kernel) (by decide +kernel)
set_option maxRecDepth 20000 in
theorem gX8_dueBetween_X7_sheet : GoodIn wsX8_dueBetween (wsV RX8 110 RX7 yX7_sheet wsX7_sheet) := goodIn_app (goodIn_of _ (by decide +kernel)) ggX8_dueBetween_X7_sheet
set_option maxRecDepth 20000 in
theorem ggX8_dueBetween_X3_inWeek : GoodIn wsX8_dueBetween wsX3_inWeek := goodIn_r _ [14, 15, 40, 41] (by decide +kernel) (by decide +kernel)
set_option maxRecDepth 20000 in
theorem gX8_dueBetween_X3_inWeek : GoodIn wsX8_dueBetween (wsV RX8 87 RX3 yX3_inWeek wsX3_inWeek) := goodIn_app (goodIn_of _ (by decide +kernel)) ggX8_dueBetween_X3_inWeek
set_option maxRecDepth 20000 in
theorem ggX8_dueBetween_X8_ratesOrNull : GoodIn wsX8_dueBetween wsX8_ratesOrNull := goodIn_r _ [20, 21, 42, 43, 44, 45, 46, 47, 48, 49, 50, 51] (by decide +kernel) (by decide +kernel)
set_option maxRecDepth 20000 in
theorem gX8_dueBetween_X8_ratesOrNull : GoodIn wsX8_dueBetween (wsV RX8 206 RX8 yX8_ratesOrNull wsX8_ratesOrNull) := goodIn_app (goodIn_of _ (by decide +kernel)) ggX8_dueBetween_X8_ratesOrNull
set_option maxRecDepth 20000 in
theorem ggX8_dueBetween_X8_payFor : GoodIn wsX8_dueBetween wsX8_payFor := goodIn_r _ [24, 25, 26, 2, 27, 28, 10, 11, 12, 13, 14, 15, 37, 38, 39, 52, 53, 40, 41] (by decide +kernel) (by decide +kernel)
set_option maxRecDepth 20000 in
theorem gX8_dueBetween_X8_payFor : GoodIn wsX8_dueBetween (va_wsS RX8 219 yX8_payFor wsX8_payFor) := goodIn_app (goodIn_of _ (by decide +kernel)) ggX8_dueBetween_X8_payFor
theorem dX8_dueBetween_0 : decode cX8_dueBetween 0 = .ok (.iconst 0, 1) := by decide +kernel
theorem dX8_dueBetween_1 : decode cX8_dueBetween 1 = .ok (.istore 4, 2) := by decide +kernel
theorem dX8_dueBetween_3 : decode cX8_dueBetween 3 = .ok (.iconst 0, 1) := by decide +kernel
theorem dX8_dueBetween_4 : decode cX8_dueBetween 4 = .ok (.istore 5, 2) := by decide +kernel
theorem dX8_dueBetween_6 : decode cX8_dueBetween 6 = .ok (.iload 5, 2) := by decide +kernel
theorem dX8_dueBetween_8 : decode cX8_dueBetween 8 = .ok (.aload_n 1, 1) := by decide +kernel
theorem dX8_dueBetween_9 : decode cX8_dueBetween 9 = .ok (.getfield 122, 3) := by decide +kernel
theorem dX8_dueBetween_12 : decode cX8_dueBetween 12 = .ok (.if_icmp .ge 66, 3) := by decide +kernel
theorem dX8_dueBetween_15 : decode cX8_dueBetween 15 = .ok (.aload_n 1, 1) := by decide +kernel
theorem dX8_dueBetween_16 : decode cX8_dueBetween 16 = .ok (.iload 5, 2) := by decide +kernel
theorem dX8_dueBetween_18 : decode cX8_dueBetween 18 = .ok (.invokevirtual 110, 3) := by decide +kernel
theorem dX8_dueBetween_21 : decode cX8_dueBetween 21 = .ok (.astore 6, 2) := by decide +kernel
theorem dX8_dueBetween_23 : decode cX8_dueBetween 23 = .ok (.aload 6, 2) := by decide +kernel
theorem dX8_dueBetween_25 : decode cX8_dueBetween 25 = .ok (.ifnull 47, 3) := by decide +kernel
theorem dX8_dueBetween_28 : decode cX8_dueBetween 28 = .ok (.aload 6, 2) := by decide +kernel
theorem dX8_dueBetween_30 : decode cX8_dueBetween 30 = .ok (.getfield 216, 3) := by decide +kernel
theorem dX8_dueBetween_33 : decode cX8_dueBetween 33 = .ok (.iload_n 2, 1) := by decide +kernel
theorem dX8_dueBetween_34 : decode cX8_dueBetween 34 = .ok (.if_icmp .lt 38, 3) := by decide +kernel
theorem dX8_dueBetween_37 : decode cX8_dueBetween 37 = .ok (.aload 6, 2) := by decide +kernel
theorem dX8_dueBetween_39 : decode cX8_dueBetween 39 = .ok (.getfield 216, 3) := by decide +kernel
theorem dX8_dueBetween_42 : decode cX8_dueBetween 42 = .ok (.iload_n 3, 1) := by decide +kernel
theorem dX8_dueBetween_43 : decode cX8_dueBetween 43 = .ok (.if_icmp .gt 29, 3) := by decide +kernel
theorem dX8_dueBetween_46 : decode cX8_dueBetween 46 = .ok (.iload 4, 2) := by decide +kernel
theorem dX8_dueBetween_48 : decode cX8_dueBetween 48 = .ok (.aload 6, 2) := by decide +kernel
theorem dX8_dueBetween_50 : decode cX8_dueBetween 50 = .ok (.aload_n 0, 1) := by decide +kernel
theorem dX8_dueBetween_51 : decode cX8_dueBetween 51 = .ok (.aload_n 1, 1) := by decide +kernel
theorem dX8_dueBetween_52 : decode cX8_dueBetween 52 = .ok (.getfield 83, 3) := by decide +kernel
theorem dX8_dueBetween_55 : decode cX8_dueBetween 55 = .ok (.aload 6, 2) := by decide +kernel
theorem dX8_dueBetween_57 : decode cX8_dueBetween 57 = .ok (.getfield 216, 3) := by decide +kernel
theorem dX8_dueBetween_60 : decode cX8_dueBetween 60 = .ok (.invokevirtual 87, 3) := by decide +kernel
theorem dX8_dueBetween_63 : decode cX8_dueBetween 63 = .ok (.invokevirtual 206, 3) := by decide +kernel
theorem dX8_dueBetween_66 : decode cX8_dueBetween 66 = .ok (.invokestatic 219, 3) := by decide +kernel
theorem dX8_dueBetween_69 : decode cX8_dueBetween 69 = .ok (.iadd, 1) := by decide +kernel
theorem dX8_dueBetween_70 : decode cX8_dueBetween 70 = .ok (.istore 4, 2) := by decide +kernel
theorem dX8_dueBetween_72 : decode cX8_dueBetween 72 = .ok (.iinc 5 1, 3) := by decide +kernel
theorem dX8_dueBetween_75 : decode cX8_dueBetween 75 = .ok (.goto (-69), 3) := by decide +kernel
theorem dX8_dueBetween_78 : decode cX8_dueBetween 78 = .ok (.iload 4, 2) := by decide +kernel
theorem dX8_dueBetween_80 : decode cX8_dueBetween 80 = .ok (.ireturn, 1) := by decide +kernel
set_option maxRecDepth 20000 in
theorem ggX8_payFor_X3_inWeek : GoodIn wsX8_payFor wsX3_inWeek := goodIn_r _ [10, 11, 17, 18] (by decide +kernel) (by decide +kernel)
set_option maxRecDepth 20000 in
theorem gX8_payFor_X3_inWeek : GoodIn wsX8_payFor (wsV RX8 87 RX3 yX3_inWeek wsX3_inWeek) := goodIn_app (goodIn_of _ (by decide +kernel)) ggX8_payFor_X3_inWeek
theorem dX8_payFor_0 : decode cX8_payFor 0 = .ok (.aload_n 1, 1) := by decide +kernel
theorem dX8_payFor_1 : decode cX8_payFor 1 = .ok (.ifnonnull 5, 3) := by decide +kernel
theorem dX8_payFor_4 : decode cX8_payFor 4 = .ok (.iconst 0, 1) := by decide +kernel
theorem dX8_payFor_5 : decode cX8_payFor 5 = .ok (.ireturn, 1) := by decide +kernel
theorem dX8_payFor_6 : decode cX8_payFor 6 = .ok (.aload_n 0, 1) := by decide +kernel
theorem dX8_payFor_7 : decode cX8_payFor 7 = .ok (.getfield 130, 3) := by decide +kernel
theorem dX8_payFor_10 : decode cX8_payFor 10 = .ok (.aload_n 1, 1) := by decide +kernel
theorem dX8_payFor_11 : decode cX8_payFor 11 = .ok (.getfield 101, 3) := by decide +kernel
theorem dX8_payFor_14 : decode cX8_payFor 14 = .ok (.aload_n 0, 1) := by decide +kernel
theorem dX8_payFor_15 : decode cX8_payFor 15 = .ok (.getfield 216, 3) := by decide +kernel
theorem dX8_payFor_18 : decode cX8_payFor 18 = .ok (.invokevirtual 87, 3) := by decide +kernel
theorem dX8_payFor_21 : decode cX8_payFor 21 = .ok (.imul, 1) := by decide +kernel
theorem dX8_payFor_22 : decode cX8_payFor 22 = .ok (.aload_n 0, 1) := by decide +kernel
theorem dX8_payFor_23 : decode cX8_payFor 23 = .ok (.getfield 132, 3) := by decide +kernel
theorem dX8_payFor_26 : decode cX8_payFor 26 = .ok (.aload_n 1, 1) := by decide +kernel
theorem dX8_payFor_27 : decode cX8_payFor 27 = .ok (.getfield 104, 3) := by decide +kernel
theorem dX8_payFor_30 : decode cX8_payFor 30 = .ok (.aload_n 0, 1) := by decide +kernel
theorem dX8_payFor_31 : decode cX8_payFor 31 = .ok (.getfield 216, 3) := by decide +kernel
theorem dX8_payFor_34 : decode cX8_payFor 34 = .ok (.invokevirtual 87, 3) := by decide +kernel
theorem dX8_payFor_37 : decode cX8_payFor 37 = .ok (.imul, 1) := by decide +kernel
theorem dX8_payFor_38 : decode cX8_payFor 38 = .ok (.iadd, 1) := by decide +kernel
theorem dX8_payFor_39 : decode cX8_payFor 39 = .ok (.ireturn, 1) := by decide +kernel
set_option maxRecDepth 20000 in
theorem ggX8_claimOf_X8_dueBetween : GoodIn wsX8_claimOf wsX8_dueBetween := goodIn_r _ [7, 8, 9, 10, 11, 12, 13, 14, 15, 16, 17, 18, 19, 20, 21, 22, 23, 24, 25, 6, 26, 27, 28, 29, 30, 31, 32, 33, 34, 45, 46, 47, 48, 49, 50, 51, 52, 53, 54, 55, 56, 57, 35, 36, 37, 38, 39, 40, 41, 42, 43, 44, 58, 59] (by decide +kernel) (by decide +kernel)
set_option maxRecDepth 20000 in
theorem gX8_claimOf_X8_dueBetween : GoodIn wsX8_claimOf (wsV RX8 134 RX8 yX8_dueBetween wsX8_dueBetween) := goodIn_app (goodIn_of _ (by decide +kernel)) ggX8_claimOf_X8_dueBetween
theorem dX8_claimOf_0 : decode cX8_claimOf 0 = .ok (.aload_n 0, 1) := by decide +kernel
theorem dX8_claimOf_1 : decode cX8_claimOf 1 = .ok (.aload_n 1, 1) := by decide +kernel
theorem dX8_claimOf_2 : decode cX8_claimOf 2 = .ok (.iconst 0, 1) := by decide +kernel
theorem dX8_claimOf_3 : decode cX8_claimOf 3 = .ok (.aload_n 0, 1) := by decide +kernel
theorem dX8_claimOf_4 : decode cX8_claimOf 4 = .ok (.getfield 52, 3) := by decide +kernel
theorem dX8_claimOf_7 : decode cX8_claimOf 7 = .ok (.invokevirtual 134, 3) := by decide +kernel
theorem dX8_claimOf_10 : decode cX8_claimOf 10 = .ok (.aload_n 1, 1) := by decide +kernel
theorem dX8_claimOf_11 : decode cX8_claimOf 11 = .ok (.getfield 223, 3) := by decide +kernel
theorem dX8_claimOf_14 : decode cX8_claimOf 14 = .ok (.isub, 1) := by decide +kernel
theorem dX8_claimOf_15 : decode cX8_claimOf 15 = .ok (.ireturn, 1) := by decide +kernel
set_option maxRecDepth 20000 in
theorem ggX8_settle_X8_claimOf : GoodIn wsX8_settle wsX8_claimOf := goodIn_r _ [7, 8, 9, 10, 11, 12, 6, 13, 14, 15, 16, 17, 18, 19, 20, 21, 22, 23, 24, 25, 26, 27, 28, 29, 30, 31, 32, 33, 34, 35, 36, 37, 38, 39, 40, 104, 105, 106, 107, 108, 109, 110, 111, 112, 113, 94, 95, 96, 97, 98, 99, 100, 101, 114, 115, 116, 117, 118, 119, 120] (by decide +kernel) (by decide +kernel)
set_option maxRecDepth 20000 in
theorem gX8_settle_X8_claimOf : GoodIn wsX8_settle (wsV RX8 195 RX8 yX8_claimOf wsX8_claimOf) := goodIn_app (goodIn_of _ (by decide +kernel)) ggX8_settle_X8_claimOf
set_option maxRecDepth 20000 in
theorem ggX8_settle_X7_owe : GoodIn wsX8_settle wsX7_owe := goodIn_r _ [44, 45, 46, 47, 94, 95, 96, 97, 98, 99, 100, 101] (by decide +kernel) (by decide +kernel)
set_option maxRecDepth 20000 in
theorem gX8_settle_X7_owe : GoodIn wsX8_settle (wsV RX8 226 RX7 yX7_owe wsX7_owe) := goodIn_app (goodIn_of _ (by decide +kernel)) ggX8_settle_X7_owe
set_option maxRecDepth 20000 in
theorem ggX8_settle_X8_pay : GoodIn wsX8_settle wsX8_pay := goodIn_r _ [51, 1, 2, 9, 52, 53, 54, 55, 56, 57, 8, 58, 59, 60, 61, 62, 63, 6, 64, 65, 66, 67, 68, 69, 70, 71, 72, 73, 74, 75, 76, 77, 78, 79, 80, 81, 82, 83, 84, 85, 86, 87, 88, 89, 90, 91, 20, 92, 93, 94, 95, 96, 97, 98, 99, 100, 101, 102, 103, 104, 105, 106, 107, 108, 109, 110, 111, 112, 113, 121, 122, 123, 124, 125, 126, 127, 128] (by decide +kernel) (by decide +kernel)
set_option maxRecDepth 20000 in
theorem gX8_settle_X8_pay : GoodIn wsX8_settle (wsV RX8 230 RX8 yX8_pay wsX8_pay) := goodIn_app (goodIn_of _ (by decide +kernel)) ggX8_settle_X8_pay
theorem dX8_settle_0 : decode cX8_settle 0 = .ok (.aload_n 0, 1) := by decide +kernel
theorem dX8_settle_1 : decode cX8_settle 1 = .ok (.aload_n 1, 1) := by decide +kernel
theorem dX8_settle_2 : decode cX8_settle 2 = .ok (.invokevirtual 195, 3) := by decide +kernel
theorem dX8_settle_5 : decode cX8_settle 5 = .ok (.istore_n 2, 1) := by decide +kernel
theorem dX8_settle_6 : decode cX8_settle 6 = .ok (.iload_n 2, 1) := by decide +kernel
theorem dX8_settle_7 : decode cX8_settle 7 = .ok (.ifCond .ge 11, 3) := by decide +kernel
theorem dX8_settle_10 : decode cX8_settle 10 = .ok (.aload_n 1, 1) := by decide +kernel
theorem dX8_settle_11 : decode cX8_settle 11 = .ok (.iload_n 2, 1) := by decide +kernel
theorem dX8_settle_12 : decode cX8_settle 12 = .ok (.ineg, 1) := by decide +kernel
theorem dX8_settle_13 : decode cX8_settle 13 = .ok (.invokevirtual 226, 3) := by decide +kernel
theorem dX8_settle_16 : decode cX8_settle 16 = .ok (.iconst 0, 1) := by decide +kernel
theorem dX8_settle_17 : decode cX8_settle 17 = .ok (.ireturn, 1) := by decide +kernel
theorem dX8_settle_18 : decode cX8_settle 18 = .ok (.iload_n 2, 1) := by decide +kernel
theorem dX8_settle_19 : decode cX8_settle 19 = .ok (.ifCond .eq 14, 3) := by decide +kernel
theorem dX8_settle_22 : decode cX8_settle 22 = .ok (.aload_n 1, 1) := by decide +kernel
theorem dX8_settle_23 : decode cX8_settle 23 = .ok (.getfield 229, 3) := by decide +kernel
theorem dX8_settle_26 : decode cX8_settle 26 = .ok (.getfield 179, 3) := by decide +kernel
theorem dX8_settle_29 : decode cX8_settle 29 = .ok (.iload_n 2, 1) := by decide +kernel
theorem dX8_settle_30 : decode cX8_settle 30 = .ok (.if_icmp .ge 5, 3) := by decide +kernel
theorem dX8_settle_33 : decode cX8_settle 33 = .ok (.iconst 0, 1) := by decide +kernel
theorem dX8_settle_34 : decode cX8_settle 34 = .ok (.ireturn, 1) := by decide +kernel
theorem dX8_settle_35 : decode cX8_settle 35 = .ok (.aload_n 0, 1) := by decide +kernel
theorem dX8_settle_36 : decode cX8_settle 36 = .ok (.aload_n 1, 1) := by decide +kernel
theorem dX8_settle_37 : decode cX8_settle 37 = .ok (.iload_n 2, 1) := by decide +kernel
theorem dX8_settle_38 : decode cX8_settle 38 = .ok (.invokevirtual 230, 3) := by decide +kernel
theorem dX8_settle_41 : decode cX8_settle 41 = .ok (.iconst 1, 1) := by decide +kernel
theorem dX8_settle_42 : decode cX8_settle 42 = .ok (.ireturn, 1) := by decide +kernel
set_option maxRecDepth 20000 in
theorem ggX8_pay_X8_garnish : GoodIn wsX8_pay wsX8_garnish := goodIn_r _ [18, 19, 20, 21, 22, 23, 24, 25, 26, 27, 28, 29, 6, 7, 8, 30, 31, 32, 59, 60, 61, 62, 63, 64, 65, 66, 67, 68, 73, 74, 75, 76] (by decide +kernel) (by decide +kernel)
set_option maxRecDepth 20000 in
theorem gX8_pay_X8_garnish : GoodIn wsX8_pay (wsV RX8 239 RX8 yX8_garnish wsX8_garnish) := goodIn_app (goodIn_of _ (by decide +kernel)) ggX8_pay_X8_garnish
set_option maxRecDepth 20000 in
theorem ggX8_pay_X5_init : GoodIn wsX8_pay wsX5_init := goodIn_r _ [35, 36, 37, 38, 39, 40, 41, 42, 69, 70, 71, 72] (by decide +kernel) (by decide +kernel)
set_option maxRecDepth 20000 in
theorem gX8_pay_X5_init : GoodIn wsX8_pay (wsX5_init) := ggX8_pay_X5_init
set_option maxRecDepth 20000 in
theorem ggX8_pay_X7_keepSlip : GoodIn wsX8_pay wsX7_keepSlip := goodIn_r _ [47, 48, 49, 50, 51, 52, 53, 54, 55, 56] (by decide +kernel) (by decide +kernel)
set_option maxRecDepth 20000 in
theorem gX8_pay_X7_keepSlip : GoodIn wsX8_pay (wsV RX8 248 RX7 yX7_keepSlip wsX7_keepSlip) := goodIn_app (goodIn_of _ (by decide +kernel)) ggX8_pay_X7_keepSlip
theorem dX8_pay_0 : decode cX8_pay 0 = .ok (.aload_n 1, 1) := by decide +kernel
theorem dX8_pay_1 : decode cX8_pay 1 = .ok (.getfield 229, 3) := by decide +kernel
theorem dX8_pay_4 : decode cX8_pay 4 = .ok (.dup, 1) := by decide +kernel
theorem dX8_pay_5 : decode cX8_pay 5 = .ok (.getfield 179, 3) := by decide +kernel
theorem dX8_pay_8 : decode cX8_pay 8 = .ok (.iload_n 2, 1) := by decide +kernel
theorem dX8_pay_9 : decode cX8_pay 9 = .ok (.isub, 1) := by decide +kernel
theorem dX8_pay_10 : decode cX8_pay 10 = .ok (.putfield 179, 3) := by decide +kernel
theorem dX8_pay_13 : decode cX8_pay 13 = .ok (.aload_n 1, 1) := by decide +kernel
theorem dX8_pay_14 : decode cX8_pay 14 = .ok (.dup, 1) := by decide +kernel
theorem dX8_pay_15 : decode cX8_pay 15 = .ok (.getfield 223, 3) := by decide +kernel
theorem dX8_pay_18 : decode cX8_pay 18 = .ok (.iload_n 2, 1) := by decide +kernel
theorem dX8_pay_19 : decode cX8_pay 19 = .ok (.iadd, 1) := by decide +kernel
theorem dX8_pay_20 : decode cX8_pay 20 = .ok (.putfield 223, 3) := by decide +kernel
theorem dX8_pay_23 : decode cX8_pay 23 = .ok (.aload_n 1, 1) := by decide +kernel
theorem dX8_pay_24 : decode cX8_pay 24 = .ok (.getfield 192, 3) := by decide +kernel
theorem dX8_pay_27 : decode cX8_pay 27 = .ok (.iload_n 2, 1) := by decide +kernel
theorem dX8_pay_28 : decode cX8_pay 28 = .ok (.bipush 10, 2) := by decide +kernel
theorem dX8_pay_30 : decode cX8_pay 30 = .ok (.idiv, 1) := by decide +kernel
theorem dX8_pay_31 : decode cX8_pay 31 = .ok (.invokestatic 234, 3) := by decide +kernel
theorem dX8_pay_34 : decode cX8_pay 34 = .ok (.istore_n 3, 1) := by decide +kernel
theorem dX8_pay_35 : decode cX8_pay 35 = .ok (.aload_n 1, 1) := by decide +kernel
theorem dX8_pay_36 : decode cX8_pay 36 = .ok (.dup, 1) := by decide +kernel
theorem dX8_pay_37 : decode cX8_pay 37 = .ok (.getfield 192, 3) := by decide +kernel
theorem dX8_pay_40 : decode cX8_pay 40 = .ok (.iload_n 3, 1) := by decide +kernel
theorem dX8_pay_41 : decode cX8_pay 41 = .ok (.isub, 1) := by decide +kernel
theorem dX8_pay_42 : decode cX8_pay 42 = .ok (.putfield 192, 3) := by decide +kernel
theorem dX8_pay_45 : decode cX8_pay 45 = .ok (.aload_n 1, 1) := by decide +kernel
theorem dX8_pay_46 : decode cX8_pay 46 = .ok (.getfield 229, 3) := by decide +kernel
theorem dX8_pay_49 : decode cX8_pay 49 = .ok (.dup, 1) := by decide +kernel
theorem dX8_pay_50 : decode cX8_pay 50 = .ok (.getfield 179, 3) := by decide +kernel
theorem dX8_pay_53 : decode cX8_pay 53 = .ok (.iload_n 3, 1) := by decide +kernel
theorem dX8_pay_54 : decode cX8_pay 54 = .ok (.iadd, 1) := by decide +kernel
theorem dX8_pay_55 : decode cX8_pay 55 = .ok (.putfield 179, 3) := by decide +kernel
theorem dX8_pay_58 : decode cX8_pay 58 = .ok (.iload_n 2, 1) := by decide +kernel
theorem dX8_pay_59 : decode cX8_pay 59 = .ok (.iload_n 3, 1) := by decide +kernel
theorem dX8_pay_60 : decode cX8_pay 60 = .ok (.isub, 1) := by decide +kernel
theorem dX8_pay_61 : decode cX8_pay 61 = .ok (.istore 4, 2) := by decide +kernel
theorem dX8_pay_63 : decode cX8_pay 63 = .ok (.aload_n 0, 1) := by decide +kernel
theorem dX8_pay_64 : decode cX8_pay 64 = .ok (.aload_n 1, 1) := by decide +kernel
theorem dX8_pay_65 : decode cX8_pay 65 = .ok (.iload 4, 2) := by decide +kernel
theorem dX8_pay_67 : decode cX8_pay 67 = .ok (.aload_n 0, 1) := by decide +kernel
theorem dX8_pay_68 : decode cX8_pay 68 = .ok (.getfield 49, 3) := by decide +kernel
theorem dX8_pay_71 : decode cX8_pay 71 = .ok (.isub, 1) := by decide +kernel
theorem dX8_pay_72 : decode cX8_pay 72 = .ok (.invokevirtual 239, 3) := by decide +kernel
theorem dX8_pay_75 : decode cX8_pay 75 = .ok (.istore 5, 2) := by decide +kernel
theorem dX8_pay_77 : decode cX8_pay 77 = .ok (.aload_n 1, 1) := by decide +kernel
theorem dX8_pay_78 : decode cX8_pay 78 = .ok (.aload_n 0, 1) := by decide +kernel
theorem dX8_pay_79 : decode cX8_pay 79 = .ok (.getfield 52, 3) := by decide +kernel
theorem dX8_pay_82 : decode cX8_pay 82 = .ok (.new 243, 3) := by decide +kernel
theorem dX8_pay_85 : decode cX8_pay 85 = .ok (.dup, 1) := by decide +kernel
theorem dX8_pay_86 : decode cX8_pay 86 = .ok (.iload_n 2, 1) := by decide +kernel
theorem dX8_pay_87 : decode cX8_pay 87 = .ok (.iload_n 3, 1) := by decide +kernel
theorem dX8_pay_88 : decode cX8_pay 88 = .ok (.iload 5, 2) := by decide +kernel
theorem dX8_pay_90 : decode cX8_pay 90 = .ok (.iload 4, 2) := by decide +kernel
theorem dX8_pay_92 : decode cX8_pay 92 = .ok (.iload 5, 2) := by decide +kernel
theorem dX8_pay_94 : decode cX8_pay 94 = .ok (.isub, 1) := by decide +kernel
theorem dX8_pay_95 : decode cX8_pay 95 = .ok (.invokespecial 245, 3) := by decide +kernel
theorem dX8_pay_98 : decode cX8_pay 98 = .ok (.invokevirtual 248, 3) := by decide +kernel
theorem dX8_pay_101 : decode cX8_pay 101 = .ok (.return_, 1) := by decide +kernel
set_option maxRecDepth 20000 in
theorem ggX8_garnish_X0_payOff : GoodIn wsX8_garnish wsX0_payOff := goodIn_r _ [8, 9, 10, 11, 12, 13, 14, 15, 16, 17, 28, 29, 30, 31] (by decide +kernel) (by decide +kernel)
set_option maxRecDepth 20000 in
theorem gX8_garnish_X0_payOff : GoodIn wsX8_garnish (wsV RX8 259 RX0 yX0_payOff wsX0_payOff) := goodIn_app (goodIn_of _ (by decide +kernel)) ggX8_garnish_X0_payOff
theorem dX8_garnish_0 : decode cX8_garnish 0 = .ok (.iconst 0, 1) := by decide +kernel
theorem dX8_garnish_1 : decode cX8_garnish 1 = .ok (.istore_n 3, 1) := by decide +kernel
theorem dX8_garnish_2 : decode cX8_garnish 2 = .ok (.iconst 0, 1) := by decide +kernel
theorem dX8_garnish_3 : decode cX8_garnish 3 = .ok (.istore 4, 2) := by decide +kernel
theorem dX8_garnish_5 : decode cX8_garnish 5 = .ok (.iload 4, 2) := by decide +kernel
theorem dX8_garnish_7 : decode cX8_garnish 7 = .ok (.iconst 3, 1) := by decide +kernel
theorem dX8_garnish_8 : decode cX8_garnish 8 = .ok (.if_icmp .ge 78, 3) := by decide +kernel
theorem dX8_garnish_11 : decode cX8_garnish 11 = .ok (.aload_n 0, 1) := by decide +kernel
theorem dX8_garnish_12 : decode cX8_garnish 12 = .ok (.getfield 29, 3) := by decide +kernel
theorem dX8_garnish_15 : decode cX8_garnish 15 = .ok (.astore 5, 2) := by decide +kernel
theorem dX8_garnish_17 : decode cX8_garnish 17 = .ok (.aload 5, 2) := by decide +kernel
theorem dX8_garnish_19 : decode cX8_garnish 19 = .ok (.arraylength, 1) := by decide +kernel
theorem dX8_garnish_20 : decode cX8_garnish 20 = .ok (.istore 6, 2) := by decide +kernel
theorem dX8_garnish_22 : decode cX8_garnish 22 = .ok (.iconst 0, 1) := by decide +kernel
theorem dX8_garnish_23 : decode cX8_garnish 23 = .ok (.istore 7, 2) := by decide +kernel
theorem dX8_garnish_25 : decode cX8_garnish 25 = .ok (.iload 7, 2) := by decide +kernel
theorem dX8_garnish_27 : decode cX8_garnish 27 = .ok (.iload 6, 2) := by decide +kernel
theorem dX8_garnish_29 : decode cX8_garnish 29 = .ok (.if_icmp .ge 51, 3) := by decide +kernel
theorem dX8_garnish_32 : decode cX8_garnish 32 = .ok (.aload 5, 2) := by decide +kernel
theorem dX8_garnish_34 : decode cX8_garnish 34 = .ok (.iload 7, 2) := by decide +kernel
theorem dX8_garnish_36 : decode cX8_garnish 36 = .ok (.aaload, 1) := by decide +kernel
theorem dX8_garnish_37 : decode cX8_garnish 37 = .ok (.astore 8, 2) := by decide +kernel
theorem dX8_garnish_39 : decode cX8_garnish 39 = .ok (.aload 8, 2) := by decide +kernel
theorem dX8_garnish_41 : decode cX8_garnish 41 = .ok (.ifnull 33, 3) := by decide +kernel
theorem dX8_garnish_44 : decode cX8_garnish 44 = .ok (.aload 8, 2) := by decide +kernel
theorem dX8_garnish_46 : decode cX8_garnish 46 = .ok (.getfield 252, 3) := by decide +kernel
theorem dX8_garnish_49 : decode cX8_garnish 49 = .ok (.aload_n 1, 1) := by decide +kernel
theorem dX8_garnish_50 : decode cX8_garnish 50 = .ok (.if_acmp .ne 24, 3) := by decide +kernel
theorem dX8_garnish_53 : decode cX8_garnish 53 = .ok (.aload 8, 2) := by decide +kernel
theorem dX8_garnish_55 : decode cX8_garnish 55 = .ok (.getfield 256, 3) := by decide +kernel
theorem dX8_garnish_58 : decode cX8_garnish 58 = .ok (.iload 4, 2) := by decide +kernel
theorem dX8_garnish_60 : decode cX8_garnish 60 = .ok (.if_icmp .ne 14, 3) := by decide +kernel
theorem dX8_garnish_63 : decode cX8_garnish 63 = .ok (.iload_n 3, 1) := by decide +kernel
theorem dX8_garnish_64 : decode cX8_garnish 64 = .ok (.aload 8, 2) := by decide +kernel
theorem dX8_garnish_66 : decode cX8_garnish 66 = .ok (.iload_n 2, 1) := by decide +kernel
theorem dX8_garnish_67 : decode cX8_garnish 67 = .ok (.iload_n 3, 1) := by decide +kernel
theorem dX8_garnish_68 : decode cX8_garnish 68 = .ok (.isub, 1) := by decide +kernel
theorem dX8_garnish_69 : decode cX8_garnish 69 = .ok (.invokevirtual 259, 3) := by decide +kernel
theorem dX8_garnish_72 : decode cX8_garnish 72 = .ok (.iadd, 1) := by decide +kernel
theorem dX8_garnish_73 : decode cX8_garnish 73 = .ok (.istore_n 3, 1) := by decide +kernel
theorem dX8_garnish_74 : decode cX8_garnish 74 = .ok (.iinc 7 1, 3) := by decide +kernel
theorem dX8_garnish_77 : decode cX8_garnish 77 = .ok (.goto (-52), 3) := by decide +kernel
theorem dX8_garnish_80 : decode cX8_garnish 80 = .ok (.iinc 4 1, 3) := by decide +kernel
theorem dX8_garnish_83 : decode cX8_garnish 83 = .ok (.goto (-78), 3) := by decide +kernel
theorem dX8_garnish_86 : decode cX8_garnish 86 = .ok (.iload_n 3, 1) := by decide +kernel
theorem dX8_garnish_87 : decode cX8_garnish 87 = .ok (.ireturn, 1) := by decide +kernel
