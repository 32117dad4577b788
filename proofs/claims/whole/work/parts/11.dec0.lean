theorem dX0_init_0 : decode cX0_init 0 = .ok (.aload_n 0, 1) := by decide +kernel
theorem dX0_init_1 : decode cX0_init 1 = .ok (.invokespecial 3, 3) := by decide +kernel
theorem dX0_init_4 : decode cX0_init 4 = .ok (.aload_n 0, 1) := by decide +kernel
theorem dX0_init_5 : decode cX0_init 5 = .ok (.sipush 4000, 3) := by decide +kernel
theorem dX0_init_8 : decode cX0_init 8 = .ok (.newarray .byte, 2) := by decide +kernel
theorem dX0_init_10 : decode cX0_init 10 = .ok (.putfield 9, 3) := by decide +kernel
theorem dX0_init_13 : decode cX0_init 13 = .ok (.return_, 1) := by decide +kernel
theorem dX0_empty_0 : decode cX0_empty 0 = .ok (.aload_n 0, 1) := by decide +kernel
theorem dX0_empty_1 : decode cX0_empty 1 = .ok (.iconst 0, 1) := by decide +kernel
theorem dX0_empty_2 : decode cX0_empty 2 = .ok (.putfield 15, 3) := by decide +kernel
theorem dX0_empty_5 : decode cX0_empty 5 = .ok (.aload_n 0, 1) := by decide +kernel
theorem dX0_empty_6 : decode cX0_empty 6 = .ok (.iconst 0, 1) := by decide +kernel
theorem dX0_empty_7 : decode cX0_empty 7 = .ok (.putfield 19, 3) := by decide +kernel
theorem dX0_empty_10 : decode cX0_empty 10 = .ok (.return_, 1) := by decide +kernel
theorem dX0_addCoins_0 : decode cX0_addCoins 0 = .ok (.iload_n 2, 1) := by decide +kernel
theorem dX0_addCoins_1 : decode cX0_addCoins 1 = .ok (.iconst 1, 1) := by decide +kernel
theorem dX0_addCoins_2 : decode cX0_addCoins 2 = .ok (.isub, 1) := by decide +kernel
theorem dX0_addCoins_3 : decode cX0_addCoins 3 = .ok (.istore_n 3, 1) := by decide +kernel
theorem dX0_addCoins_4 : decode cX0_addCoins 4 = .ok (.iload_n 3, 1) := by decide +kernel
theorem dX0_addCoins_5 : decode cX0_addCoins 5 = .ok (.ifCond .lt 43, 3) := by decide +kernel
theorem dX0_addCoins_8 : decode cX0_addCoins 8 = .ok (.aload_n 0, 1) := by decide +kernel
theorem dX0_addCoins_9 : decode cX0_addCoins 9 = .ok (.getfield 9, 3) := by decide +kernel
theorem dX0_addCoins_12 : decode cX0_addCoins 12 = .ok (.aload_n 0, 1) := by decide +kernel
theorem dX0_addCoins_13 : decode cX0_addCoins 13 = .ok (.getfield 15, 3) := by decide +kernel
theorem dX0_addCoins_16 : decode cX0_addCoins 16 = .ok (.aload_n 0, 1) := by decide +kernel
theorem dX0_addCoins_17 : decode cX0_addCoins 17 = .ok (.getfield 19, 3) := by decide +kernel
theorem dX0_addCoins_20 : decode cX0_addCoins 20 = .ok (.iadd, 1) := by decide +kernel
theorem dX0_addCoins_21 : decode cX0_addCoins 21 = .ok (.sipush 4000, 3) := by decide +kernel
theorem dX0_addCoins_24 : decode cX0_addCoins 24 = .ok (.irem, 1) := by decide +kernel
theorem dX0_addCoins_25 : decode cX0_addCoins 25 = .ok (.iload_n 1, 1) := by decide +kernel
theorem dX0_addCoins_26 : decode cX0_addCoins 26 = .ok (.iload_n 3, 1) := by decide +kernel
theorem dX0_addCoins_27 : decode cX0_addCoins 27 = .ok (.iushr, 1) := by decide +kernel
theorem dX0_addCoins_28 : decode cX0_addCoins 28 = .ok (.iconst 1, 1) := by decide +kernel
theorem dX0_addCoins_29 : decode cX0_addCoins 29 = .ok (.iand, 1) := by decide +kernel
theorem dX0_addCoins_30 : decode cX0_addCoins 30 = .ok (.i2b, 1) := by decide +kernel
theorem dX0_addCoins_31 : decode cX0_addCoins 31 = .ok (.bastore, 1) := by decide +kernel
theorem dX0_addCoins_32 : decode cX0_addCoins 32 = .ok (.aload_n 0, 1) := by decide +kernel
theorem dX0_addCoins_33 : decode cX0_addCoins 33 = .ok (.dup, 1) := by decide +kernel
theorem dX0_addCoins_34 : decode cX0_addCoins 34 = .ok (.getfield 19, 3) := by decide +kernel
theorem dX0_addCoins_37 : decode cX0_addCoins 37 = .ok (.iconst 1, 1) := by decide +kernel
theorem dX0_addCoins_38 : decode cX0_addCoins 38 = .ok (.iadd, 1) := by decide +kernel
theorem dX0_addCoins_39 : decode cX0_addCoins 39 = .ok (.putfield 19, 3) := by decide +kernel
theorem dX0_addCoins_42 : decode cX0_addCoins 42 = .ok (.iinc 3 (-1), 3) := by decide +kernel
theorem dX0_addCoins_45 : decode cX0_addCoins 45 = .ok (.goto (-41), 3) := by decide +kernel
theorem dX0_addCoins_48 : decode cX0_addCoins 48 = .ok (.aload_n 0, 1) := by decide +kernel
theorem dX0_addCoins_49 : decode cX0_addCoins 49 = .ok (.getfield 19, 3) := by decide +kernel
theorem dX0_addCoins_52 : decode cX0_addCoins 52 = .ok (.ireturn, 1) := by decide +kernel
theorem dX0_take_0 : decode cX0_take 0 = .ok (.iconst 0, 1) := by decide +kernel
theorem dX0_take_1 : decode cX0_take 1 = .ok (.istore_n 2, 1) := by decide +kernel
theorem dX0_take_2 : decode cX0_take 2 = .ok (.iconst 0, 1) := by decide +kernel
theorem dX0_take_3 : decode cX0_take 3 = .ok (.istore_n 3, 1) := by decide +kernel
theorem dX0_take_4 : decode cX0_take 4 = .ok (.iload_n 3, 1) := by decide +kernel
theorem dX0_take_5 : decode cX0_take 5 = .ok (.iload_n 1, 1) := by decide +kernel
theorem dX0_take_6 : decode cX0_take 6 = .ok (.if_icmp .ge 37, 3) := by decide +kernel
theorem dX0_take_9 : decode cX0_take 9 = .ok (.iload_n 2, 1) := by decide +kernel
theorem dX0_take_10 : decode cX0_take 10 = .ok (.iconst 2, 1) := by decide +kernel
theorem dX0_take_11 : decode cX0_take 11 = .ok (.imul, 1) := by decide +kernel
theorem dX0_take_12 : decode cX0_take 12 = .ok (.aload_n 0, 1) := by decide +kernel
theorem dX0_take_13 : decode cX0_take 13 = .ok (.getfield 9, 3) := by decide +kernel
theorem dX0_take_16 : decode cX0_take 16 = .ok (.aload_n 0, 1) := by decide +kernel
theorem dX0_take_17 : decode cX0_take 17 = .ok (.getfield 15, 3) := by decide +kernel
theorem dX0_take_20 : decode cX0_take 20 = .ok (.baload, 1) := by decide +kernel
theorem dX0_take_21 : decode cX0_take 21 = .ok (.iadd, 1) := by decide +kernel
theorem dX0_take_22 : decode cX0_take 22 = .ok (.istore_n 2, 1) := by decide +kernel
theorem dX0_take_23 : decode cX0_take 23 = .ok (.aload_n 0, 1) := by decide +kernel
theorem dX0_take_24 : decode cX0_take 24 = .ok (.aload_n 0, 1) := by decide +kernel
theorem dX0_take_25 : decode cX0_take 25 = .ok (.getfield 15, 3) := by decide +kernel
theorem dX0_take_28 : decode cX0_take 28 = .ok (.iconst 1, 1) := by decide +kernel
theorem dX0_take_29 : decode cX0_take 29 = .ok (.iadd, 1) := by decide +kernel
theorem dX0_take_30 : decode cX0_take 30 = .ok (.sipush 4000, 3) := by decide +kernel
theorem dX0_take_33 : decode cX0_take 33 = .ok (.irem, 1) := by decide +kernel
theorem dX0_take_34 : decode cX0_take 34 = .ok (.putfield 15, 3) := by decide +kernel
theorem dX0_take_37 : decode cX0_take 37 = .ok (.iinc 3 1, 3) := by decide +kernel
theorem dX0_take_40 : decode cX0_take 40 = .ok (.goto (-36), 3) := by decide +kernel
theorem dX0_take_43 : decode cX0_take 43 = .ok (.aload_n 0, 1) := by decide +kernel
theorem dX0_take_44 : decode cX0_take 44 = .ok (.dup, 1) := by decide +kernel
theorem dX0_take_45 : decode cX0_take 45 = .ok (.getfield 19, 3) := by decide +kernel
theorem dX0_take_48 : decode cX0_take 48 = .ok (.iload_n 1, 1) := by decide +kernel
theorem dX0_take_49 : decode cX0_take 49 = .ok (.isub, 1) := by decide +kernel
theorem dX0_take_50 : decode cX0_take 50 = .ok (.putfield 19, 3) := by decide +kernel
theorem dX0_take_53 : decode cX0_take 53 = .ok (.iload_n 2, 1) := by decide +kernel
theorem dX0_take_54 : decode cX0_take 54 = .ok (.ireturn, 1) := by decide +kernel
theorem dX1_init_0 : decode cX1_init 0 = .ok (.aload_n 0, 1) := by decide +kernel
theorem dX1_init_1 : decode cX1_init 1 = .ok (.invokespecial 3, 3) := by decide +kernel
theorem dX1_init_4 : decode cX1_init 4 = .ok (.aload_n 0, 1) := by decide +kernel
theorem dX1_init_5 : decode cX1_init 5 = .ok (.sipush 200, 3) := by decide +kernel
theorem dX1_init_8 : decode cX1_init 8 = .ok (.newarray .int, 2) := by decide +kernel
theorem dX1_init_10 : decode cX1_init 10 = .ok (.putfield 9, 3) := by decide +kernel
theorem dX1_init_13 : decode cX1_init 13 = .ok (.aload_n 0, 1) := by decide +kernel
theorem dX1_init_14 : decode cX1_init 14 = .ok (.sipush 200, 3) := by decide +kernel
theorem dX1_init_17 : decode cX1_init 17 = .ok (.newarray .int, 2) := by decide +kernel
theorem dX1_init_19 : decode cX1_init 19 = .ok (.putfield 15, 3) := by decide +kernel
theorem dX1_init_22 : decode cX1_init 22 = .ok (.aload_n 0, 1) := by decide +kernel
theorem dX1_init_23 : decode cX1_init 23 = .ok (.sipush 200, 3) := by decide +kernel
theorem dX1_init_26 : decode cX1_init 26 = .ok (.newarray .int, 2) := by decide +kernel
theorem dX1_init_28 : decode cX1_init 28 = .ok (.putfield 18, 3) := by decide +kernel
theorem dX1_init_31 : decode cX1_init 31 = .ok (.aload_n 0, 1) := by decide +kernel
theorem dX1_init_32 : decode cX1_init 32 = .ok (.bipush 8, 2) := by decide +kernel
theorem dX1_init_34 : decode cX1_init 34 = .ok (.newarray .int, 2) := by decide +kernel
theorem dX1_init_36 : decode cX1_init 36 = .ok (.putfield 21, 3) := by decide +kernel
theorem dX1_init_39 : decode cX1_init 39 = .ok (.return_, 1) := by decide +kernel
theorem dX1_empty_0 : decode cX1_empty 0 = .ok (.aload_n 0, 1) := by decide +kernel
theorem dX1_empty_1 : decode cX1_empty 1 = .ok (.iconst 0, 1) := by decide +kernel
theorem dX1_empty_2 : decode cX1_empty 2 = .ok (.putfield 24, 3) := by decide +kernel
theorem dX1_empty_5 : decode cX1_empty 5 = .ok (.aload_n 0, 1) := by decide +kernel
theorem dX1_empty_6 : decode cX1_empty 6 = .ok (.iconst 0, 1) := by decide +kernel
theorem dX1_empty_7 : decode cX1_empty 7 = .ok (.putfield 28, 3) := by decide +kernel
theorem dX1_empty_10 : decode cX1_empty 10 = .ok (.aload_n 0, 1) := by decide +kernel
theorem dX1_empty_11 : decode cX1_empty 11 = .ok (.iconst 0, 1) := by decide +kernel
theorem dX1_empty_12 : decode cX1_empty 12 = .ok (.putfield 31, 3) := by decide +kernel
theorem dX1_empty_15 : decode cX1_empty 15 = .ok (.iconst 0, 1) := by decide +kernel
theorem dX1_empty_16 : decode cX1_empty 16 = .ok (.istore_n 1, 1) := by decide +kernel
theorem dX1_empty_17 : decode cX1_empty 17 = .ok (.iload_n 1, 1) := by decide +kernel
theorem dX1_empty_18 : decode cX1_empty 18 = .ok (.bipush 8, 2) := by decide +kernel
theorem dX1_empty_20 : decode cX1_empty 20 = .ok (.if_icmp .ge 16, 3) := by decide +kernel
theorem dX1_empty_23 : decode cX1_empty 23 = .ok (.aload_n 0, 1) := by decide +kernel
theorem dX1_empty_24 : decode cX1_empty 24 = .ok (.getfield 21, 3) := by decide +kernel
theorem dX1_empty_27 : decode cX1_empty 27 = .ok (.iload_n 1, 1) := by decide +kernel
theorem dX1_empty_28 : decode cX1_empty 28 = .ok (.iconst 0, 1) := by decide +kernel
theorem dX1_empty_29 : decode cX1_empty 29 = .ok (.iastore, 1) := by decide +kernel
theorem dX1_empty_30 : decode cX1_empty 30 = .ok (.iinc 1 1, 3) := by decide +kernel
theorem dX1_empty_33 : decode cX1_empty 33 = .ok (.goto (-16), 3) := by decide +kernel
theorem dX1_empty_36 : decode cX1_empty 36 = .ok (.return_, 1) := by decide +kernel
theorem dX1_addBlank_0 : decode cX1_addBlank 0 = .ok (.aload_n 0, 1) := by decide +kernel
theorem dX1_addBlank_1 : decode cX1_addBlank 1 = .ok (.dup, 1) := by decide +kernel
theorem dX1_addBlank_2 : decode cX1_addBlank 2 = .ok (.getfield 28, 3) := by decide +kernel
theorem dX1_addBlank_5 : decode cX1_addBlank 5 = .ok (.iconst 1, 1) := by decide +kernel
theorem dX1_addBlank_6 : decode cX1_addBlank 6 = .ok (.iadd, 1) := by decide +kernel
theorem dX1_addBlank_7 : decode cX1_addBlank 7 = .ok (.putfield 28, 3) := by decide +kernel
theorem dX1_addBlank_10 : decode cX1_addBlank 10 = .ok (.aload_n 0, 1) := by decide +kernel
theorem dX1_addBlank_11 : decode cX1_addBlank 11 = .ok (.dup, 1) := by decide +kernel
theorem dX1_addBlank_12 : decode cX1_addBlank 12 = .ok (.getfield 31, 3) := by decide +kernel
theorem dX1_addBlank_15 : decode cX1_addBlank 15 = .ok (.iconst 1, 1) := by decide +kernel
theorem dX1_addBlank_16 : decode cX1_addBlank 16 = .ok (.iadd, 1) := by decide +kernel
theorem dX1_addBlank_17 : decode cX1_addBlank 17 = .ok (.putfield 31, 3) := by decide +kernel
theorem dX1_addBlank_20 : decode cX1_addBlank 20 = .ok (.return_, 1) := by decide +kernel
theorem dX1_addDraw_0 : decode cX1_addDraw 0 = .ok (.aload_n 0, 1) := by decide +kernel
theorem dX1_addDraw_1 : decode cX1_addDraw 1 = .ok (.dup, 1) := by decide +kernel
theorem dX1_addDraw_2 : decode cX1_addDraw 2 = .ok (.getfield 28, 3) := by decide +kernel
theorem dX1_addDraw_5 : decode cX1_addDraw 5 = .ok (.iconst 1, 1) := by decide +kernel
theorem dX1_addDraw_6 : decode cX1_addDraw 6 = .ok (.iadd, 1) := by decide +kernel
theorem dX1_addDraw_7 : decode cX1_addDraw 7 = .ok (.putfield 28, 3) := by decide +kernel
theorem dX1_addDraw_10 : decode cX1_addDraw 10 = .ok (.aload_n 0, 1) := by decide +kernel
theorem dX1_addDraw_11 : decode cX1_addDraw 11 = .ok (.iload_n 1, 1) := by decide +kernel
theorem dX1_addDraw_12 : decode cX1_addDraw 12 = .ok (.invokevirtual 34, 3) := by decide +kernel
theorem dX1_addDraw_15 : decode cX1_addDraw 15 = .ok (.istore_n 2, 1) := by decide +kernel
theorem dX1_addDraw_16 : decode cX1_addDraw 16 = .ok (.iload_n 2, 1) := by decide +kernel
theorem dX1_addDraw_17 : decode cX1_addDraw 17 = .ok (.iconst (-1), 1) := by decide +kernel
theorem dX1_addDraw_18 : decode cX1_addDraw 18 = .ok (.if_icmp .ne 50, 3) := by decide +kernel
theorem dX1_addDraw_21 : decode cX1_addDraw 21 = .ok (.aload_n 0, 1) := by decide +kernel
theorem dX1_addDraw_22 : decode cX1_addDraw 22 = .ok (.getfield 24, 3) := by decide +kernel
theorem dX1_addDraw_25 : decode cX1_addDraw 25 = .ok (.sipush 200, 3) := by decide +kernel
theorem dX1_addDraw_28 : decode cX1_addDraw 28 = .ok (.if_icmp .ge 40, 3) := by decide +kernel
theorem dX1_addDraw_31 : decode cX1_addDraw 31 = .ok (.aload_n 0, 1) := by decide +kernel
theorem dX1_addDraw_32 : decode cX1_addDraw 32 = .ok (.getfield 24, 3) := by decide +kernel
theorem dX1_addDraw_35 : decode cX1_addDraw 35 = .ok (.istore_n 2, 1) := by decide +kernel
theorem dX1_addDraw_36 : decode cX1_addDraw 36 = .ok (.aload_n 0, 1) := by decide +kernel
theorem dX1_addDraw_37 : decode cX1_addDraw 37 = .ok (.getfield 9, 3) := by decide +kernel
theorem dX1_addDraw_40 : decode cX1_addDraw 40 = .ok (.iload_n 2, 1) := by decide +kernel
theorem dX1_addDraw_41 : decode cX1_addDraw 41 = .ok (.iload_n 1, 1) := by decide +kernel
theorem dX1_addDraw_42 : decode cX1_addDraw 42 = .ok (.iastore, 1) := by decide +kernel
theorem dX1_addDraw_43 : decode cX1_addDraw 43 = .ok (.aload_n 0, 1) := by decide +kernel
theorem dX1_addDraw_44 : decode cX1_addDraw 44 = .ok (.getfield 15, 3) := by decide +kernel
theorem dX1_addDraw_47 : decode cX1_addDraw 47 = .ok (.iload_n 2, 1) := by decide +kernel
theorem dX1_addDraw_48 : decode cX1_addDraw 48 = .ok (.bipush (-2), 2) := by decide +kernel
theorem dX1_addDraw_50 : decode cX1_addDraw 50 = .ok (.iastore, 1) := by decide +kernel
theorem dX1_addDraw_51 : decode cX1_addDraw 51 = .ok (.aload_n 0, 1) := by decide +kernel
theorem dX1_addDraw_52 : decode cX1_addDraw 52 = .ok (.getfield 18, 3) := by decide +kernel
theorem dX1_addDraw_55 : decode cX1_addDraw 55 = .ok (.iload_n 2, 1) := by decide +kernel
theorem dX1_addDraw_56 : decode cX1_addDraw 56 = .ok (.iconst 0, 1) := by decide +kernel
theorem dX1_addDraw_57 : decode cX1_addDraw 57 = .ok (.iastore, 1) := by decide +kernel
theorem dX1_addDraw_58 : decode cX1_addDraw 58 = .ok (.aload_n 0, 1) := by decide +kernel
theorem dX1_addDraw_59 : decode cX1_addDraw 59 = .ok (.dup, 1) := by decide +kernel
theorem dX1_addDraw_60 : decode cX1_addDraw 60 = .ok (.getfield 24, 3) := by decide +kernel
theorem dX1_addDraw_63 : decode cX1_addDraw 63 = .ok (.iconst 1, 1) := by decide +kernel
theorem dX1_addDraw_64 : decode cX1_addDraw 64 = .ok (.iadd, 1) := by decide +kernel
theorem dX1_addDraw_65 : decode cX1_addDraw 65 = .ok (.putfield 24, 3) := by decide +kernel
theorem dX1_addDraw_68 : decode cX1_addDraw 68 = .ok (.aload_n 0, 1) := by decide +kernel
theorem dX1_addDraw_69 : decode cX1_addDraw 69 = .ok (.iload_n 2, 1) := by decide +kernel
theorem dX1_addDraw_70 : decode cX1_addDraw 70 = .ok (.invokevirtual 38, 3) := by decide +kernel
theorem dX1_addDraw_73 : decode cX1_addDraw 73 = .ok (.ifCond .eq 13, 3) := by decide +kernel
theorem dX1_addDraw_76 : decode cX1_addDraw 76 = .ok (.aload_n 0, 1) := by decide +kernel
theorem dX1_addDraw_77 : decode cX1_addDraw 77 = .ok (.getfield 18, 3) := by decide +kernel
theorem dX1_addDraw_80 : decode cX1_addDraw 80 = .ok (.iload_n 2, 1) := by decide +kernel
theorem dX1_addDraw_81 : decode cX1_addDraw 81 = .ok (.dup2, 1) := by decide +kernel
theorem dX1_addDraw_82 : decode cX1_addDraw 82 = .ok (.iaload, 1) := by decide +kernel
theorem dX1_addDraw_83 : decode cX1_addDraw 83 = .ok (.iconst 1, 1) := by decide +kernel
theorem dX1_addDraw_84 : decode cX1_addDraw 84 = .ok (.iadd, 1) := by decide +kernel
theorem dX1_addDraw_85 : decode cX1_addDraw 85 = .ok (.iastore, 1) := by decide +kernel
theorem dX1_addDraw_86 : decode cX1_addDraw 86 = .ok (.iload_n 2, 1) := by decide +kernel
theorem dX1_addDraw_87 : decode cX1_addDraw 87 = .ok (.ireturn, 1) := by decide +kernel
theorem dX1_seeLast_0 : decode cX1_seeLast 0 = .ok (.aload_n 0, 1) := by decide +kernel
theorem dX1_seeLast_1 : decode cX1_seeLast 1 = .ok (.getfield 24, 3) := by decide +kernel
theorem dX1_seeLast_4 : decode cX1_seeLast 4 = .ok (.iconst 1, 1) := by decide +kernel
theorem dX1_seeLast_5 : decode cX1_seeLast 5 = .ok (.isub, 1) := by decide +kernel
theorem dX1_seeLast_6 : decode cX1_seeLast 6 = .ok (.istore_n 2, 1) := by decide +kernel
theorem dX1_seeLast_7 : decode cX1_seeLast 7 = .ok (.aload_n 0, 1) := by decide +kernel
theorem dX1_seeLast_8 : decode cX1_seeLast 8 = .ok (.iload_n 2, 1) := by decide +kernel
theorem dX1_seeLast_9 : decode cX1_seeLast 9 = .ok (.invokevirtual 38, 3) := by decide +kernel
theorem dX1_seeLast_12 : decode cX1_seeLast 12 = .ok (.ifCond .eq 10, 3) := by decide +kernel
theorem dX1_seeLast_15 : decode cX1_seeLast 15 = .ok (.aload_n 0, 1) := by decide +kernel
theorem dX1_seeLast_16 : decode cX1_seeLast 16 = .ok (.getfield 15, 3) := by decide +kernel
theorem dX1_seeLast_19 : decode cX1_seeLast 19 = .ok (.iload_n 2, 1) := by decide +kernel
theorem dX1_seeLast_20 : decode cX1_seeLast 20 = .ok (.iload_n 1, 1) := by decide +kernel
theorem dX1_seeLast_21 : decode cX1_seeLast 21 = .ok (.iastore, 1) := by decide +kernel
theorem dX1_seeLast_22 : decode cX1_seeLast 22 = .ok (.iload_n 2, 1) := by decide +kernel
theorem dX1_seeLast_23 : decode cX1_seeLast 23 = .ok (.ireturn, 1) := by decide +kernel
theorem dX1_lastNew_0 : decode cX1_lastNew 0 = .ok (.aload_n 0, 1) := by decide +kernel
theorem dX1_lastNew_1 : decode cX1_lastNew 1 = .ok (.getfield 24, 3) := by decide +kernel
theorem dX1_lastNew_4 : decode cX1_lastNew 4 = .ok (.iconst 1, 1) := by decide +kernel
theorem dX1_lastNew_5 : decode cX1_lastNew 5 = .ok (.if_icmp .ge 7, 3) := by decide +kernel
theorem dX1_lastNew_8 : decode cX1_lastNew 8 = .ok (.iconst (-1), 1) := by decide +kernel
theorem dX1_lastNew_9 : decode cX1_lastNew 9 = .ok (.goto 14, 3) := by decide +kernel
theorem dX1_lastNew_12 : decode cX1_lastNew 12 = .ok (.aload_n 0, 1) := by decide +kernel
theorem dX1_lastNew_13 : decode cX1_lastNew 13 = .ok (.getfield 9, 3) := by decide +kernel
theorem dX1_lastNew_16 : decode cX1_lastNew 16 = .ok (.aload_n 0, 1) := by decide +kernel
theorem dX1_lastNew_17 : decode cX1_lastNew 17 = .ok (.getfield 24, 3) := by decide +kernel
theorem dX1_lastNew_20 : decode cX1_lastNew 20 = .ok (.iconst 1, 1) := by decide +kernel
theorem dX1_lastNew_21 : decode cX1_lastNew 21 = .ok (.isub, 1) := by decide +kernel
theorem dX1_lastNew_22 : decode cX1_lastNew 22 = .ok (.iaload, 1) := by decide +kernel
theorem dX1_lastNew_23 : decode cX1_lastNew 23 = .ok (.ireturn, 1) := by decide +kernel
theorem dX1_countFor_0 : decode cX1_countFor 0 = .ok (.aload_n 0, 1) := by decide +kernel
theorem dX1_countFor_1 : decode cX1_countFor 1 = .ok (.iload_n 1, 1) := by decide +kernel
theorem dX1_countFor_2 : decode cX1_countFor 2 = .ok (.invokevirtual 42, 3) := by decide +kernel
theorem dX1_countFor_5 : decode cX1_countFor 5 = .ok (.istore_n 2, 1) := by decide +kernel
theorem dX1_countFor_6 : decode cX1_countFor 6 = .ok (.iload_n 2, 1) := by decide +kernel
theorem dX1_countFor_7 : decode cX1_countFor 7 = .ok (.ifCond .lt 19, 3) := by decide +kernel
theorem dX1_countFor_10 : decode cX1_countFor 10 = .ok (.iload_n 2, 1) := by decide +kernel
theorem dX1_countFor_11 : decode cX1_countFor 11 = .ok (.bipush 8, 2) := by decide +kernel
theorem dX1_countFor_13 : decode cX1_countFor 13 = .ok (.if_icmp .ge 13, 3) := by decide +kernel
theorem dX1_countFor_16 : decode cX1_countFor 16 = .ok (.aload_n 0, 1) := by decide +kernel
theorem dX1_countFor_17 : decode cX1_countFor 17 = .ok (.getfield 21, 3) := by decide +kernel
theorem dX1_countFor_20 : decode cX1_countFor 20 = .ok (.iload_n 2, 1) := by decide +kernel
theorem dX1_countFor_21 : decode cX1_countFor 21 = .ok (.dup2, 1) := by decide +kernel
theorem dX1_countFor_22 : decode cX1_countFor 22 = .ok (.iaload, 1) := by decide +kernel
theorem dX1_countFor_23 : decode cX1_countFor 23 = .ok (.iconst 1, 1) := by decide +kernel
theorem dX1_countFor_24 : decode cX1_countFor 24 = .ok (.iadd, 1) := by decide +kernel
theorem dX1_countFor_25 : decode cX1_countFor 25 = .ok (.iastore, 1) := by decide +kernel
theorem dX1_countFor_26 : decode cX1_countFor 26 = .ok (.iload_n 2, 1) := by decide +kernel
theorem dX1_countFor_27 : decode cX1_countFor 27 = .ok (.ireturn, 1) := by decide +kernel
theorem dX1_placeOf_0 : decode cX1_placeOf 0 = .ok (.iconst 0, 1) := by decide +kernel
theorem dX1_placeOf_1 : decode cX1_placeOf 1 = .ok (.istore_n 2, 1) := by decide +kernel
theorem dX1_placeOf_2 : decode cX1_placeOf 2 = .ok (.iload_n 2, 1) := by decide +kernel
theorem dX1_placeOf_3 : decode cX1_placeOf 3 = .ok (.aload_n 0, 1) := by decide +kernel
theorem dX1_placeOf_4 : decode cX1_placeOf 4 = .ok (.getfield 24, 3) := by decide +kernel
theorem dX1_placeOf_7 : decode cX1_placeOf 7 = .ok (.if_icmp .ge 21, 3) := by decide +kernel
theorem dX1_placeOf_10 : decode cX1_placeOf 10 = .ok (.aload_n 0, 1) := by decide +kernel
theorem dX1_placeOf_11 : decode cX1_placeOf 11 = .ok (.getfield 9, 3) := by decide +kernel
theorem dX1_placeOf_14 : decode cX1_placeOf 14 = .ok (.iload_n 2, 1) := by decide +kernel
theorem dX1_placeOf_15 : decode cX1_placeOf 15 = .ok (.iaload, 1) := by decide +kernel
theorem dX1_placeOf_16 : decode cX1_placeOf 16 = .ok (.iload_n 1, 1) := by decide +kernel
theorem dX1_placeOf_17 : decode cX1_placeOf 17 = .ok (.if_icmp .ne 5, 3) := by decide +kernel
theorem dX1_placeOf_20 : decode cX1_placeOf 20 = .ok (.iload_n 2, 1) := by decide +kernel
theorem dX1_placeOf_21 : decode cX1_placeOf 21 = .ok (.ireturn, 1) := by decide +kernel
theorem dX1_placeOf_22 : decode cX1_placeOf 22 = .ok (.iinc 2 1, 3) := by decide +kernel
theorem dX1_placeOf_25 : decode cX1_placeOf 25 = .ok (.goto (-23), 3) := by decide +kernel
theorem dX1_placeOf_28 : decode cX1_placeOf 28 = .ok (.iconst (-1), 1) := by decide +kernel
theorem dX1_placeOf_29 : decode cX1_placeOf 29 = .ok (.ireturn, 1) := by decide +kernel
theorem dX1_ballotAt_0 : decode cX1_ballotAt 0 = .ok (.aload_n 0, 1) := by decide +kernel
theorem dX1_ballotAt_1 : decode cX1_ballotAt 1 = .ok (.iload_n 1, 1) := by decide +kernel
theorem dX1_ballotAt_2 : decode cX1_ballotAt 2 = .ok (.invokevirtual 38, 3) := by decide +kernel
theorem dX1_ballotAt_5 : decode cX1_ballotAt 5 = .ok (.ifCond .eq 12, 3) := by decide +kernel
theorem dX1_ballotAt_8 : decode cX1_ballotAt 8 = .ok (.aload_n 0, 1) := by decide +kernel
theorem dX1_ballotAt_9 : decode cX1_ballotAt 9 = .ok (.getfield 9, 3) := by decide +kernel
theorem dX1_ballotAt_12 : decode cX1_ballotAt 12 = .ok (.iload_n 1, 1) := by decide +kernel
theorem dX1_ballotAt_13 : decode cX1_ballotAt 13 = .ok (.iaload, 1) := by decide +kernel
theorem dX1_ballotAt_14 : decode cX1_ballotAt 14 = .ok (.goto 4, 3) := by decide +kernel
theorem dX1_ballotAt_17 : decode cX1_ballotAt 17 = .ok (.iconst 0, 1) := by decide +kernel
theorem dX1_ballotAt_18 : decode cX1_ballotAt 18 = .ok (.ireturn, 1) := by decide +kernel
theorem dX1_seen_0 : decode cX1_seen 0 = .ok (.aload_n 0, 1) := by decide +kernel
theorem dX1_seen_1 : decode cX1_seen 1 = .ok (.iload_n 1, 1) := by decide +kernel
theorem dX1_seen_2 : decode cX1_seen 2 = .ok (.invokevirtual 38, 3) := by decide +kernel
theorem dX1_seen_5 : decode cX1_seen 5 = .ok (.ifCond .eq 12, 3) := by decide +kernel
theorem dX1_seen_8 : decode cX1_seen 8 = .ok (.aload_n 0, 1) := by decide +kernel
theorem dX1_seen_9 : decode cX1_seen 9 = .ok (.getfield 15, 3) := by decide +kernel
theorem dX1_seen_12 : decode cX1_seen 12 = .ok (.iload_n 1, 1) := by decide +kernel
theorem dX1_seen_13 : decode cX1_seen 13 = .ok (.iaload, 1) := by decide +kernel
theorem dX1_seen_14 : decode cX1_seen 14 = .ok (.goto 5, 3) := by decide +kernel
theorem dX1_seen_17 : decode cX1_seen 17 = .ok (.bipush (-2), 2) := by decide +kernel
theorem dX1_seen_19 : decode cX1_seen 19 = .ok (.ireturn, 1) := by decide +kernel
theorem dX1_times_0 : decode cX1_times 0 = .ok (.aload_n 0, 1) := by decide +kernel
theorem dX1_times_1 : decode cX1_times 1 = .ok (.iload_n 1, 1) := by decide +kernel
theorem dX1_times_2 : decode cX1_times 2 = .ok (.invokevirtual 38, 3) := by decide +kernel
theorem dX1_times_5 : decode cX1_times 5 = .ok (.ifCond .eq 12, 3) := by decide +kernel
theorem dX1_times_8 : decode cX1_times 8 = .ok (.aload_n 0, 1) := by decide +kernel
theorem dX1_times_9 : decode cX1_times 9 = .ok (.getfield 18, 3) := by decide +kernel
theorem dX1_times_12 : decode cX1_times 12 = .ok (.iload_n 1, 1) := by decide +kernel
theorem dX1_times_13 : decode cX1_times 13 = .ok (.iaload, 1) := by decide +kernel
theorem dX1_times_14 : decode cX1_times 14 = .ok (.goto 4, 3) := by decide +kernel
theorem dX1_times_17 : decode cX1_times 17 = .ok (.iconst 0, 1) := by decide +kernel
theorem dX1_times_18 : decode cX1_times 18 = .ok (.ireturn, 1) := by decide +kernel
theorem dX1_isPlace_0 : decode cX1_isPlace 0 = .ok (.iload_n 1, 1) := by decide +kernel
theorem dX1_isPlace_1 : decode cX1_isPlace 1 = .ok (.ifCond .lt 15, 3) := by decide +kernel
theorem dX1_isPlace_4 : decode cX1_isPlace 4 = .ok (.iload_n 1, 1) := by decide +kernel
theorem dX1_isPlace_5 : decode cX1_isPlace 5 = .ok (.aload_n 0, 1) := by decide +kernel
theorem dX1_isPlace_6 : decode cX1_isPlace 6 = .ok (.getfield 24, 3) := by decide +kernel
theorem dX1_isPlace_9 : decode cX1_isPlace 9 = .ok (.if_icmp .ge 7, 3) := by decide +kernel
theorem dX1_isPlace_12 : decode cX1_isPlace 12 = .ok (.iconst 1, 1) := by decide +kernel
theorem dX1_isPlace_13 : decode cX1_isPlace 13 = .ok (.goto 4, 3) := by decide +kernel
theorem dX1_isPlace_16 : decode cX1_isPlace 16 = .ok (.iconst 0, 1) := by decide +kernel
theorem dX1_isPlace_17 : decode cX1_isPlace 17 = .ok (.ireturn, 1) := by decide +kernel
theorem dX2_init_0 : decode cX2_init 0 = .ok (.aload_n 0, 1) := by decide +kernel
theorem dX2_init_1 : decode cX2_init 1 = .ok (.invokespecial 1, 3) := by decide +kernel
theorem dX2_init_4 : decode cX2_init 4 = .ok (.aload_n 0, 1) := by decide +kernel
theorem dX2_init_5 : decode cX2_init 5 = .ok (.new 7, 3) := by decide +kernel
theorem dX2_init_8 : decode cX2_init 8 = .ok (.dup, 1) := by decide +kernel
theorem dX2_init_9 : decode cX2_init 9 = .ok (.iload_n 1, 1) := by decide +kernel
theorem dX2_init_10 : decode cX2_init 10 = .ok (.invokespecial 9, 3) := by decide +kernel
theorem dX2_init_13 : decode cX2_init 13 = .ok (.putfield 12, 3) := by decide +kernel
theorem dX2_init_16 : decode cX2_init 16 = .ok (.aload_n 0, 1) := by decide +kernel
theorem dX2_init_17 : decode cX2_init 17 = .ok (.new 7, 3) := by decide +kernel
theorem dX2_init_20 : decode cX2_init 20 = .ok (.dup, 1) := by decide +kernel
theorem dX2_init_21 : decode cX2_init 21 = .ok (.iload_n 1, 1) := by decide +kernel
theorem dX2_init_22 : decode cX2_init 22 = .ok (.invokespecial 9, 3) := by decide +kernel
theorem dX2_init_25 : decode cX2_init 25 = .ok (.putfield 18, 3) := by decide +kernel
theorem dX2_init_28 : decode cX2_init 28 = .ok (.aload_n 0, 1) := by decide +kernel
theorem dX2_init_29 : decode cX2_init 29 = .ok (.getfield 18, 3) := by decide +kernel
theorem dX2_init_32 : decode cX2_init 32 = .ok (.lconst 1, 1) := by decide +kernel
theorem dX2_init_33 : decode cX2_init 33 = .ok (.invokevirtual 21, 3) := by decide +kernel
theorem dX2_init_36 : decode cX2_init 36 = .ok (.return_, 1) := by decide +kernel
theorem dX2_become_0 : decode cX2_become 0 = .ok (.aload_n 0, 1) := by decide +kernel
theorem dX2_become_1 : decode cX2_become 1 = .ok (.getfield 12, 3) := by decide +kernel
theorem dX2_become_4 : decode cX2_become 4 = .ok (.lconst 1, 1) := by decide +kernel
theorem dX2_become_5 : decode cX2_become 5 = .ok (.invokevirtual 21, 3) := by decide +kernel
theorem dX2_become_8 : decode cX2_become 8 = .ok (.aload_n 0, 1) := by decide +kernel
theorem dX2_become_9 : decode cX2_become 9 = .ok (.getfield 18, 3) := by decide +kernel
theorem dX2_become_12 : decode cX2_become 12 = .ok (.lconst 1, 1) := by decide +kernel
theorem dX2_become_13 : decode cX2_become 13 = .ok (.invokevirtual 21, 3) := by decide +kernel
theorem dX2_become_16 : decode cX2_become 16 = .ok (.aload_n 0, 1) := by decide +kernel
theorem dX2_become_17 : decode cX2_become 17 = .ok (.lload_n 1, 1) := by decide +kernel
theorem dX2_become_18 : decode cX2_become 18 = .ok (.lload_n 3, 1) := by decide +kernel
theorem dX2_become_19 : decode cX2_become 19 = .ok (.invokevirtual 25, 3) := by decide +kernel
theorem dX2_become_22 : decode cX2_become 22 = .ok (.return_, 1) := by decide +kernel
theorem dX2_becomeWhole_0 : decode cX2_becomeWhole 0 = .ok (.aload_n 0, 1) := by decide +kernel
theorem dX2_becomeWhole_1 : decode cX2_becomeWhole 1 = .ok (.getfield 12, 3) := by decide +kernel
theorem dX2_becomeWhole_4 : decode cX2_becomeWhole 4 = .ok (.aload_n 1, 1) := by decide +kernel
theorem dX2_becomeWhole_5 : decode cX2_becomeWhole 5 = .ok (.invokevirtual 29, 3) := by decide +kernel
theorem dX2_becomeWhole_8 : decode cX2_becomeWhole 8 = .ok (.aload_n 0, 1) := by decide +kernel
theorem dX2_becomeWhole_9 : decode cX2_becomeWhole 9 = .ok (.getfield 18, 3) := by decide +kernel
theorem dX2_becomeWhole_12 : decode cX2_becomeWhole 12 = .ok (.lconst 1, 1) := by decide +kernel
theorem dX2_becomeWhole_13 : decode cX2_becomeWhole 13 = .ok (.invokevirtual 21, 3) := by decide +kernel
theorem dX2_becomeWhole_16 : decode cX2_becomeWhole 16 = .ok (.return_, 1) := by decide +kernel
theorem dX2_becomeCopyOf_0 : decode cX2_becomeCopyOf 0 = .ok (.aload_n 0, 1) := by decide +kernel
theorem dX2_becomeCopyOf_1 : decode cX2_becomeCopyOf 1 = .ok (.getfield 12, 3) := by decide +kernel
theorem dX2_becomeCopyOf_4 : decode cX2_becomeCopyOf 4 = .ok (.aload_n 1, 1) := by decide +kernel
theorem dX2_becomeCopyOf_5 : decode cX2_becomeCopyOf 5 = .ok (.getfield 12, 3) := by decide +kernel
theorem dX2_becomeCopyOf_8 : decode cX2_becomeCopyOf 8 = .ok (.invokevirtual 29, 3) := by decide +kernel
theorem dX2_becomeCopyOf_11 : decode cX2_becomeCopyOf 11 = .ok (.aload_n 0, 1) := by decide +kernel
theorem dX2_becomeCopyOf_12 : decode cX2_becomeCopyOf 12 = .ok (.getfield 18, 3) := by decide +kernel
theorem dX2_becomeCopyOf_15 : decode cX2_becomeCopyOf 15 = .ok (.aload_n 1, 1) := by decide +kernel
theorem dX2_becomeCopyOf_16 : decode cX2_becomeCopyOf 16 = .ok (.getfield 18, 3) := by decide +kernel
theorem dX2_becomeCopyOf_19 : decode cX2_becomeCopyOf 19 = .ok (.invokevirtual 29, 3) := by decide +kernel
theorem dX2_becomeCopyOf_22 : decode cX2_becomeCopyOf 22 = .ok (.return_, 1) := by decide +kernel
theorem dX2_times_0 : decode cX2_times 0 = .ok (.lload_n 1, 1) := by decide +kernel
theorem dX2_times_1 : decode cX2_times 1 = .ok (.lconst 1, 1) := by decide +kernel
theorem dX2_times_2 : decode cX2_times 2 = .ok (.lcmp, 1) := by decide +kernel
theorem dX2_times_3 : decode cX2_times 3 = .ok (.ifCond .lt 9, 3) := by decide +kernel
theorem dX2_times_6 : decode cX2_times 6 = .ok (.lload_n 3, 1) := by decide +kernel
theorem dX2_times_7 : decode cX2_times 7 = .ok (.lconst 1, 1) := by decide +kernel
theorem dX2_times_8 : decode cX2_times 8 = .ok (.lcmp, 1) := by decide +kernel
theorem dX2_times_9 : decode cX2_times 9 = .ok (.ifCond .ge 20, 3) := by decide +kernel
theorem dX2_times_12 : decode cX2_times 12 = .ok (.aload_n 0, 1) := by decide +kernel
theorem dX2_times_13 : decode cX2_times 13 = .ok (.getfield 12, 3) := by decide +kernel
theorem dX2_times_16 : decode cX2_times 16 = .ok (.lconst 0, 1) := by decide +kernel
theorem dX2_times_17 : decode cX2_times 17 = .ok (.invokevirtual 21, 3) := by decide +kernel
theorem dX2_times_20 : decode cX2_times 20 = .ok (.aload_n 0, 1) := by decide +kernel
theorem dX2_times_21 : decode cX2_times 21 = .ok (.getfield 18, 3) := by decide +kernel
theorem dX2_times_24 : decode cX2_times 24 = .ok (.lconst 1, 1) := by decide +kernel
theorem dX2_times_25 : decode cX2_times 25 = .ok (.invokevirtual 21, 3) := by decide +kernel
theorem dX2_times_28 : decode cX2_times 28 = .ok (.return_, 1) := by decide +kernel
theorem dX2_times_29 : decode cX2_times 29 = .ok (.lload_n 1, 1) := by decide +kernel
theorem dX2_times_30 : decode cX2_times 30 = .ok (.lload_n 3, 1) := by decide +kernel
theorem dX2_times_31 : decode cX2_times 31 = .ok (.invokestatic 33, 3) := by decide +kernel
theorem dX2_times_34 : decode cX2_times 34 = .ok (.lstore 5, 2) := by decide +kernel
theorem dX2_times_36 : decode cX2_times 36 = .ok (.lload_n 1, 1) := by decide +kernel
theorem dX2_times_37 : decode cX2_times 37 = .ok (.lload 5, 2) := by decide +kernel
theorem dX2_times_39 : decode cX2_times 39 = .ok (.ldiv, 1) := by decide +kernel
theorem dX2_times_40 : decode cX2_times 40 = .ok (.lstore 7, 2) := by decide +kernel
theorem dX2_times_42 : decode cX2_times 42 = .ok (.lload_n 3, 1) := by decide +kernel
theorem dX2_times_43 : decode cX2_times 43 = .ok (.lload 5, 2) := by decide +kernel
theorem dX2_times_45 : decode cX2_times 45 = .ok (.ldiv, 1) := by decide +kernel
theorem dX2_times_46 : decode cX2_times 46 = .ok (.lstore 9, 2) := by decide +kernel
theorem dX2_times_48 : decode cX2_times 48 = .ok (.lload 9, 2) := by decide +kernel
theorem dX2_times_50 : decode cX2_times 50 = .ok (.aload_n 0, 1) := by decide +kernel
theorem dX2_times_51 : decode cX2_times 51 = .ok (.getfield 12, 3) := by decide +kernel
theorem dX2_times_54 : decode cX2_times 54 = .ok (.lload 9, 2) := by decide +kernel
theorem dX2_times_56 : decode cX2_times 56 = .ok (.invokevirtual 37, 3) := by decide +kernel
theorem dX2_times_59 : decode cX2_times 59 = .ok (.invokestatic 33, 3) := by decide +kernel
theorem dX2_times_62 : decode cX2_times 62 = .ok (.lstore 11, 2) := by decide +kernel
theorem dX2_times_64 : decode cX2_times 64 = .ok (.lload 7, 2) := by decide +kernel
theorem dX2_times_66 : decode cX2_times 66 = .ok (.aload_n 0, 1) := by decide +kernel
theorem dX2_times_67 : decode cX2_times 67 = .ok (.getfield 18, 3) := by decide +kernel
theorem dX2_times_70 : decode cX2_times 70 = .ok (.lload 7, 2) := by decide +kernel
theorem dX2_times_72 : decode cX2_times 72 = .ok (.invokevirtual 37, 3) := by decide +kernel
theorem dX2_times_75 : decode cX2_times 75 = .ok (.invokestatic 33, 3) := by decide +kernel
theorem dX2_times_78 : decode cX2_times 78 = .ok (.lstore 13, 2) := by decide +kernel
theorem dX2_times_80 : decode cX2_times 80 = .ok (.aload_n 0, 1) := by decide +kernel
theorem dX2_times_81 : decode cX2_times 81 = .ok (.getfield 12, 3) := by decide +kernel
theorem dX2_times_84 : decode cX2_times 84 = .ok (.lload 11, 2) := by decide +kernel
theorem dX2_times_86 : decode cX2_times 86 = .ok (.invokevirtual 41, 3) := by decide +kernel
theorem dX2_times_89 : decode cX2_times 89 = .ok (.aload_n 0, 1) := by decide +kernel
theorem dX2_times_90 : decode cX2_times 90 = .ok (.getfield 18, 3) := by decide +kernel
theorem dX2_times_93 : decode cX2_times 93 = .ok (.lload 13, 2) := by decide +kernel
theorem dX2_times_95 : decode cX2_times 95 = .ok (.invokevirtual 41, 3) := by decide +kernel
theorem dX2_times_98 : decode cX2_times 98 = .ok (.aload_n 0, 1) := by decide +kernel
theorem dX2_times_99 : decode cX2_times 99 = .ok (.getfield 12, 3) := by decide +kernel
theorem dX2_times_102 : decode cX2_times 102 = .ok (.lload 7, 2) := by decide +kernel
theorem dX2_times_104 : decode cX2_times 104 = .ok (.lload 13, 2) := by decide +kernel
theorem dX2_times_106 : decode cX2_times 106 = .ok (.ldiv, 1) := by decide +kernel
theorem dX2_times_107 : decode cX2_times 107 = .ok (.invokevirtual 44, 3) := by decide +kernel
theorem dX2_times_110 : decode cX2_times 110 = .ok (.aload_n 0, 1) := by decide +kernel
theorem dX2_times_111 : decode cX2_times 111 = .ok (.getfield 18, 3) := by decide +kernel
theorem dX2_times_114 : decode cX2_times 114 = .ok (.lload 9, 2) := by decide +kernel
theorem dX2_times_116 : decode cX2_times 116 = .ok (.lload 11, 2) := by decide +kernel
theorem dX2_times_118 : decode cX2_times 118 = .ok (.ldiv, 1) := by decide +kernel
theorem dX2_times_119 : decode cX2_times 119 = .ok (.invokevirtual 44, 3) := by decide +kernel
theorem dX2_times_122 : decode cX2_times 122 = .ok (.return_, 1) := by decide +kernel
theorem dX2_compareWith_0 : decode cX2_compareWith 0 = .ok (.aload_n 0, 1) := by decide +kernel
theorem dX2_compareWith_1 : decode cX2_compareWith 1 = .ok (.getfield 12, 3) := by decide +kernel
theorem dX2_compareWith_4 : decode cX2_compareWith 4 = .ok (.iload_n 2, 1) := by decide +kernel
theorem dX2_compareWith_5 : decode cX2_compareWith 5 = .ok (.aload_n 0, 1) := by decide +kernel
theorem dX2_compareWith_6 : decode cX2_compareWith 6 = .ok (.getfield 18, 3) := by decide +kernel
theorem dX2_compareWith_9 : decode cX2_compareWith 9 = .ok (.iload_n 1, 1) := by decide +kernel
theorem dX2_compareWith_10 : decode cX2_compareWith 10 = .ok (.invokestatic 47, 3) := by decide +kernel
theorem dX2_compareWith_13 : decode cX2_compareWith 13 = .ok (.ireturn, 1) := by decide +kernel
theorem dX2_commonDivisor_0 : decode cX2_commonDivisor 0 = .ok (.lload_n 0, 1) := by decide +kernel
theorem dX2_commonDivisor_1 : decode cX2_commonDivisor 1 = .ok (.lstore 4, 2) := by decide +kernel
theorem dX2_commonDivisor_3 : decode cX2_commonDivisor 3 = .ok (.lload_n 2, 1) := by decide +kernel
theorem dX2_commonDivisor_4 : decode cX2_commonDivisor 4 = .ok (.lstore 6, 2) := by decide +kernel
theorem dX2_commonDivisor_6 : decode cX2_commonDivisor 6 = .ok (.iconst 0, 1) := by decide +kernel
theorem dX2_commonDivisor_7 : decode cX2_commonDivisor 7 = .ok (.istore 8, 2) := by decide +kernel
theorem dX2_commonDivisor_9 : decode cX2_commonDivisor 9 = .ok (.iload 8, 2) := by decide +kernel
theorem dX2_commonDivisor_11 : decode cX2_commonDivisor 11 = .ok (.bipush 100, 2) := by decide +kernel
theorem dX2_commonDivisor_13 : decode cX2_commonDivisor 13 = .ok (.if_icmp .ge 31, 3) := by decide +kernel
theorem dX2_commonDivisor_16 : decode cX2_commonDivisor 16 = .ok (.lload 6, 2) := by decide +kernel
theorem dX2_commonDivisor_18 : decode cX2_commonDivisor 18 = .ok (.lconst 0, 1) := by decide +kernel
theorem dX2_commonDivisor_19 : decode cX2_commonDivisor 19 = .ok (.lcmp, 1) := by decide +kernel
theorem dX2_commonDivisor_20 : decode cX2_commonDivisor 20 = .ok (.ifCond .le 24, 3) := by decide +kernel
theorem dX2_commonDivisor_23 : decode cX2_commonDivisor 23 = .ok (.lload 4, 2) := by decide +kernel
theorem dX2_commonDivisor_25 : decode cX2_commonDivisor 25 = .ok (.lload 6, 2) := by decide +kernel
theorem dX2_commonDivisor_27 : decode cX2_commonDivisor 27 = .ok (.lrem, 1) := by decide +kernel
theorem dX2_commonDivisor_28 : decode cX2_commonDivisor 28 = .ok (.lstore 9, 2) := by decide +kernel
theorem dX2_commonDivisor_30 : decode cX2_commonDivisor 30 = .ok (.lload 6, 2) := by decide +kernel
theorem dX2_commonDivisor_32 : decode cX2_commonDivisor 32 = .ok (.lstore 4, 2) := by decide +kernel
theorem dX2_commonDivisor_34 : decode cX2_commonDivisor 34 = .ok (.lload 9, 2) := by decide +kernel
theorem dX2_commonDivisor_36 : decode cX2_commonDivisor 36 = .ok (.lstore 6, 2) := by decide +kernel
theorem dX2_commonDivisor_38 : decode cX2_commonDivisor 38 = .ok (.iinc 8 1, 3) := by decide +kernel
theorem dX2_commonDivisor_41 : decode cX2_commonDivisor 41 = .ok (.goto (-32), 3) := by decide +kernel
theorem dX2_commonDivisor_44 : decode cX2_commonDivisor 44 = .ok (.lload 4, 2) := by decide +kernel
theorem dX2_commonDivisor_46 : decode cX2_commonDivisor 46 = .ok (.lreturn, 1) := by decide +kernel
theorem dX3_init_0 : decode cX3_init 0 = .ok (.aload_n 0, 1) := by decide +kernel
theorem dX3_init_1 : decode cX3_init 1 = .ok (.invokespecial 3, 3) := by decide +kernel
theorem dX3_init_4 : decode cX3_init 4 = .ok (.aload_n 0, 1) := by decide +kernel
theorem dX3_init_5 : decode cX3_init 5 = .ok (.bipush 8, 2) := by decide +kernel
theorem dX3_init_7 : decode cX3_init 7 = .ok (.newarray .int, 2) := by decide +kernel
theorem dX3_init_9 : decode cX3_init 9 = .ok (.putfield 9, 3) := by decide +kernel
theorem dX3_init_12 : decode cX3_init 12 = .ok (.aload_n 0, 1) := by decide +kernel
theorem dX3_init_13 : decode cX3_init 13 = .ok (.bipush 8, 2) := by decide +kernel
theorem dX3_init_15 : decode cX3_init 15 = .ok (.newarray .boolean, 2) := by decide +kernel
theorem dX3_init_17 : decode cX3_init 17 = .ok (.putfield 15, 3) := by decide +kernel
theorem dX3_init_20 : decode cX3_init 20 = .ok (.return_, 1) := by decide +kernel
theorem dX3_empty_0 : decode cX3_empty 0 = .ok (.aload_n 0, 1) := by decide +kernel
theorem dX3_empty_1 : decode cX3_empty 1 = .ok (.iconst 0, 1) := by decide +kernel
theorem dX3_empty_2 : decode cX3_empty 2 = .ok (.putfield 19, 3) := by decide +kernel
theorem dX3_empty_5 : decode cX3_empty 5 = .ok (.aload_n 0, 1) := by decide +kernel
theorem dX3_empty_6 : decode cX3_empty 6 = .ok (.iconst 0, 1) := by decide +kernel
theorem dX3_empty_7 : decode cX3_empty 7 = .ok (.putfield 23, 3) := by decide +kernel
theorem dX3_empty_10 : decode cX3_empty 10 = .ok (.iconst 0, 1) := by decide +kernel
theorem dX3_empty_11 : decode cX3_empty 11 = .ok (.istore_n 1, 1) := by decide +kernel
theorem dX3_empty_12 : decode cX3_empty 12 = .ok (.iload_n 1, 1) := by decide +kernel
theorem dX3_empty_13 : decode cX3_empty 13 = .ok (.bipush 8, 2) := by decide +kernel
theorem dX3_empty_15 : decode cX3_empty 15 = .ok (.if_icmp .ge 16, 3) := by decide +kernel
theorem dX3_empty_18 : decode cX3_empty 18 = .ok (.aload_n 0, 1) := by decide +kernel
theorem dX3_empty_19 : decode cX3_empty 19 = .ok (.getfield 15, 3) := by decide +kernel
theorem dX3_empty_22 : decode cX3_empty 22 = .ok (.iload_n 1, 1) := by decide +kernel
theorem dX3_empty_23 : decode cX3_empty 23 = .ok (.iconst 0, 1) := by decide +kernel
theorem dX3_empty_24 : decode cX3_empty 24 = .ok (.bastore, 1) := by decide +kernel
theorem dX3_empty_25 : decode cX3_empty 25 = .ok (.iinc 1 1, 3) := by decide +kernel
theorem dX3_empty_28 : decode cX3_empty 28 = .ok (.goto (-16), 3) := by decide +kernel
theorem dX3_empty_31 : decode cX3_empty 31 = .ok (.return_, 1) := by decide +kernel
theorem dX3_tell_0 : decode cX3_tell 0 = .ok (.aload_n 0, 1) := by decide +kernel
theorem dX3_tell_1 : decode cX3_tell 1 = .ok (.getfield 15, 3) := by decide +kernel
theorem dX3_tell_4 : decode cX3_tell 4 = .ok (.iload_n 1, 1) := by decide +kernel
theorem dX3_tell_5 : decode cX3_tell 5 = .ok (.baload, 1) := by decide +kernel
theorem dX3_tell_6 : decode cX3_tell 6 = .ok (.ifCond .ne 20, 3) := by decide +kernel
theorem dX3_tell_9 : decode cX3_tell 9 = .ok (.aload_n 0, 1) := by decide +kernel
theorem dX3_tell_10 : decode cX3_tell 10 = .ok (.getfield 15, 3) := by decide +kernel
theorem dX3_tell_13 : decode cX3_tell 13 = .ok (.iload_n 1, 1) := by decide +kernel
theorem dX3_tell_14 : decode cX3_tell 14 = .ok (.iconst 1, 1) := by decide +kernel
theorem dX3_tell_15 : decode cX3_tell 15 = .ok (.bastore, 1) := by decide +kernel
theorem dX3_tell_16 : decode cX3_tell 16 = .ok (.aload_n 0, 1) := by decide +kernel
theorem dX3_tell_17 : decode cX3_tell 17 = .ok (.dup, 1) := by decide +kernel
theorem dX3_tell_18 : decode cX3_tell 18 = .ok (.getfield 19, 3) := by decide +kernel
theorem dX3_tell_21 : decode cX3_tell 21 = .ok (.iconst 1, 1) := by decide +kernel
theorem dX3_tell_22 : decode cX3_tell 22 = .ok (.iadd, 1) := by decide +kernel
theorem dX3_tell_23 : decode cX3_tell 23 = .ok (.putfield 19, 3) := by decide +kernel
theorem dX3_tell_26 : decode cX3_tell 26 = .ok (.aload_n 0, 1) := by decide +kernel
theorem dX3_tell_27 : decode cX3_tell 27 = .ok (.getfield 9, 3) := by decide +kernel
theorem dX3_tell_30 : decode cX3_tell 30 = .ok (.iload_n 1, 1) := by decide +kernel
theorem dX3_tell_31 : decode cX3_tell 31 = .ok (.iload_n 2, 1) := by decide +kernel
theorem dX3_tell_32 : decode cX3_tell 32 = .ok (.iastore, 1) := by decide +kernel
theorem dX3_tell_33 : decode cX3_tell 33 = .ok (.return_, 1) := by decide +kernel
theorem dX3_votesOf_0 : decode cX3_votesOf 0 = .ok (.aload_n 0, 1) := by decide +kernel
theorem dX3_votesOf_1 : decode cX3_votesOf 1 = .ok (.getfield 15, 3) := by decide +kernel
theorem dX3_votesOf_4 : decode cX3_votesOf 4 = .ok (.iload_n 1, 1) := by decide +kernel
theorem dX3_votesOf_5 : decode cX3_votesOf 5 = .ok (.baload, 1) := by decide +kernel
theorem dX3_votesOf_6 : decode cX3_votesOf 6 = .ok (.ifCond .eq 12, 3) := by decide +kernel
theorem dX3_votesOf_9 : decode cX3_votesOf 9 = .ok (.aload_n 0, 1) := by decide +kernel
theorem dX3_votesOf_10 : decode cX3_votesOf 10 = .ok (.getfield 9, 3) := by decide +kernel
theorem dX3_votesOf_13 : decode cX3_votesOf 13 = .ok (.iload_n 1, 1) := by decide +kernel
theorem dX3_votesOf_14 : decode cX3_votesOf 14 = .ok (.iaload, 1) := by decide +kernel
theorem dX3_votesOf_15 : decode cX3_votesOf 15 = .ok (.goto 4, 3) := by decide +kernel
theorem dX3_votesOf_18 : decode cX3_votesOf 18 = .ok (.iconst (-1), 1) := by decide +kernel
theorem dX3_votesOf_19 : decode cX3_votesOf 19 = .ok (.ireturn, 1) := by decide +kernel
theorem dX4_init_0 : decode cX4_init 0 = .ok (.aload_n 0, 1) := by decide +kernel
theorem dX4_init_1 : decode cX4_init 1 = .ok (.invokespecial 3, 3) := by decide +kernel
theorem dX4_init_4 : decode cX4_init 4 = .ok (.aload_n 0, 1) := by decide +kernel
theorem dX4_init_5 : decode cX4_init 5 = .ok (.bipush 31, 2) := by decide +kernel
theorem dX4_init_7 : decode cX4_init 7 = .ok (.newarray .int, 2) := by decide +kernel
theorem dX4_init_9 : decode cX4_init 9 = .ok (.putfield 9, 3) := by decide +kernel
theorem dX4_init_12 : decode cX4_init 12 = .ok (.aload_n 0, 1) := by decide +kernel
theorem dX4_init_13 : decode cX4_init 13 = .ok (.bipush 31, 2) := by decide +kernel
theorem dX4_init_15 : decode cX4_init 15 = .ok (.newarray .int, 2) := by decide +kernel
theorem dX4_init_17 : decode cX4_init 17 = .ok (.putfield 15, 3) := by decide +kernel
theorem dX4_init_20 : decode cX4_init 20 = .ok (.aload_n 0, 1) := by decide +kernel
theorem dX4_init_21 : decode cX4_init 21 = .ok (.new 18, 3) := by decide +kernel
theorem dX4_init_24 : decode cX4_init 24 = .ok (.dup, 1) := by decide +kernel
theorem dX4_init_25 : decode cX4_init 25 = .ok (.bipush 40, 2) := by decide +kernel
theorem dX4_init_27 : decode cX4_init 27 = .ok (.invokespecial 20, 3) := by decide +kernel
theorem dX4_init_30 : decode cX4_init 30 = .ok (.putfield 23, 3) := by decide +kernel
theorem dX4_init_33 : decode cX4_init 33 = .ok (.aload_n 0, 1) := by decide +kernel
theorem dX4_init_34 : decode cX4_init 34 = .ok (.new 27, 3) := by decide +kernel
theorem dX4_init_37 : decode cX4_init 37 = .ok (.dup, 1) := by decide +kernel
theorem dX4_init_38 : decode cX4_init 38 = .ok (.bipush 40, 2) := by decide +kernel
theorem dX4_init_40 : decode cX4_init 40 = .ok (.invokespecial 29, 3) := by decide +kernel
theorem dX4_init_43 : decode cX4_init 43 = .ok (.putfield 30, 3) := by decide +kernel
theorem dX4_init_46 : decode cX4_init 46 = .ok (.aload_n 0, 1) := by decide +kernel
theorem dX4_init_47 : decode cX4_init 47 = .ok (.new 27, 3) := by decide +kernel
theorem dX4_init_50 : decode cX4_init 50 = .ok (.dup, 1) := by decide +kernel
theorem dX4_init_51 : decode cX4_init 51 = .ok (.bipush 40, 2) := by decide +kernel
theorem dX4_init_53 : decode cX4_init 53 = .ok (.invokespecial 29, 3) := by decide +kernel
theorem dX4_init_56 : decode cX4_init 56 = .ok (.putfield 34, 3) := by decide +kernel
theorem dX4_init_59 : decode cX4_init 59 = .ok (.aload_n 0, 1) := by decide +kernel
theorem dX4_init_60 : decode cX4_init 60 = .ok (.new 27, 3) := by decide +kernel
theorem dX4_init_63 : decode cX4_init 63 = .ok (.dup, 1) := by decide +kernel
theorem dX4_init_64 : decode cX4_init 64 = .ok (.bipush 40, 2) := by decide +kernel
theorem dX4_init_66 : decode cX4_init 66 = .ok (.invokespecial 29, 3) := by decide +kernel
theorem dX4_init_69 : decode cX4_init 69 = .ok (.putfield 37, 3) := by decide +kernel
theorem dX4_init_72 : decode cX4_init 72 = .ok (.return_, 1) := by decide +kernel
theorem dX4_findLeast_0 : decode cX4_findLeast 0 = .ok (.aload_n 0, 1) := by decide +kernel
theorem dX4_findLeast_1 : decode cX4_findLeast 1 = .ok (.getfield 23, 3) := by decide +kernel
theorem dX4_findLeast_4 : decode cX4_findLeast 4 = .ok (.lconst 1, 1) := by decide +kernel
theorem dX4_findLeast_5 : decode cX4_findLeast 5 = .ok (.lconst 1, 1) := by decide +kernel
theorem dX4_findLeast_6 : decode cX4_findLeast 6 = .ok (.invokevirtual 40, 3) := by decide +kernel
theorem dX4_findLeast_9 : decode cX4_findLeast 9 = .ok (.iconst 0, 1) := by decide +kernel
theorem dX4_findLeast_10 : decode cX4_findLeast 10 = .ok (.istore 4, 2) := by decide +kernel
theorem dX4_findLeast_12 : decode cX4_findLeast 12 = .ok (.iconst 0, 1) := by decide +kernel
theorem dX4_findLeast_13 : decode cX4_findLeast 13 = .ok (.istore 5, 2) := by decide +kernel
theorem dX4_findLeast_15 : decode cX4_findLeast 15 = .ok (.iload 5, 2) := by decide +kernel
theorem dX4_findLeast_17 : decode cX4_findLeast 17 = .ok (.iload_n 2, 1) := by decide +kernel
theorem dX4_findLeast_18 : decode cX4_findLeast 18 = .ok (.if_icmp .gt 116, 3) := by decide +kernel
theorem dX4_findLeast_21 : decode cX4_findLeast 21 = .ok (.aload_n 0, 1) := by decide +kernel
theorem dX4_findLeast_22 : decode cX4_findLeast 22 = .ok (.getfield 23, 3) := by decide +kernel
theorem dX4_findLeast_25 : decode cX4_findLeast 25 = .ok (.aload_n 3, 1) := by decide +kernel
theorem dX4_findLeast_26 : decode cX4_findLeast 26 = .ok (.getfield 44, 3) := by decide +kernel
theorem dX4_findLeast_29 : decode cX4_findLeast 29 = .ok (.aload_n 3, 1) := by decide +kernel
theorem dX4_findLeast_30 : decode cX4_findLeast 30 = .ok (.getfield 50, 3) := by decide +kernel
theorem dX4_findLeast_33 : decode cX4_findLeast 33 = .ok (.invokevirtual 53, 3) := by decide +kernel
theorem dX4_findLeast_36 : decode cX4_findLeast 36 = .ok (.ifCond .lt 7, 3) := by decide +kernel
theorem dX4_findLeast_39 : decode cX4_findLeast 39 = .ok (.iconst 1, 1) := by decide +kernel
theorem dX4_findLeast_40 : decode cX4_findLeast 40 = .ok (.goto 4, 3) := by decide +kernel
theorem dX4_findLeast_43 : decode cX4_findLeast 43 = .ok (.iconst 0, 1) := by decide +kernel
theorem dX4_findLeast_44 : decode cX4_findLeast 44 = .ok (.istore 6, 2) := by decide +kernel
theorem dX4_findLeast_46 : decode cX4_findLeast 46 = .ok (.iload 6, 2) := by decide +kernel
theorem dX4_findLeast_48 : decode cX4_findLeast 48 = .ok (.ifCond .ne 52, 3) := by decide +kernel
theorem dX4_findLeast_51 : decode cX4_findLeast 51 = .ok (.iload 4, 2) := by decide +kernel
theorem dX4_findLeast_53 : decode cX4_findLeast 53 = .ok (.iload_n 2, 1) := by decide +kernel
theorem dX4_findLeast_54 : decode cX4_findLeast 54 = .ok (.iload 5, 2) := by decide +kernel
theorem dX4_findLeast_56 : decode cX4_findLeast 56 = .ok (.isub, 1) := by decide +kernel
theorem dX4_findLeast_57 : decode cX4_findLeast 57 = .ok (.if_icmp .ge 43, 3) := by decide +kernel
theorem dX4_findLeast_60 : decode cX4_findLeast 60 = .ok (.aload_n 1, 1) := by decide +kernel
theorem dX4_findLeast_61 : decode cX4_findLeast 61 = .ok (.aload_n 0, 1) := by decide +kernel
theorem dX4_findLeast_62 : decode cX4_findLeast 62 = .ok (.getfield 23, 3) := by decide +kernel
theorem dX4_findLeast_65 : decode cX4_findLeast 65 = .ok (.iconst 1, 1) := by decide +kernel
theorem dX4_findLeast_66 : decode cX4_findLeast 66 = .ok (.invokevirtual 57, 3) := by decide +kernel
theorem dX4_findLeast_69 : decode cX4_findLeast 69 = .ok (.iinc 4 1, 3) := by decide +kernel
theorem dX4_findLeast_72 : decode cX4_findLeast 72 = .ok (.aload_n 0, 1) := by decide +kernel
theorem dX4_findLeast_73 : decode cX4_findLeast 73 = .ok (.getfield 23, 3) := by decide +kernel
theorem dX4_findLeast_76 : decode cX4_findLeast 76 = .ok (.aload_n 3, 1) := by decide +kernel
theorem dX4_findLeast_77 : decode cX4_findLeast 77 = .ok (.getfield 44, 3) := by decide +kernel
theorem dX4_findLeast_80 : decode cX4_findLeast 80 = .ok (.aload_n 3, 1) := by decide +kernel
theorem dX4_findLeast_81 : decode cX4_findLeast 81 = .ok (.getfield 50, 3) := by decide +kernel
theorem dX4_findLeast_84 : decode cX4_findLeast 84 = .ok (.invokevirtual 53, 3) := by decide +kernel
theorem dX4_findLeast_87 : decode cX4_findLeast 87 = .ok (.ifCond .lt 7, 3) := by decide +kernel
theorem dX4_findLeast_90 : decode cX4_findLeast 90 = .ok (.iconst 1, 1) := by decide +kernel
theorem dX4_findLeast_91 : decode cX4_findLeast 91 = .ok (.goto 4, 3) := by decide +kernel
theorem dX4_findLeast_94 : decode cX4_findLeast 94 = .ok (.iconst 0, 1) := by decide +kernel
theorem dX4_findLeast_95 : decode cX4_findLeast 95 = .ok (.istore 6, 2) := by decide +kernel
theorem dX4_findLeast_97 : decode cX4_findLeast 97 = .ok (.goto (-51), 3) := by decide +kernel
theorem dX4_findLeast_100 : decode cX4_findLeast 100 = .ok (.aload_n 0, 1) := by decide +kernel
theorem dX4_findLeast_101 : decode cX4_findLeast 101 = .ok (.getfield 9, 3) := by decide +kernel
theorem dX4_findLeast_104 : decode cX4_findLeast 104 = .ok (.iload 5, 2) := by decide +kernel
theorem dX4_findLeast_106 : decode cX4_findLeast 106 = .ok (.iload 6, 2) := by decide +kernel
theorem dX4_findLeast_108 : decode cX4_findLeast 108 = .ok (.ifCond .eq 8, 3) := by decide +kernel
theorem dX4_findLeast_111 : decode cX4_findLeast 111 = .ok (.iload 4, 2) := by decide +kernel
theorem dX4_findLeast_113 : decode cX4_findLeast 113 = .ok (.goto 5, 3) := by decide +kernel
theorem dX4_findLeast_116 : decode cX4_findLeast 116 = .ok (.bipush 31, 2) := by decide +kernel
theorem dX4_findLeast_118 : decode cX4_findLeast 118 = .ok (.iastore, 1) := by decide +kernel
theorem dX4_findLeast_119 : decode cX4_findLeast 119 = .ok (.aload_n 1, 1) := by decide +kernel
theorem dX4_findLeast_120 : decode cX4_findLeast 120 = .ok (.aload_n 0, 1) := by decide +kernel
theorem dX4_findLeast_121 : decode cX4_findLeast 121 = .ok (.getfield 23, 3) := by decide +kernel
theorem dX4_findLeast_124 : decode cX4_findLeast 124 = .ok (.iconst 0, 1) := by decide +kernel
theorem dX4_findLeast_125 : decode cX4_findLeast 125 = .ok (.invokevirtual 57, 3) := by decide +kernel
theorem dX4_findLeast_128 : decode cX4_findLeast 128 = .ok (.iinc 5 1, 3) := by decide +kernel
theorem dX4_findLeast_131 : decode cX4_findLeast 131 = .ok (.goto (-116), 3) := by decide +kernel
theorem dX4_findLeast_134 : decode cX4_findLeast 134 = .ok (.return_, 1) := by decide +kernel
theorem dX4_weigh_0 : decode cX4_weigh 0 = .ok (.aload_n 0, 1) := by decide +kernel
theorem dX4_weigh_1 : decode cX4_weigh 1 = .ok (.getfield 15, 3) := by decide +kernel
theorem dX4_weigh_4 : decode cX4_weigh 4 = .ok (.iconst 0, 1) := by decide +kernel
theorem dX4_weigh_5 : decode cX4_weigh 5 = .ok (.iconst 1, 1) := by decide +kernel
theorem dX4_weigh_6 : decode cX4_weigh 6 = .ok (.iastore, 1) := by decide +kernel
theorem dX4_weigh_7 : decode cX4_weigh 7 = .ok (.aload_n 0, 1) := by decide +kernel
theorem dX4_weigh_8 : decode cX4_weigh 8 = .ok (.getfield 30, 3) := by decide +kernel
theorem dX4_weigh_11 : decode cX4_weigh 11 = .ok (.lconst 0, 1) := by decide +kernel
theorem dX4_weigh_12 : decode cX4_weigh 12 = .ok (.invokevirtual 63, 3) := by decide +kernel
theorem dX4_weigh_15 : decode cX4_weigh 15 = .ok (.aload_n 0, 1) := by decide +kernel
theorem dX4_weigh_16 : decode cX4_weigh 16 = .ok (.getfield 37, 3) := by decide +kernel
theorem dX4_weigh_19 : decode cX4_weigh 19 = .ok (.lconst 0, 1) := by decide +kernel
theorem dX4_weigh_20 : decode cX4_weigh 20 = .ok (.invokevirtual 63, 3) := by decide +kernel
theorem dX4_weigh_23 : decode cX4_weigh 23 = .ok (.lconst 1, 1) := by decide +kernel
theorem dX4_weigh_24 : decode cX4_weigh 24 = .ok (.lstore 5, 2) := by decide +kernel
theorem dX4_weigh_26 : decode cX4_weigh 26 = .ok (.iconst 1, 1) := by decide +kernel
theorem dX4_weigh_27 : decode cX4_weigh 27 = .ok (.istore 7, 2) := by decide +kernel
theorem dX4_weigh_29 : decode cX4_weigh 29 = .ok (.iload 7, 2) := by decide +kernel
theorem dX4_weigh_31 : decode cX4_weigh 31 = .ok (.iload_n 1, 1) := by decide +kernel
theorem dX4_weigh_32 : decode cX4_weigh 32 = .ok (.if_icmp .gt 89, 3) := by decide +kernel
theorem dX4_weigh_35 : decode cX4_weigh 35 = .ok (.aload_n 0, 1) := by decide +kernel
theorem dX4_weigh_36 : decode cX4_weigh 36 = .ok (.getfield 30, 3) := by decide +kernel
theorem dX4_weigh_39 : decode cX4_weigh 39 = .ok (.iload_n 2, 1) := by decide +kernel
theorem dX4_weigh_40 : decode cX4_weigh 40 = .ok (.iload_n 3, 1) := by decide +kernel
theorem dX4_weigh_41 : decode cX4_weigh 41 = .ok (.iadd, 1) := by decide +kernel
theorem dX4_weigh_42 : decode cX4_weigh 42 = .ok (.i2l, 1) := by decide +kernel
theorem dX4_weigh_43 : decode cX4_weigh 43 = .ok (.invokevirtual 66, 3) := by decide +kernel
theorem dX4_weigh_46 : decode cX4_weigh 46 = .ok (.aload_n 0, 1) := by decide +kernel
theorem dX4_weigh_47 : decode cX4_weigh 47 = .ok (.iload 7, 2) := by decide +kernel
theorem dX4_weigh_49 : decode cX4_weigh 49 = .ok (.iload_n 2, 1) := by decide +kernel
theorem dX4_weigh_50 : decode cX4_weigh 50 = .ok (.iload_n 3, 1) := by decide +kernel
theorem dX4_weigh_51 : decode cX4_weigh 51 = .ok (.invokevirtual 69, 3) := by decide +kernel
theorem dX4_weigh_54 : decode cX4_weigh 54 = .ok (.lload 5, 2) := by decide +kernel
theorem dX4_weigh_56 : decode cX4_weigh 56 = .ok (.iload_n 1, 1) := by decide +kernel
theorem dX4_weigh_57 : decode cX4_weigh 57 = .ok (.iload 7, 2) := by decide +kernel
theorem dX4_weigh_59 : decode cX4_weigh 59 = .ok (.isub, 1) := by decide +kernel
theorem dX4_weigh_60 : decode cX4_weigh 60 = .ok (.iconst 1, 1) := by decide +kernel
theorem dX4_weigh_61 : decode cX4_weigh 61 = .ok (.iadd, 1) := by decide +kernel
theorem dX4_weigh_62 : decode cX4_weigh 62 = .ok (.i2l, 1) := by decide +kernel
theorem dX4_weigh_63 : decode cX4_weigh 63 = .ok (.lmul, 1) := by decide +kernel
theorem dX4_weigh_64 : decode cX4_weigh 64 = .ok (.iload 7, 2) := by decide +kernel
theorem dX4_weigh_66 : decode cX4_weigh 66 = .ok (.i2l, 1) := by decide +kernel
theorem dX4_weigh_67 : decode cX4_weigh 67 = .ok (.ldiv, 1) := by decide +kernel
theorem dX4_weigh_68 : decode cX4_weigh 68 = .ok (.lstore 5, 2) := by decide +kernel
theorem dX4_weigh_70 : decode cX4_weigh 70 = .ok (.aload_n 0, 1) := by decide +kernel
theorem dX4_weigh_71 : decode cX4_weigh 71 = .ok (.getfield 34, 3) := by decide +kernel
theorem dX4_weigh_74 : decode cX4_weigh 74 = .ok (.aload_n 0, 1) := by decide +kernel
theorem dX4_weigh_75 : decode cX4_weigh 75 = .ok (.getfield 30, 3) := by decide +kernel
theorem dX4_weigh_78 : decode cX4_weigh 78 = .ok (.invokevirtual 73, 3) := by decide +kernel
theorem dX4_weigh_81 : decode cX4_weigh 81 = .ok (.aload_n 0, 1) := by decide +kernel
theorem dX4_weigh_82 : decode cX4_weigh 82 = .ok (.getfield 34, 3) := by decide +kernel
theorem dX4_weigh_85 : decode cX4_weigh 85 = .ok (.lload 5, 2) := by decide +kernel
theorem dX4_weigh_87 : decode cX4_weigh 87 = .ok (.invokevirtual 66, 3) := by decide +kernel
theorem dX4_weigh_90 : decode cX4_weigh 90 = .ok (.aload_n 0, 1) := by decide +kernel
theorem dX4_weigh_91 : decode cX4_weigh 91 = .ok (.iload 4, 2) := by decide +kernel
theorem dX4_weigh_93 : decode cX4_weigh 93 = .ok (.iload_n 2, 1) := by decide +kernel
theorem dX4_weigh_94 : decode cX4_weigh 94 = .ok (.isub, 1) := by decide +kernel
theorem dX4_weigh_95 : decode cX4_weigh 95 = .ok (.iload_n 3, 1) := by decide +kernel
theorem dX4_weigh_96 : decode cX4_weigh 96 = .ok (.isub, 1) := by decide +kernel
theorem dX4_weigh_97 : decode cX4_weigh 97 = .ok (.iload_n 1, 1) := by decide +kernel
theorem dX4_weigh_98 : decode cX4_weigh 98 = .ok (.iload 7, 2) := by decide +kernel
theorem dX4_weigh_100 : decode cX4_weigh 100 = .ok (.isub, 1) := by decide +kernel
theorem dX4_weigh_101 : decode cX4_weigh 101 = .ok (.invokevirtual 77, 3) := by decide +kernel
theorem dX4_weigh_104 : decode cX4_weigh 104 = .ok (.aload_n 0, 1) := by decide +kernel
theorem dX4_weigh_105 : decode cX4_weigh 105 = .ok (.getfield 37, 3) := by decide +kernel
theorem dX4_weigh_108 : decode cX4_weigh 108 = .ok (.aload_n 0, 1) := by decide +kernel
theorem dX4_weigh_109 : decode cX4_weigh 109 = .ok (.getfield 34, 3) := by decide +kernel
theorem dX4_weigh_112 : decode cX4_weigh 112 = .ok (.invokevirtual 81, 3) := by decide +kernel
theorem dX4_weigh_115 : decode cX4_weigh 115 = .ok (.iinc 7 1, 3) := by decide +kernel
theorem dX4_weigh_118 : decode cX4_weigh 118 = .ok (.goto (-89), 3) := by decide +kernel
theorem dX4_weigh_121 : decode cX4_weigh 121 = .ok (.return_, 1) := by decide +kernel
theorem dX4_growRows_0 : decode cX4_growRows 0 = .ok (.iload_n 1, 1) := by decide +kernel
theorem dX4_growRows_1 : decode cX4_growRows 1 = .ok (.istore 4, 2) := by decide +kernel
theorem dX4_growRows_3 : decode cX4_growRows 3 = .ok (.iload 4, 2) := by decide +kernel
theorem dX4_growRows_5 : decode cX4_growRows 5 = .ok (.ifCond .lt 110, 3) := by decide +kernel
theorem dX4_growRows_8 : decode cX4_growRows 8 = .ok (.iload 4, 2) := by decide +kernel
theorem dX4_growRows_10 : decode cX4_growRows 10 = .ok (.iload_n 1, 1) := by decide +kernel
theorem dX4_growRows_11 : decode cX4_growRows 11 = .ok (.if_icmp .ge 13, 3) := by decide +kernel
theorem dX4_growRows_14 : decode cX4_growRows 14 = .ok (.aload_n 0, 1) := by decide +kernel
theorem dX4_growRows_15 : decode cX4_growRows 15 = .ok (.getfield 15, 3) := by decide +kernel
theorem dX4_growRows_18 : decode cX4_growRows 18 = .ok (.iload 4, 2) := by decide +kernel
theorem dX4_growRows_20 : decode cX4_growRows 20 = .ok (.iaload, 1) := by decide +kernel
theorem dX4_growRows_21 : decode cX4_growRows 21 = .ok (.goto 4, 3) := by decide +kernel
theorem dX4_growRows_24 : decode cX4_growRows 24 = .ok (.iconst 0, 1) := by decide +kernel
theorem dX4_growRows_25 : decode cX4_growRows 25 = .ok (.istore 5, 2) := by decide +kernel
theorem dX4_growRows_27 : decode cX4_growRows 27 = .ok (.iload 4, 2) := by decide +kernel
theorem dX4_growRows_29 : decode cX4_growRows 29 = .ok (.ifCond .le 17, 3) := by decide +kernel
theorem dX4_growRows_32 : decode cX4_growRows 32 = .ok (.iload 5, 2) := by decide +kernel
theorem dX4_growRows_34 : decode cX4_growRows 34 = .ok (.aload_n 0, 1) := by decide +kernel
theorem dX4_growRows_35 : decode cX4_growRows 35 = .ok (.getfield 15, 3) := by decide +kernel
theorem dX4_growRows_38 : decode cX4_growRows 38 = .ok (.iload 4, 2) := by decide +kernel
theorem dX4_growRows_40 : decode cX4_growRows 40 = .ok (.iconst 1, 1) := by decide +kernel
theorem dX4_growRows_41 : decode cX4_growRows 41 = .ok (.isub, 1) := by decide +kernel
theorem dX4_growRows_42 : decode cX4_growRows 42 = .ok (.iaload, 1) := by decide +kernel
theorem dX4_growRows_43 : decode cX4_growRows 43 = .ok (.iadd, 1) := by decide +kernel
theorem dX4_growRows_44 : decode cX4_growRows 44 = .ok (.istore 5, 2) := by decide +kernel
theorem dX4_growRows_46 : decode cX4_growRows 46 = .ok (.iload 4, 2) := by decide +kernel
theorem dX4_growRows_48 : decode cX4_growRows 48 = .ok (.aload_n 0, 1) := by decide +kernel
theorem dX4_growRows_49 : decode cX4_growRows 49 = .ok (.getfield 9, 3) := by decide +kernel
theorem dX4_growRows_52 : decode cX4_growRows 52 = .ok (.iload_n 1, 1) := by decide +kernel
theorem dX4_growRows_53 : decode cX4_growRows 53 = .ok (.iload 4, 2) := by decide +kernel
theorem dX4_growRows_55 : decode cX4_growRows 55 = .ok (.isub, 1) := by decide +kernel
theorem dX4_growRows_56 : decode cX4_growRows 56 = .ok (.iaload, 1) := by decide +kernel
theorem dX4_growRows_57 : decode cX4_growRows 57 = .ok (.if_icmp .lt 43, 3) := by decide +kernel
theorem dX4_growRows_60 : decode cX4_growRows 60 = .ok (.aload_n 0, 1) := by decide +kernel
theorem dX4_growRows_61 : decode cX4_growRows 61 = .ok (.getfield 34, 3) := by decide +kernel
theorem dX4_growRows_64 : decode cX4_growRows 64 = .ok (.iload 5, 2) := by decide +kernel
theorem dX4_growRows_66 : decode cX4_growRows 66 = .ok (.i2l, 1) := by decide +kernel
theorem dX4_growRows_67 : decode cX4_growRows 67 = .ok (.invokevirtual 63, 3) := by decide +kernel
theorem dX4_growRows_70 : decode cX4_growRows 70 = .ok (.aload_n 0, 1) := by decide +kernel
theorem dX4_growRows_71 : decode cX4_growRows 71 = .ok (.iload_n 2, 1) := by decide +kernel
theorem dX4_growRows_72 : decode cX4_growRows 72 = .ok (.iload 4, 2) := by decide +kernel
theorem dX4_growRows_74 : decode cX4_growRows 74 = .ok (.invokevirtual 77, 3) := by decide +kernel
theorem dX4_growRows_77 : decode cX4_growRows 77 = .ok (.aload_n 0, 1) := by decide +kernel
theorem dX4_growRows_78 : decode cX4_growRows 78 = .ok (.iload_n 3, 1) := by decide +kernel
theorem dX4_growRows_79 : decode cX4_growRows 79 = .ok (.iload_n 1, 1) := by decide +kernel
theorem dX4_growRows_80 : decode cX4_growRows 80 = .ok (.iload 4, 2) := by decide +kernel
theorem dX4_growRows_82 : decode cX4_growRows 82 = .ok (.isub, 1) := by decide +kernel
theorem dX4_growRows_83 : decode cX4_growRows 83 = .ok (.invokevirtual 77, 3) := by decide +kernel
theorem dX4_growRows_86 : decode cX4_growRows 86 = .ok (.aload_n 0, 1) := by decide +kernel
theorem dX4_growRows_87 : decode cX4_growRows 87 = .ok (.getfield 30, 3) := by decide +kernel
theorem dX4_growRows_90 : decode cX4_growRows 90 = .ok (.aload_n 0, 1) := by decide +kernel
theorem dX4_growRows_91 : decode cX4_growRows 91 = .ok (.getfield 34, 3) := by decide +kernel
theorem dX4_growRows_94 : decode cX4_growRows 94 = .ok (.invokevirtual 81, 3) := by decide +kernel
theorem dX4_growRows_97 : decode cX4_growRows 97 = .ok (.iconst 0, 1) := by decide +kernel
theorem dX4_growRows_98 : decode cX4_growRows 98 = .ok (.istore 5, 2) := by decide +kernel
theorem dX4_growRows_100 : decode cX4_growRows 100 = .ok (.aload_n 0, 1) := by decide +kernel
theorem dX4_growRows_101 : decode cX4_growRows 101 = .ok (.getfield 15, 3) := by decide +kernel
theorem dX4_growRows_104 : decode cX4_growRows 104 = .ok (.iload 4, 2) := by decide +kernel
theorem dX4_growRows_106 : decode cX4_growRows 106 = .ok (.iload 5, 2) := by decide +kernel
theorem dX4_growRows_108 : decode cX4_growRows 108 = .ok (.iastore, 1) := by decide +kernel
theorem dX4_growRows_109 : decode cX4_growRows 109 = .ok (.iinc 4 (-1), 3) := by decide +kernel
theorem dX4_growRows_112 : decode cX4_growRows 112 = .ok (.goto (-109), 3) := by decide +kernel
theorem dX4_growRows_115 : decode cX4_growRows 115 = .ok (.return_, 1) := by decide +kernel
theorem dX4_multiplyTerm_0 : decode cX4_multiplyTerm 0 = .ok (.iconst 0, 1) := by decide +kernel
theorem dX4_multiplyTerm_1 : decode cX4_multiplyTerm 1 = .ok (.istore_n 3, 1) := by decide +kernel
theorem dX4_multiplyTerm_2 : decode cX4_multiplyTerm 2 = .ok (.iload_n 3, 1) := by decide +kernel
theorem dX4_multiplyTerm_3 : decode cX4_multiplyTerm 3 = .ok (.iload_n 2, 1) := by decide +kernel
theorem dX4_multiplyTerm_4 : decode cX4_multiplyTerm 4 = .ok (.if_icmp .ge 18, 3) := by decide +kernel
theorem dX4_multiplyTerm_7 : decode cX4_multiplyTerm 7 = .ok (.aload_n 0, 1) := by decide +kernel
theorem dX4_multiplyTerm_8 : decode cX4_multiplyTerm 8 = .ok (.getfield 34, 3) := by decide +kernel
theorem dX4_multiplyTerm_11 : decode cX4_multiplyTerm 11 = .ok (.iload_n 1, 1) := by decide +kernel
theorem dX4_multiplyTerm_12 : decode cX4_multiplyTerm 12 = .ok (.i2l, 1) := by decide +kernel
theorem dX4_multiplyTerm_13 : decode cX4_multiplyTerm 13 = .ok (.invokevirtual 66, 3) := by decide +kernel
theorem dX4_multiplyTerm_16 : decode cX4_multiplyTerm 16 = .ok (.iinc 3 1, 3) := by decide +kernel
theorem dX4_multiplyTerm_19 : decode cX4_multiplyTerm 19 = .ok (.goto (-17), 3) := by decide +kernel
theorem dX4_multiplyTerm_22 : decode cX4_multiplyTerm 22 = .ok (.return_, 1) := by decide +kernel
theorem dX5_init_0 : decode cX5_init 0 = .ok (.aload_n 0, 1) := by decide +kernel
theorem dX5_init_1 : decode cX5_init 1 = .ok (.invokespecial 3, 3) := by decide +kernel
theorem dX5_init_4 : decode cX5_init 4 = .ok (.aload_n 0, 1) := by decide +kernel
theorem dX5_init_5 : decode cX5_init 5 = .ok (.new 9, 3) := by decide +kernel
theorem dX5_init_8 : decode cX5_init 8 = .ok (.dup, 1) := by decide +kernel
theorem dX5_init_9 : decode cX5_init 9 = .ok (.bipush 104, 2) := by decide +kernel
theorem dX5_init_11 : decode cX5_init 11 = .ok (.invokespecial 11, 3) := by decide +kernel
theorem dX5_init_14 : decode cX5_init 14 = .ok (.putfield 14, 3) := by decide +kernel
theorem dX5_init_17 : decode cX5_init 17 = .ok (.return_, 1) := by decide +kernel
theorem dX5_begin_0 : decode cX5_begin 0 = .ok (.aload_n 0, 1) := by decide +kernel
theorem dX5_begin_1 : decode cX5_begin 1 = .ok (.iload_n 1, 1) := by decide +kernel
theorem dX5_begin_2 : decode cX5_begin 2 = .ok (.putfield 20, 3) := by decide +kernel
theorem dX5_begin_5 : decode cX5_begin 5 = .ok (.aload_n 0, 1) := by decide +kernel
theorem dX5_begin_6 : decode cX5_begin 6 = .ok (.iload_n 2, 1) := by decide +kernel
theorem dX5_begin_7 : decode cX5_begin 7 = .ok (.putfield 24, 3) := by decide +kernel
theorem dX5_begin_10 : decode cX5_begin 10 = .ok (.aload_n 0, 1) := by decide +kernel
theorem dX5_begin_11 : decode cX5_begin 11 = .ok (.aload_n 3, 1) := by decide +kernel
theorem dX5_begin_12 : decode cX5_begin 12 = .ok (.iload_n 1, 1) := by decide +kernel
theorem dX5_begin_13 : decode cX5_begin 13 = .ok (.iaload, 1) := by decide +kernel
theorem dX5_begin_14 : decode cX5_begin 14 = .ok (.putfield 27, 3) := by decide +kernel
theorem dX5_begin_17 : decode cX5_begin 17 = .ok (.aload_n 0, 1) := by decide +kernel
theorem dX5_begin_18 : decode cX5_begin 18 = .ok (.aload_n 3, 1) := by decide +kernel
theorem dX5_begin_19 : decode cX5_begin 19 = .ok (.iload_n 2, 1) := by decide +kernel
theorem dX5_begin_20 : decode cX5_begin 20 = .ok (.iaload, 1) := by decide +kernel
theorem dX5_begin_21 : decode cX5_begin 21 = .ok (.putfield 30, 3) := by decide +kernel
theorem dX5_begin_24 : decode cX5_begin 24 = .ok (.aload_n 0, 1) := by decide +kernel
theorem dX5_begin_25 : decode cX5_begin 25 = .ok (.iconst (-1), 1) := by decide +kernel
theorem dX5_begin_26 : decode cX5_begin 26 = .ok (.putfield 33, 3) := by decide +kernel
theorem dX5_begin_29 : decode cX5_begin 29 = .ok (.aload_n 0, 1) := by decide +kernel
theorem dX5_begin_30 : decode cX5_begin 30 = .ok (.getfield 14, 3) := by decide +kernel
theorem dX5_begin_33 : decode cX5_begin 33 = .ok (.lconst 1, 1) := by decide +kernel
theorem dX5_begin_34 : decode cX5_begin 34 = .ok (.lconst 1, 1) := by decide +kernel
theorem dX5_begin_35 : decode cX5_begin 35 = .ok (.invokevirtual 36, 3) := by decide +kernel
theorem dX5_begin_38 : decode cX5_begin 38 = .ok (.return_, 1) := by decide +kernel
theorem dX5_bothVotes_0 : decode cX5_bothVotes 0 = .ok (.aload_n 0, 1) := by decide +kernel
theorem dX5_bothVotes_1 : decode cX5_bothVotes 1 = .ok (.getfield 27, 3) := by decide +kernel
theorem dX5_bothVotes_4 : decode cX5_bothVotes 4 = .ok (.aload_n 0, 1) := by decide +kernel
theorem dX5_bothVotes_5 : decode cX5_bothVotes 5 = .ok (.getfield 30, 3) := by decide +kernel
theorem dX5_bothVotes_8 : decode cX5_bothVotes 8 = .ok (.iadd, 1) := by decide +kernel
theorem dX5_bothVotes_9 : decode cX5_bothVotes 9 = .ok (.ireturn, 1) := by decide +kernel
theorem dX5_margin_0 : decode cX5_margin 0 = .ok (.aload_n 0, 1) := by decide +kernel
theorem dX5_margin_1 : decode cX5_margin 1 = .ok (.getfield 27, 3) := by decide +kernel
theorem dX5_margin_4 : decode cX5_margin 4 = .ok (.aload_n 0, 1) := by decide +kernel
theorem dX5_margin_5 : decode cX5_margin 5 = .ok (.getfield 30, 3) := by decide +kernel
theorem dX5_margin_8 : decode cX5_margin 8 = .ok (.isub, 1) := by decide +kernel
theorem dX5_margin_9 : decode cX5_margin 9 = .ok (.ireturn, 1) := by decide +kernel
theorem dX5_step_0 : decode cX5_step 0 = .ok (.aload_n 1, 1) := by decide +kernel
theorem dX5_step_1 : decode cX5_step 1 = .ok (.ldc2_w 40, 3) := by decide +kernel
theorem dX5_step_4 : decode cX5_step 4 = .ok (.iload_n 2, 1) := by decide +kernel
theorem dX5_step_5 : decode cX5_step 5 = .ok (.ifCond .eq 10, 3) := by decide +kernel
theorem dX5_step_8 : decode cX5_step 8 = .ok (.aload_n 0, 1) := by decide +kernel
theorem dX5_step_9 : decode cX5_step 9 = .ok (.getfield 27, 3) := by decide +kernel
theorem dX5_step_12 : decode cX5_step 12 = .ok (.goto 7, 3) := by decide +kernel
theorem dX5_step_15 : decode cX5_step 15 = .ok (.aload_n 0, 1) := by decide +kernel
theorem dX5_step_16 : decode cX5_step 16 = .ok (.getfield 30, 3) := by decide +kernel
theorem dX5_step_19 : decode cX5_step 19 = .ok (.i2l, 1) := by decide +kernel
theorem dX5_step_20 : decode cX5_step 20 = .ok (.lmul, 1) := by decide +kernel
theorem dX5_step_21 : decode cX5_step 21 = .ok (.aload_n 0, 1) := by decide +kernel
theorem dX5_step_22 : decode cX5_step 22 = .ok (.invokevirtual 42, 3) := by decide +kernel
theorem dX5_step_25 : decode cX5_step 25 = .ok (.i2l, 1) := by decide +kernel
theorem dX5_step_26 : decode cX5_step 26 = .ok (.invokevirtual 46, 3) := by decide +kernel
theorem dX5_step_29 : decode cX5_step 29 = .ok (.return_, 1) := by decide +kernel
theorem dX5_overstated_0 : decode cX5_overstated 0 = .ok (.aload_n 0, 1) := by decide +kernel
theorem dX5_overstated_1 : decode cX5_overstated 1 = .ok (.iload_n 1, 1) := by decide +kernel
theorem dX5_overstated_2 : decode cX5_overstated 2 = .ok (.invokevirtual 49, 3) := by decide +kernel
theorem dX5_overstated_5 : decode cX5_overstated 5 = .ok (.aload_n 0, 1) := by decide +kernel
theorem dX5_overstated_6 : decode cX5_overstated 6 = .ok (.iload_n 2, 1) := by decide +kernel
theorem dX5_overstated_7 : decode cX5_overstated 7 = .ok (.invokevirtual 49, 3) := by decide +kernel
theorem dX5_overstated_10 : decode cX5_overstated 10 = .ok (.isub, 1) := by decide +kernel
theorem dX5_overstated_11 : decode cX5_overstated 11 = .ok (.ireturn, 1) := by decide +kernel
theorem dX5_lead_0 : decode cX5_lead 0 = .ok (.iload_n 1, 1) := by decide +kernel
theorem dX5_lead_1 : decode cX5_lead 1 = .ok (.aload_n 0, 1) := by decide +kernel
theorem dX5_lead_2 : decode cX5_lead 2 = .ok (.getfield 20, 3) := by decide +kernel
theorem dX5_lead_5 : decode cX5_lead 5 = .ok (.if_icmp .ne 5, 3) := by decide +kernel
theorem dX5_lead_8 : decode cX5_lead 8 = .ok (.iconst 1, 1) := by decide +kernel
theorem dX5_lead_9 : decode cX5_lead 9 = .ok (.ireturn, 1) := by decide +kernel
theorem dX5_lead_10 : decode cX5_lead 10 = .ok (.iload_n 1, 1) := by decide +kernel
theorem dX5_lead_11 : decode cX5_lead 11 = .ok (.aload_n 0, 1) := by decide +kernel
theorem dX5_lead_12 : decode cX5_lead 12 = .ok (.getfield 24, 3) := by decide +kernel
theorem dX5_lead_15 : decode cX5_lead 15 = .ok (.if_icmp .ne 7, 3) := by decide +kernel
theorem dX5_lead_18 : decode cX5_lead 18 = .ok (.iconst (-1), 1) := by decide +kernel
theorem dX5_lead_19 : decode cX5_lead 19 = .ok (.goto 4, 3) := by decide +kernel
theorem dX5_lead_22 : decode cX5_lead 22 = .ok (.iconst 0, 1) := by decide +kernel
theorem dX5_lead_23 : decode cX5_lead 23 = .ok (.ireturn, 1) := by decide +kernel
theorem dX6_init_0 : decode cX6_init 0 = .ok (.aload_n 0, 1) := by decide +kernel
theorem dX6_init_1 : decode cX6_init 1 = .ok (.invokespecial 3, 3) := by decide +kernel
theorem dX6_init_4 : decode cX6_init 4 = .ok (.aload_n 0, 1) := by decide +kernel
theorem dX6_init_5 : decode cX6_init 5 = .ok (.bipush 20, 2) := by decide +kernel
theorem dX6_init_7 : decode cX6_init 7 = .ok (.newarray .int, 2) := by decide +kernel
theorem dX6_init_9 : decode cX6_init 9 = .ok (.putfield 9, 3) := by decide +kernel
theorem dX6_init_12 : decode cX6_init 12 = .ok (.aload_n 0, 1) := by decide +kernel
theorem dX6_init_13 : decode cX6_init 13 = .ok (.bipush 64, 2) := by decide +kernel
theorem dX6_init_15 : decode cX6_init 15 = .ok (.newarray .int, 2) := by decide +kernel
theorem dX6_init_17 : decode cX6_init 17 = .ok (.putfield 15, 3) := by decide +kernel
theorem dX6_init_20 : decode cX6_init 20 = .ok (.aload_n 0, 1) := by decide +kernel
theorem dX6_init_21 : decode cX6_init 21 = .ok (.bipush 8, 2) := by decide +kernel
theorem dX6_init_23 : decode cX6_init 23 = .ok (.newarray .int, 2) := by decide +kernel
theorem dX6_init_25 : decode cX6_init 25 = .ok (.putfield 18, 3) := by decide +kernel
theorem dX6_init_28 : decode cX6_init 28 = .ok (.return_, 1) := by decide +kernel
theorem dX6_addDigit_0 : decode cX6_addDigit 0 = .ok (.aload_n 0, 1) := by decide +kernel
theorem dX6_addDigit_1 : decode cX6_addDigit 1 = .ok (.getfield 9, 3) := by decide +kernel
theorem dX6_addDigit_4 : decode cX6_addDigit 4 = .ok (.aload_n 0, 1) := by decide +kernel
theorem dX6_addDigit_5 : decode cX6_addDigit 5 = .ok (.getfield 21, 3) := by decide +kernel
theorem dX6_addDigit_8 : decode cX6_addDigit 8 = .ok (.iload_n 1, 1) := by decide +kernel
theorem dX6_addDigit_9 : decode cX6_addDigit 9 = .ok (.iastore, 1) := by decide +kernel
theorem dX6_addDigit_10 : decode cX6_addDigit 10 = .ok (.aload_n 0, 1) := by decide +kernel
theorem dX6_addDigit_11 : decode cX6_addDigit 11 = .ok (.dup, 1) := by decide +kernel
theorem dX6_addDigit_12 : decode cX6_addDigit 12 = .ok (.getfield 21, 3) := by decide +kernel
theorem dX6_addDigit_15 : decode cX6_addDigit 15 = .ok (.iconst 1, 1) := by decide +kernel
theorem dX6_addDigit_16 : decode cX6_addDigit 16 = .ok (.iadd, 1) := by decide +kernel
theorem dX6_addDigit_17 : decode cX6_addDigit 17 = .ok (.putfield 21, 3) := by decide +kernel
theorem dX6_addDigit_20 : decode cX6_addDigit 20 = .ok (.aload_n 0, 1) := by decide +kernel
theorem dX6_addDigit_21 : decode cX6_addDigit 21 = .ok (.getfield 21, 3) := by decide +kernel
theorem dX6_addDigit_24 : decode cX6_addDigit 24 = .ok (.ireturn, 1) := by decide +kernel
theorem dX6_ballotOfDraw_0 : decode cX6_ballotOfDraw 0 = .ok (.iload_n 2, 1) := by decide +kernel
theorem dX6_ballotOfDraw_1 : decode cX6_ballotOfDraw 1 = .ok (.iconst 1, 1) := by decide +kernel
theorem dX6_ballotOfDraw_2 : decode cX6_ballotOfDraw 2 = .ok (.if_icmp .ge 5, 3) := by decide +kernel
theorem dX6_ballotOfDraw_5 : decode cX6_ballotOfDraw 5 = .ok (.iconst (-1), 1) := by decide +kernel
theorem dX6_ballotOfDraw_6 : decode cX6_ballotOfDraw 6 = .ok (.ireturn, 1) := by decide +kernel
theorem dX6_ballotOfDraw_7 : decode cX6_ballotOfDraw 7 = .ok (.aload_n 0, 1) := by decide +kernel
theorem dX6_ballotOfDraw_8 : decode cX6_ballotOfDraw 8 = .ok (.iload_n 1, 1) := by decide +kernel
theorem dX6_ballotOfDraw_9 : decode cX6_ballotOfDraw 9 = .ok (.invokevirtual 25, 3) := by decide +kernel
theorem dX6_ballotOfDraw_12 : decode cX6_ballotOfDraw 12 = .ok (.lconst 0, 1) := by decide +kernel
theorem dX6_ballotOfDraw_13 : decode cX6_ballotOfDraw 13 = .ok (.lstore_n 3, 1) := by decide +kernel
theorem dX6_ballotOfDraw_14 : decode cX6_ballotOfDraw 14 = .ok (.iconst 0, 1) := by decide +kernel
theorem dX6_ballotOfDraw_15 : decode cX6_ballotOfDraw 15 = .ok (.istore 5, 2) := by decide +kernel
theorem dX6_ballotOfDraw_17 : decode cX6_ballotOfDraw 17 = .ok (.iload 5, 2) := by decide +kernel
theorem dX6_ballotOfDraw_19 : decode cX6_ballotOfDraw 19 = .ok (.aload_n 0, 1) := by decide +kernel
theorem dX6_ballotOfDraw_20 : decode cX6_ballotOfDraw 20 = .ok (.getfield 18, 3) := by decide +kernel
theorem dX6_ballotOfDraw_23 : decode cX6_ballotOfDraw 23 = .ok (.arraylength, 1) := by decide +kernel
theorem dX6_ballotOfDraw_24 : decode cX6_ballotOfDraw 24 = .ok (.if_icmp .ge 30, 3) := by decide +kernel
theorem dX6_ballotOfDraw_27 : decode cX6_ballotOfDraw 27 = .ok (.lload_n 3, 1) := by decide +kernel
theorem dX6_ballotOfDraw_28 : decode cX6_ballotOfDraw 28 = .ok (.bipush 32, 2) := by decide +kernel
theorem dX6_ballotOfDraw_30 : decode cX6_ballotOfDraw 30 = .ok (.lshl, 1) := by decide +kernel
theorem dX6_ballotOfDraw_31 : decode cX6_ballotOfDraw 31 = .ok (.aload_n 0, 1) := by decide +kernel
theorem dX6_ballotOfDraw_32 : decode cX6_ballotOfDraw 32 = .ok (.getfield 18, 3) := by decide +kernel
theorem dX6_ballotOfDraw_35 : decode cX6_ballotOfDraw 35 = .ok (.iload 5, 2) := by decide +kernel
theorem dX6_ballotOfDraw_37 : decode cX6_ballotOfDraw 37 = .ok (.iaload, 1) := by decide +kernel
theorem dX6_ballotOfDraw_38 : decode cX6_ballotOfDraw 38 = .ok (.i2l, 1) := by decide +kernel
theorem dX6_ballotOfDraw_39 : decode cX6_ballotOfDraw 39 = .ok (.ldc2_w 29, 3) := by decide +kernel
theorem dX6_ballotOfDraw_42 : decode cX6_ballotOfDraw 42 = .ok (.land, 1) := by decide +kernel
theorem dX6_ballotOfDraw_43 : decode cX6_ballotOfDraw 43 = .ok (.lor, 1) := by decide +kernel
theorem dX6_ballotOfDraw_44 : decode cX6_ballotOfDraw 44 = .ok (.iload_n 2, 1) := by decide +kernel
theorem dX6_ballotOfDraw_45 : decode cX6_ballotOfDraw 45 = .ok (.i2l, 1) := by decide +kernel
theorem dX6_ballotOfDraw_46 : decode cX6_ballotOfDraw 46 = .ok (.lrem, 1) := by decide +kernel
theorem dX6_ballotOfDraw_47 : decode cX6_ballotOfDraw 47 = .ok (.lstore_n 3, 1) := by decide +kernel
theorem dX6_ballotOfDraw_48 : decode cX6_ballotOfDraw 48 = .ok (.iinc 5 1, 3) := by decide +kernel
theorem dX6_ballotOfDraw_51 : decode cX6_ballotOfDraw 51 = .ok (.goto (-34), 3) := by decide +kernel
theorem dX6_ballotOfDraw_54 : decode cX6_ballotOfDraw 54 = .ok (.lload_n 3, 1) := by decide +kernel
theorem dX6_ballotOfDraw_55 : decode cX6_ballotOfDraw 55 = .ok (.l2i, 1) := by decide +kernel
theorem dX6_ballotOfDraw_56 : decode cX6_ballotOfDraw 56 = .ok (.ireturn, 1) := by decide +kernel
theorem dX6_byteOfHash_0 : decode cX6_byteOfHash 0 = .ok (.aload_n 0, 1) := by decide +kernel
theorem dX6_byteOfHash_1 : decode cX6_byteOfHash 1 = .ok (.getfield 18, 3) := by decide +kernel
theorem dX6_byteOfHash_4 : decode cX6_byteOfHash 4 = .ok (.iload_n 1, 1) := by decide +kernel
theorem dX6_byteOfHash_5 : decode cX6_byteOfHash 5 = .ok (.iconst 2, 1) := by decide +kernel
theorem dX6_byteOfHash_6 : decode cX6_byteOfHash 6 = .ok (.ishr, 1) := by decide +kernel
theorem dX6_byteOfHash_7 : decode cX6_byteOfHash 7 = .ok (.iaload, 1) := by decide +kernel
theorem dX6_byteOfHash_8 : decode cX6_byteOfHash 8 = .ok (.iload_n 1, 1) := by decide +kernel
theorem dX6_byteOfHash_9 : decode cX6_byteOfHash 9 = .ok (.invokestatic 31, 3) := by decide +kernel
theorem dX6_byteOfHash_12 : decode cX6_byteOfHash 12 = .ok (.iushr, 1) := by decide +kernel
theorem dX6_byteOfHash_13 : decode cX6_byteOfHash 13 = .ok (.sipush 255, 3) := by decide +kernel
theorem dX6_byteOfHash_16 : decode cX6_byteOfHash 16 = .ok (.iand, 1) := by decide +kernel
theorem dX6_byteOfHash_17 : decode cX6_byteOfHash 17 = .ok (.ireturn, 1) := by decide +kernel
theorem dX6_hashWith_0 : decode cX6_hashWith 0 = .ok (.iconst 0, 1) := by decide +kernel
theorem dX6_hashWith_1 : decode cX6_hashWith 1 = .ok (.istore_n 2, 1) := by decide +kernel
theorem dX6_hashWith_2 : decode cX6_hashWith 2 = .ok (.iload_n 2, 1) := by decide +kernel
theorem dX6_hashWith_3 : decode cX6_hashWith 3 = .ok (.bipush 16, 2) := by decide +kernel
theorem dX6_hashWith_5 : decode cX6_hashWith 5 = .ok (.if_icmp .ge 16, 3) := by decide +kernel
theorem dX6_hashWith_8 : decode cX6_hashWith 8 = .ok (.aload_n 0, 1) := by decide +kernel
theorem dX6_hashWith_9 : decode cX6_hashWith 9 = .ok (.getfield 15, 3) := by decide +kernel
theorem dX6_hashWith_12 : decode cX6_hashWith 12 = .ok (.iload_n 2, 1) := by decide +kernel
theorem dX6_hashWith_13 : decode cX6_hashWith 13 = .ok (.iconst 0, 1) := by decide +kernel
theorem dX6_hashWith_14 : decode cX6_hashWith 14 = .ok (.iastore, 1) := by decide +kernel
theorem dX6_hashWith_15 : decode cX6_hashWith 15 = .ok (.iinc 2 1, 3) := by decide +kernel
theorem dX6_hashWith_18 : decode cX6_hashWith 18 = .ok (.goto (-16), 3) := by decide +kernel
theorem dX6_hashWith_21 : decode cX6_hashWith 21 = .ok (.iconst 0, 1) := by decide +kernel
theorem dX6_hashWith_22 : decode cX6_hashWith 22 = .ok (.istore_n 2, 1) := by decide +kernel
theorem dX6_hashWith_23 : decode cX6_hashWith 23 = .ok (.iconst 0, 1) := by decide +kernel
theorem dX6_hashWith_24 : decode cX6_hashWith 24 = .ok (.istore_n 3, 1) := by decide +kernel
theorem dX6_hashWith_25 : decode cX6_hashWith 25 = .ok (.iload_n 3, 1) := by decide +kernel
theorem dX6_hashWith_26 : decode cX6_hashWith 26 = .ok (.aload_n 0, 1) := by decide +kernel
theorem dX6_hashWith_27 : decode cX6_hashWith 27 = .ok (.getfield 21, 3) := by decide +kernel
theorem dX6_hashWith_30 : decode cX6_hashWith 30 = .ok (.if_icmp .ge 24, 3) := by decide +kernel
theorem dX6_hashWith_33 : decode cX6_hashWith 33 = .ok (.aload_n 0, 1) := by decide +kernel
theorem dX6_hashWith_34 : decode cX6_hashWith 34 = .ok (.iload_n 2, 1) := by decide +kernel
theorem dX6_hashWith_35 : decode cX6_hashWith 35 = .ok (.bipush 48, 2) := by decide +kernel
theorem dX6_hashWith_37 : decode cX6_hashWith 37 = .ok (.aload_n 0, 1) := by decide +kernel
theorem dX6_hashWith_38 : decode cX6_hashWith 38 = .ok (.getfield 9, 3) := by decide +kernel
theorem dX6_hashWith_41 : decode cX6_hashWith 41 = .ok (.iload_n 3, 1) := by decide +kernel
theorem dX6_hashWith_42 : decode cX6_hashWith 42 = .ok (.iaload, 1) := by decide +kernel
theorem dX6_hashWith_43 : decode cX6_hashWith 43 = .ok (.iadd, 1) := by decide +kernel
theorem dX6_hashWith_44 : decode cX6_hashWith 44 = .ok (.invokevirtual 35, 3) := by decide +kernel
theorem dX6_hashWith_47 : decode cX6_hashWith 47 = .ok (.istore_n 2, 1) := by decide +kernel
theorem dX6_hashWith_48 : decode cX6_hashWith 48 = .ok (.iinc 3 1, 3) := by decide +kernel
theorem dX6_hashWith_51 : decode cX6_hashWith 51 = .ok (.goto (-26), 3) := by decide +kernel
theorem dX6_hashWith_54 : decode cX6_hashWith 54 = .ok (.aload_n 0, 1) := by decide +kernel
theorem dX6_hashWith_55 : decode cX6_hashWith 55 = .ok (.iload_n 2, 1) := by decide +kernel
theorem dX6_hashWith_56 : decode cX6_hashWith 56 = .ok (.bipush 44, 2) := by decide +kernel
theorem dX6_hashWith_58 : decode cX6_hashWith 58 = .ok (.invokevirtual 35, 3) := by decide +kernel
theorem dX6_hashWith_61 : decode cX6_hashWith 61 = .ok (.istore_n 2, 1) := by decide +kernel
theorem dX6_hashWith_62 : decode cX6_hashWith 62 = .ok (.ldc 39, 2) := by decide +kernel
theorem dX6_hashWith_64 : decode cX6_hashWith 64 = .ok (.istore_n 3, 1) := by decide +kernel
theorem dX6_hashWith_65 : decode cX6_hashWith 65 = .ok (.iload_n 3, 1) := by decide +kernel
theorem dX6_hashWith_66 : decode cX6_hashWith 66 = .ok (.ifCond .le 31, 3) := by decide +kernel
theorem dX6_hashWith_69 : decode cX6_hashWith 69 = .ok (.iload_n 1, 1) := by decide +kernel
theorem dX6_hashWith_70 : decode cX6_hashWith 70 = .ok (.iload_n 3, 1) := by decide +kernel
theorem dX6_hashWith_71 : decode cX6_hashWith 71 = .ok (.if_icmp .lt 18, 3) := by decide +kernel
theorem dX6_hashWith_74 : decode cX6_hashWith 74 = .ok (.aload_n 0, 1) := by decide +kernel
theorem dX6_hashWith_75 : decode cX6_hashWith 75 = .ok (.iload_n 2, 1) := by decide +kernel
theorem dX6_hashWith_76 : decode cX6_hashWith 76 = .ok (.bipush 48, 2) := by decide +kernel
theorem dX6_hashWith_78 : decode cX6_hashWith 78 = .ok (.iload_n 1, 1) := by decide +kernel
theorem dX6_hashWith_79 : decode cX6_hashWith 79 = .ok (.iload_n 3, 1) := by decide +kernel
theorem dX6_hashWith_80 : decode cX6_hashWith 80 = .ok (.idiv, 1) := by decide +kernel
theorem dX6_hashWith_81 : decode cX6_hashWith 81 = .ok (.bipush 10, 2) := by decide +kernel
theorem dX6_hashWith_83 : decode cX6_hashWith 83 = .ok (.irem, 1) := by decide +kernel
theorem dX6_hashWith_84 : decode cX6_hashWith 84 = .ok (.iadd, 1) := by decide +kernel
theorem dX6_hashWith_85 : decode cX6_hashWith 85 = .ok (.invokevirtual 35, 3) := by decide +kernel
theorem dX6_hashWith_88 : decode cX6_hashWith 88 = .ok (.istore_n 2, 1) := by decide +kernel
theorem dX6_hashWith_89 : decode cX6_hashWith 89 = .ok (.iload_n 3, 1) := by decide +kernel
theorem dX6_hashWith_90 : decode cX6_hashWith 90 = .ok (.bipush 10, 2) := by decide +kernel
theorem dX6_hashWith_92 : decode cX6_hashWith 92 = .ok (.idiv, 1) := by decide +kernel
theorem dX6_hashWith_93 : decode cX6_hashWith 93 = .ok (.istore_n 3, 1) := by decide +kernel
theorem dX6_hashWith_94 : decode cX6_hashWith 94 = .ok (.goto (-29), 3) := by decide +kernel
theorem dX6_hashWith_97 : decode cX6_hashWith 97 = .ok (.aload_n 0, 1) := by decide +kernel
theorem dX6_hashWith_98 : decode cX6_hashWith 98 = .ok (.iload_n 2, 1) := by decide +kernel
theorem dX6_hashWith_99 : decode cX6_hashWith 99 = .ok (.sipush 128, 3) := by decide +kernel
theorem dX6_hashWith_102 : decode cX6_hashWith 102 = .ok (.invokevirtual 35, 3) := by decide +kernel
theorem dX6_hashWith_105 : decode cX6_hashWith 105 = .ok (.pop, 1) := by decide +kernel
theorem dX6_hashWith_106 : decode cX6_hashWith 106 = .ok (.aload_n 0, 1) := by decide +kernel
theorem dX6_hashWith_107 : decode cX6_hashWith 107 = .ok (.getfield 15, 3) := by decide +kernel
theorem dX6_hashWith_110 : decode cX6_hashWith 110 = .ok (.bipush 15, 2) := by decide +kernel
theorem dX6_hashWith_112 : decode cX6_hashWith 112 = .ok (.bipush 8, 2) := by decide +kernel
theorem dX6_hashWith_114 : decode cX6_hashWith 114 = .ok (.iload_n 2, 1) := by decide +kernel
theorem dX6_hashWith_115 : decode cX6_hashWith 115 = .ok (.imul, 1) := by decide +kernel
theorem dX6_hashWith_116 : decode cX6_hashWith 116 = .ok (.iastore, 1) := by decide +kernel
theorem dX6_hashWith_117 : decode cX6_hashWith 117 = .ok (.aload_n 0, 1) := by decide +kernel
theorem dX6_hashWith_118 : decode cX6_hashWith 118 = .ok (.invokevirtual 40, 3) := by decide +kernel
theorem dX6_hashWith_121 : decode cX6_hashWith 121 = .ok (.aload_n 0, 1) := by decide +kernel
theorem dX6_hashWith_122 : decode cX6_hashWith 122 = .ok (.invokevirtual 43, 3) := by decide +kernel
theorem dX6_hashWith_125 : decode cX6_hashWith 125 = .ok (.return_, 1) := by decide +kernel
theorem dX6_shiftOf_0 : decode cX6_shiftOf 0 = .ok (.bipush 24, 2) := by decide +kernel
theorem dX6_shiftOf_2 : decode cX6_shiftOf 2 = .ok (.bipush 8, 2) := by decide +kernel
theorem dX6_shiftOf_4 : decode cX6_shiftOf 4 = .ok (.iload_n 0, 1) := by decide +kernel
theorem dX6_shiftOf_5 : decode cX6_shiftOf 5 = .ok (.iconst 3, 1) := by decide +kernel
theorem dX6_shiftOf_6 : decode cX6_shiftOf 6 = .ok (.iand, 1) := by decide +kernel
theorem dX6_shiftOf_7 : decode cX6_shiftOf 7 = .ok (.imul, 1) := by decide +kernel
theorem dX6_shiftOf_8 : decode cX6_shiftOf 8 = .ok (.isub, 1) := by decide +kernel
theorem dX6_shiftOf_9 : decode cX6_shiftOf 9 = .ok (.ireturn, 1) := by decide +kernel
theorem dX6_putByte_0 : decode cX6_putByte 0 = .ok (.aload_n 0, 1) := by decide +kernel
theorem dX6_putByte_1 : decode cX6_putByte 1 = .ok (.getfield 15, 3) := by decide +kernel
theorem dX6_putByte_4 : decode cX6_putByte 4 = .ok (.iload_n 1, 1) := by decide +kernel
theorem dX6_putByte_5 : decode cX6_putByte 5 = .ok (.iconst 2, 1) := by decide +kernel
theorem dX6_putByte_6 : decode cX6_putByte 6 = .ok (.ishr, 1) := by decide +kernel
theorem dX6_putByte_7 : decode cX6_putByte 7 = .ok (.dup2, 1) := by decide +kernel
theorem dX6_putByte_8 : decode cX6_putByte 8 = .ok (.iaload, 1) := by decide +kernel
theorem dX6_putByte_9 : decode cX6_putByte 9 = .ok (.iload_n 2, 1) := by decide +kernel
theorem dX6_putByte_10 : decode cX6_putByte 10 = .ok (.iload_n 1, 1) := by decide +kernel
theorem dX6_putByte_11 : decode cX6_putByte 11 = .ok (.invokestatic 31, 3) := by decide +kernel
theorem dX6_putByte_14 : decode cX6_putByte 14 = .ok (.ishl, 1) := by decide +kernel
theorem dX6_putByte_15 : decode cX6_putByte 15 = .ok (.ior, 1) := by decide +kernel
theorem dX6_putByte_16 : decode cX6_putByte 16 = .ok (.iastore, 1) := by decide +kernel
theorem dX6_putByte_17 : decode cX6_putByte 17 = .ok (.iload_n 1, 1) := by decide +kernel
theorem dX6_putByte_18 : decode cX6_putByte 18 = .ok (.iconst 1, 1) := by decide +kernel
theorem dX6_putByte_19 : decode cX6_putByte 19 = .ok (.iadd, 1) := by decide +kernel
theorem dX6_putByte_20 : decode cX6_putByte 20 = .ok (.ireturn, 1) := by decide +kernel
theorem dX6_turn_0 : decode cX6_turn 0 = .ok (.iload_n 0, 1) := by decide +kernel
theorem dX6_turn_1 : decode cX6_turn 1 = .ok (.iload_n 1, 1) := by decide +kernel
theorem dX6_turn_2 : decode cX6_turn 2 = .ok (.iushr, 1) := by decide +kernel
theorem dX6_turn_3 : decode cX6_turn 3 = .ok (.iload_n 0, 1) := by decide +kernel
theorem dX6_turn_4 : decode cX6_turn 4 = .ok (.bipush 32, 2) := by decide +kernel
theorem dX6_turn_6 : decode cX6_turn 6 = .ok (.iload_n 1, 1) := by decide +kernel
theorem dX6_turn_7 : decode cX6_turn 7 = .ok (.isub, 1) := by decide +kernel
theorem dX6_turn_8 : decode cX6_turn 8 = .ok (.ishl, 1) := by decide +kernel
theorem dX6_turn_9 : decode cX6_turn 9 = .ok (.ior, 1) := by decide +kernel
theorem dX6_turn_10 : decode cX6_turn 10 = .ok (.ireturn, 1) := by decide +kernel
theorem dX6_spreadWords_0 : decode cX6_spreadWords 0 = .ok (.bipush 16, 2) := by decide +kernel
theorem dX6_spreadWords_2 : decode cX6_spreadWords 2 = .ok (.istore_n 1, 1) := by decide +kernel
theorem dX6_spreadWords_3 : decode cX6_spreadWords 3 = .ok (.iload_n 1, 1) := by decide +kernel
theorem dX6_spreadWords_4 : decode cX6_spreadWords 4 = .ok (.bipush 64, 2) := by decide +kernel
theorem dX6_spreadWords_6 : decode cX6_spreadWords 6 = .ok (.if_icmp .ge 98, 3) := by decide +kernel
theorem dX6_spreadWords_9 : decode cX6_spreadWords 9 = .ok (.aload_n 0, 1) := by decide +kernel
theorem dX6_spreadWords_10 : decode cX6_spreadWords 10 = .ok (.getfield 15, 3) := by decide +kernel
theorem dX6_spreadWords_13 : decode cX6_spreadWords 13 = .ok (.iload_n 1, 1) := by decide +kernel
theorem dX6_spreadWords_14 : decode cX6_spreadWords 14 = .ok (.iconst 2, 1) := by decide +kernel
theorem dX6_spreadWords_15 : decode cX6_spreadWords 15 = .ok (.isub, 1) := by decide +kernel
theorem dX6_spreadWords_16 : decode cX6_spreadWords 16 = .ok (.iaload, 1) := by decide +kernel
theorem dX6_spreadWords_17 : decode cX6_spreadWords 17 = .ok (.istore_n 2, 1) := by decide +kernel
theorem dX6_spreadWords_18 : decode cX6_spreadWords 18 = .ok (.aload_n 0, 1) := by decide +kernel
theorem dX6_spreadWords_19 : decode cX6_spreadWords 19 = .ok (.getfield 15, 3) := by decide +kernel
theorem dX6_spreadWords_22 : decode cX6_spreadWords 22 = .ok (.iload_n 1, 1) := by decide +kernel
theorem dX6_spreadWords_23 : decode cX6_spreadWords 23 = .ok (.bipush 15, 2) := by decide +kernel
theorem dX6_spreadWords_25 : decode cX6_spreadWords 25 = .ok (.isub, 1) := by decide +kernel
theorem dX6_spreadWords_26 : decode cX6_spreadWords 26 = .ok (.iaload, 1) := by decide +kernel
theorem dX6_spreadWords_27 : decode cX6_spreadWords 27 = .ok (.istore_n 3, 1) := by decide +kernel
theorem dX6_spreadWords_28 : decode cX6_spreadWords 28 = .ok (.iload_n 3, 1) := by decide +kernel
theorem dX6_spreadWords_29 : decode cX6_spreadWords 29 = .ok (.bipush 7, 2) := by decide +kernel
theorem dX6_spreadWords_31 : decode cX6_spreadWords 31 = .ok (.invokestatic 46, 3) := by decide +kernel
theorem dX6_spreadWords_34 : decode cX6_spreadWords 34 = .ok (.iload_n 3, 1) := by decide +kernel
theorem dX6_spreadWords_35 : decode cX6_spreadWords 35 = .ok (.bipush 18, 2) := by decide +kernel
theorem dX6_spreadWords_37 : decode cX6_spreadWords 37 = .ok (.invokestatic 46, 3) := by decide +kernel
theorem dX6_spreadWords_40 : decode cX6_spreadWords 40 = .ok (.ixor, 1) := by decide +kernel
theorem dX6_spreadWords_41 : decode cX6_spreadWords 41 = .ok (.iload_n 3, 1) := by decide +kernel
theorem dX6_spreadWords_42 : decode cX6_spreadWords 42 = .ok (.iconst 3, 1) := by decide +kernel
theorem dX6_spreadWords_43 : decode cX6_spreadWords 43 = .ok (.iushr, 1) := by decide +kernel
theorem dX6_spreadWords_44 : decode cX6_spreadWords 44 = .ok (.ixor, 1) := by decide +kernel
theorem dX6_spreadWords_45 : decode cX6_spreadWords 45 = .ok (.istore 4, 2) := by decide +kernel
theorem dX6_spreadWords_47 : decode cX6_spreadWords 47 = .ok (.iload_n 2, 1) := by decide +kernel
theorem dX6_spreadWords_48 : decode cX6_spreadWords 48 = .ok (.bipush 17, 2) := by decide +kernel
theorem dX6_spreadWords_50 : decode cX6_spreadWords 50 = .ok (.invokestatic 46, 3) := by decide +kernel
theorem dX6_spreadWords_53 : decode cX6_spreadWords 53 = .ok (.iload_n 2, 1) := by decide +kernel
theorem dX6_spreadWords_54 : decode cX6_spreadWords 54 = .ok (.bipush 19, 2) := by decide +kernel
theorem dX6_spreadWords_56 : decode cX6_spreadWords 56 = .ok (.invokestatic 46, 3) := by decide +kernel
theorem dX6_spreadWords_59 : decode cX6_spreadWords 59 = .ok (.ixor, 1) := by decide +kernel
theorem dX6_spreadWords_60 : decode cX6_spreadWords 60 = .ok (.iload_n 2, 1) := by decide +kernel
theorem dX6_spreadWords_61 : decode cX6_spreadWords 61 = .ok (.bipush 10, 2) := by decide +kernel
theorem dX6_spreadWords_63 : decode cX6_spreadWords 63 = .ok (.iushr, 1) := by decide +kernel
theorem dX6_spreadWords_64 : decode cX6_spreadWords 64 = .ok (.ixor, 1) := by decide +kernel
theorem dX6_spreadWords_65 : decode cX6_spreadWords 65 = .ok (.istore 5, 2) := by decide +kernel
theorem dX6_spreadWords_67 : decode cX6_spreadWords 67 = .ok (.aload_n 0, 1) := by decide +kernel
theorem dX6_spreadWords_68 : decode cX6_spreadWords 68 = .ok (.getfield 15, 3) := by decide +kernel
theorem dX6_spreadWords_71 : decode cX6_spreadWords 71 = .ok (.iload_n 1, 1) := by decide +kernel
theorem dX6_spreadWords_72 : decode cX6_spreadWords 72 = .ok (.aload_n 0, 1) := by decide +kernel
theorem dX6_spreadWords_73 : decode cX6_spreadWords 73 = .ok (.getfield 15, 3) := by decide +kernel
theorem dX6_spreadWords_76 : decode cX6_spreadWords 76 = .ok (.iload_n 1, 1) := by decide +kernel
theorem dX6_spreadWords_77 : decode cX6_spreadWords 77 = .ok (.bipush 16, 2) := by decide +kernel
theorem dX6_spreadWords_79 : decode cX6_spreadWords 79 = .ok (.isub, 1) := by decide +kernel
theorem dX6_spreadWords_80 : decode cX6_spreadWords 80 = .ok (.iaload, 1) := by decide +kernel
theorem dX6_spreadWords_81 : decode cX6_spreadWords 81 = .ok (.iload 4, 2) := by decide +kernel
theorem dX6_spreadWords_83 : decode cX6_spreadWords 83 = .ok (.iadd, 1) := by decide +kernel
theorem dX6_spreadWords_84 : decode cX6_spreadWords 84 = .ok (.aload_n 0, 1) := by decide +kernel
theorem dX6_spreadWords_85 : decode cX6_spreadWords 85 = .ok (.getfield 15, 3) := by decide +kernel
theorem dX6_spreadWords_88 : decode cX6_spreadWords 88 = .ok (.iload_n 1, 1) := by decide +kernel
theorem dX6_spreadWords_89 : decode cX6_spreadWords 89 = .ok (.bipush 7, 2) := by decide +kernel
theorem dX6_spreadWords_91 : decode cX6_spreadWords 91 = .ok (.isub, 1) := by decide +kernel
theorem dX6_spreadWords_92 : decode cX6_spreadWords 92 = .ok (.iaload, 1) := by decide +kernel
theorem dX6_spreadWords_93 : decode cX6_spreadWords 93 = .ok (.iadd, 1) := by decide +kernel
theorem dX6_spreadWords_94 : decode cX6_spreadWords 94 = .ok (.iload 5, 2) := by decide +kernel
theorem dX6_spreadWords_96 : decode cX6_spreadWords 96 = .ok (.iadd, 1) := by decide +kernel
theorem dX6_spreadWords_97 : decode cX6_spreadWords 97 = .ok (.iastore, 1) := by decide +kernel
theorem dX6_spreadWords_98 : decode cX6_spreadWords 98 = .ok (.iinc 1 1, 3) := by decide +kernel
theorem dX6_spreadWords_101 : decode cX6_spreadWords 101 = .ok (.goto (-98), 3) := by decide +kernel
theorem dX6_spreadWords_104 : decode cX6_spreadWords 104 = .ok (.return_, 1) := by decide +kernel
theorem dX6_mixWords_0 : decode cX6_mixWords 0 = .ok (.getstatic 49, 3) := by decide +kernel
theorem dX6_mixWords_3 : decode cX6_mixWords 3 = .ok (.iconst 0, 1) := by decide +kernel
theorem dX6_mixWords_4 : decode cX6_mixWords 4 = .ok (.iaload, 1) := by decide +kernel
theorem dX6_mixWords_5 : decode cX6_mixWords 5 = .ok (.istore_n 1, 1) := by decide +kernel
theorem dX6_mixWords_6 : decode cX6_mixWords 6 = .ok (.getstatic 49, 3) := by decide +kernel
theorem dX6_mixWords_9 : decode cX6_mixWords 9 = .ok (.iconst 1, 1) := by decide +kernel
theorem dX6_mixWords_10 : decode cX6_mixWords 10 = .ok (.iaload, 1) := by decide +kernel
theorem dX6_mixWords_11 : decode cX6_mixWords 11 = .ok (.istore_n 2, 1) := by decide +kernel
theorem dX6_mixWords_12 : decode cX6_mixWords 12 = .ok (.getstatic 49, 3) := by decide +kernel
theorem dX6_mixWords_15 : decode cX6_mixWords 15 = .ok (.iconst 2, 1) := by decide +kernel
theorem dX6_mixWords_16 : decode cX6_mixWords 16 = .ok (.iaload, 1) := by decide +kernel
theorem dX6_mixWords_17 : decode cX6_mixWords 17 = .ok (.istore_n 3, 1) := by decide +kernel
theorem dX6_mixWords_18 : decode cX6_mixWords 18 = .ok (.getstatic 49, 3) := by decide +kernel
theorem dX6_mixWords_21 : decode cX6_mixWords 21 = .ok (.iconst 3, 1) := by decide +kernel
theorem dX6_mixWords_22 : decode cX6_mixWords 22 = .ok (.iaload, 1) := by decide +kernel
theorem dX6_mixWords_23 : decode cX6_mixWords 23 = .ok (.istore 4, 2) := by decide +kernel
theorem dX6_mixWords_25 : decode cX6_mixWords 25 = .ok (.getstatic 49, 3) := by decide +kernel
theorem dX6_mixWords_28 : decode cX6_mixWords 28 = .ok (.iconst 4, 1) := by decide +kernel
theorem dX6_mixWords_29 : decode cX6_mixWords 29 = .ok (.iaload, 1) := by decide +kernel
theorem dX6_mixWords_30 : decode cX6_mixWords 30 = .ok (.istore 5, 2) := by decide +kernel
theorem dX6_mixWords_32 : decode cX6_mixWords 32 = .ok (.getstatic 49, 3) := by decide +kernel
theorem dX6_mixWords_35 : decode cX6_mixWords 35 = .ok (.iconst 5, 1) := by decide +kernel
theorem dX6_mixWords_36 : decode cX6_mixWords 36 = .ok (.iaload, 1) := by decide +kernel
theorem dX6_mixWords_37 : decode cX6_mixWords 37 = .ok (.istore 6, 2) := by decide +kernel
theorem dX6_mixWords_39 : decode cX6_mixWords 39 = .ok (.getstatic 49, 3) := by decide +kernel
theorem dX6_mixWords_42 : decode cX6_mixWords 42 = .ok (.bipush 6, 2) := by decide +kernel
theorem dX6_mixWords_44 : decode cX6_mixWords 44 = .ok (.iaload, 1) := by decide +kernel
theorem dX6_mixWords_45 : decode cX6_mixWords 45 = .ok (.istore 7, 2) := by decide +kernel
theorem dX6_mixWords_47 : decode cX6_mixWords 47 = .ok (.getstatic 49, 3) := by decide +kernel
theorem dX6_mixWords_50 : decode cX6_mixWords 50 = .ok (.bipush 7, 2) := by decide +kernel
theorem dX6_mixWords_52 : decode cX6_mixWords 52 = .ok (.iaload, 1) := by decide +kernel
theorem dX6_mixWords_53 : decode cX6_mixWords 53 = .ok (.istore 8, 2) := by decide +kernel
theorem dX6_mixWords_55 : decode cX6_mixWords 55 = .ok (.iconst 0, 1) := by decide +kernel
theorem dX6_mixWords_56 : decode cX6_mixWords 56 = .ok (.istore 9, 2) := by decide +kernel
theorem dX6_mixWords_58 : decode cX6_mixWords 58 = .ok (.iload 9, 2) := by decide +kernel
theorem dX6_mixWords_60 : decode cX6_mixWords 60 = .ok (.bipush 64, 2) := by decide +kernel
theorem dX6_mixWords_62 : decode cX6_mixWords 62 = .ok (.if_icmp .ge 131, 3) := by decide +kernel
theorem dX6_mixWords_65 : decode cX6_mixWords 65 = .ok (.iload 8, 2) := by decide +kernel
theorem dX6_mixWords_67 : decode cX6_mixWords 67 = .ok (.iload 5, 2) := by decide +kernel
theorem dX6_mixWords_69 : decode cX6_mixWords 69 = .ok (.bipush 6, 2) := by decide +kernel
theorem dX6_mixWords_71 : decode cX6_mixWords 71 = .ok (.invokestatic 46, 3) := by decide +kernel
theorem dX6_mixWords_74 : decode cX6_mixWords 74 = .ok (.iload 5, 2) := by decide +kernel
theorem dX6_mixWords_76 : decode cX6_mixWords 76 = .ok (.bipush 11, 2) := by decide +kernel
theorem dX6_mixWords_78 : decode cX6_mixWords 78 = .ok (.invokestatic 46, 3) := by decide +kernel
theorem dX6_mixWords_81 : decode cX6_mixWords 81 = .ok (.ixor, 1) := by decide +kernel
theorem dX6_mixWords_82 : decode cX6_mixWords 82 = .ok (.iload 5, 2) := by decide +kernel
theorem dX6_mixWords_84 : decode cX6_mixWords 84 = .ok (.bipush 25, 2) := by decide +kernel
theorem dX6_mixWords_86 : decode cX6_mixWords 86 = .ok (.invokestatic 46, 3) := by decide +kernel
theorem dX6_mixWords_89 : decode cX6_mixWords 89 = .ok (.ixor, 1) := by decide +kernel
theorem dX6_mixWords_90 : decode cX6_mixWords 90 = .ok (.iadd, 1) := by decide +kernel
theorem dX6_mixWords_91 : decode cX6_mixWords 91 = .ok (.iload 5, 2) := by decide +kernel
theorem dX6_mixWords_93 : decode cX6_mixWords 93 = .ok (.iload 6, 2) := by decide +kernel
theorem dX6_mixWords_95 : decode cX6_mixWords 95 = .ok (.iand, 1) := by decide +kernel
theorem dX6_mixWords_96 : decode cX6_mixWords 96 = .ok (.iload 5, 2) := by decide +kernel
theorem dX6_mixWords_98 : decode cX6_mixWords 98 = .ok (.iconst (-1), 1) := by decide +kernel
theorem dX6_mixWords_99 : decode cX6_mixWords 99 = .ok (.ixor, 1) := by decide +kernel
theorem dX6_mixWords_100 : decode cX6_mixWords 100 = .ok (.iload 7, 2) := by decide +kernel
theorem dX6_mixWords_102 : decode cX6_mixWords 102 = .ok (.iand, 1) := by decide +kernel
theorem dX6_mixWords_103 : decode cX6_mixWords 103 = .ok (.ixor, 1) := by decide +kernel
theorem dX6_mixWords_104 : decode cX6_mixWords 104 = .ok (.iadd, 1) := by decide +kernel
theorem dX6_mixWords_105 : decode cX6_mixWords 105 = .ok (.getstatic 52, 3) := by decide +kernel
theorem dX6_mixWords_108 : decode cX6_mixWords 108 = .ok (.iload 9, 2) := by decide +kernel
theorem dX6_mixWords_110 : decode cX6_mixWords 110 = .ok (.iaload, 1) := by decide +kernel
theorem dX6_mixWords_111 : decode cX6_mixWords 111 = .ok (.iadd, 1) := by decide +kernel
theorem dX6_mixWords_112 : decode cX6_mixWords 112 = .ok (.aload_n 0, 1) := by decide +kernel
theorem dX6_mixWords_113 : decode cX6_mixWords 113 = .ok (.getfield 15, 3) := by decide +kernel
theorem dX6_mixWords_116 : decode cX6_mixWords 116 = .ok (.iload 9, 2) := by decide +kernel
theorem dX6_mixWords_118 : decode cX6_mixWords 118 = .ok (.iaload, 1) := by decide +kernel
theorem dX6_mixWords_119 : decode cX6_mixWords 119 = .ok (.iadd, 1) := by decide +kernel
theorem dX6_mixWords_120 : decode cX6_mixWords 120 = .ok (.istore 10, 2) := by decide +kernel
theorem dX6_mixWords_122 : decode cX6_mixWords 122 = .ok (.iload_n 1, 1) := by decide +kernel
theorem dX6_mixWords_123 : decode cX6_mixWords 123 = .ok (.iconst 2, 1) := by decide +kernel
theorem dX6_mixWords_124 : decode cX6_mixWords 124 = .ok (.invokestatic 46, 3) := by decide +kernel
theorem dX6_mixWords_127 : decode cX6_mixWords 127 = .ok (.iload_n 1, 1) := by decide +kernel
theorem dX6_mixWords_128 : decode cX6_mixWords 128 = .ok (.bipush 13, 2) := by decide +kernel
theorem dX6_mixWords_130 : decode cX6_mixWords 130 = .ok (.invokestatic 46, 3) := by decide +kernel
theorem dX6_mixWords_133 : decode cX6_mixWords 133 = .ok (.ixor, 1) := by decide +kernel
theorem dX6_mixWords_134 : decode cX6_mixWords 134 = .ok (.iload_n 1, 1) := by decide +kernel
theorem dX6_mixWords_135 : decode cX6_mixWords 135 = .ok (.bipush 22, 2) := by decide +kernel
theorem dX6_mixWords_137 : decode cX6_mixWords 137 = .ok (.invokestatic 46, 3) := by decide +kernel
theorem dX6_mixWords_140 : decode cX6_mixWords 140 = .ok (.ixor, 1) := by decide +kernel
theorem dX6_mixWords_141 : decode cX6_mixWords 141 = .ok (.iload_n 1, 1) := by decide +kernel
theorem dX6_mixWords_142 : decode cX6_mixWords 142 = .ok (.iload_n 2, 1) := by decide +kernel
theorem dX6_mixWords_143 : decode cX6_mixWords 143 = .ok (.iand, 1) := by decide +kernel
theorem dX6_mixWords_144 : decode cX6_mixWords 144 = .ok (.iload_n 1, 1) := by decide +kernel
theorem dX6_mixWords_145 : decode cX6_mixWords 145 = .ok (.iload_n 3, 1) := by decide +kernel
theorem dX6_mixWords_146 : decode cX6_mixWords 146 = .ok (.iand, 1) := by decide +kernel
theorem dX6_mixWords_147 : decode cX6_mixWords 147 = .ok (.ixor, 1) := by decide +kernel
theorem dX6_mixWords_148 : decode cX6_mixWords 148 = .ok (.iload_n 2, 1) := by decide +kernel
theorem dX6_mixWords_149 : decode cX6_mixWords 149 = .ok (.iload_n 3, 1) := by decide +kernel
theorem dX6_mixWords_150 : decode cX6_mixWords 150 = .ok (.iand, 1) := by decide +kernel
theorem dX6_mixWords_151 : decode cX6_mixWords 151 = .ok (.ixor, 1) := by decide +kernel
theorem dX6_mixWords_152 : decode cX6_mixWords 152 = .ok (.iadd, 1) := by decide +kernel
theorem dX6_mixWords_153 : decode cX6_mixWords 153 = .ok (.istore 11, 2) := by decide +kernel
theorem dX6_mixWords_155 : decode cX6_mixWords 155 = .ok (.iload 7, 2) := by decide +kernel
theorem dX6_mixWords_157 : decode cX6_mixWords 157 = .ok (.istore 8, 2) := by decide +kernel
theorem dX6_mixWords_159 : decode cX6_mixWords 159 = .ok (.iload 6, 2) := by decide +kernel
theorem dX6_mixWords_161 : decode cX6_mixWords 161 = .ok (.istore 7, 2) := by decide +kernel
theorem dX6_mixWords_163 : decode cX6_mixWords 163 = .ok (.iload 5, 2) := by decide +kernel
theorem dX6_mixWords_165 : decode cX6_mixWords 165 = .ok (.istore 6, 2) := by decide +kernel
theorem dX6_mixWords_167 : decode cX6_mixWords 167 = .ok (.iload 4, 2) := by decide +kernel
theorem dX6_mixWords_169 : decode cX6_mixWords 169 = .ok (.iload 10, 2) := by decide +kernel
theorem dX6_mixWords_171 : decode cX6_mixWords 171 = .ok (.iadd, 1) := by decide +kernel
theorem dX6_mixWords_172 : decode cX6_mixWords 172 = .ok (.istore 5, 2) := by decide +kernel
theorem dX6_mixWords_174 : decode cX6_mixWords 174 = .ok (.iload_n 3, 1) := by decide +kernel
theorem dX6_mixWords_175 : decode cX6_mixWords 175 = .ok (.istore 4, 2) := by decide +kernel
theorem dX6_mixWords_177 : decode cX6_mixWords 177 = .ok (.iload_n 2, 1) := by decide +kernel
theorem dX6_mixWords_178 : decode cX6_mixWords 178 = .ok (.istore_n 3, 1) := by decide +kernel
theorem dX6_mixWords_179 : decode cX6_mixWords 179 = .ok (.iload_n 1, 1) := by decide +kernel
theorem dX6_mixWords_180 : decode cX6_mixWords 180 = .ok (.istore_n 2, 1) := by decide +kernel
theorem dX6_mixWords_181 : decode cX6_mixWords 181 = .ok (.iload 10, 2) := by decide +kernel
theorem dX6_mixWords_183 : decode cX6_mixWords 183 = .ok (.iload 11, 2) := by decide +kernel
theorem dX6_mixWords_185 : decode cX6_mixWords 185 = .ok (.iadd, 1) := by decide +kernel
theorem dX6_mixWords_186 : decode cX6_mixWords 186 = .ok (.istore_n 1, 1) := by decide +kernel
theorem dX6_mixWords_187 : decode cX6_mixWords 187 = .ok (.iinc 9 1, 3) := by decide +kernel
theorem dX6_mixWords_190 : decode cX6_mixWords 190 = .ok (.goto (-132), 3) := by decide +kernel
theorem dX6_mixWords_193 : decode cX6_mixWords 193 = .ok (.aload_n 0, 1) := by decide +kernel
theorem dX6_mixWords_194 : decode cX6_mixWords 194 = .ok (.getfield 18, 3) := by decide +kernel
theorem dX6_mixWords_197 : decode cX6_mixWords 197 = .ok (.iconst 0, 1) := by decide +kernel
theorem dX6_mixWords_198 : decode cX6_mixWords 198 = .ok (.getstatic 49, 3) := by decide +kernel
theorem dX6_mixWords_201 : decode cX6_mixWords 201 = .ok (.iconst 0, 1) := by decide +kernel
theorem dX6_mixWords_202 : decode cX6_mixWords 202 = .ok (.iaload, 1) := by decide +kernel
theorem dX6_mixWords_203 : decode cX6_mixWords 203 = .ok (.iload_n 1, 1) := by decide +kernel
theorem dX6_mixWords_204 : decode cX6_mixWords 204 = .ok (.iadd, 1) := by decide +kernel
theorem dX6_mixWords_205 : decode cX6_mixWords 205 = .ok (.iastore, 1) := by decide +kernel
theorem dX6_mixWords_206 : decode cX6_mixWords 206 = .ok (.aload_n 0, 1) := by decide +kernel
theorem dX6_mixWords_207 : decode cX6_mixWords 207 = .ok (.getfield 18, 3) := by decide +kernel
theorem dX6_mixWords_210 : decode cX6_mixWords 210 = .ok (.iconst 1, 1) := by decide +kernel
theorem dX6_mixWords_211 : decode cX6_mixWords 211 = .ok (.getstatic 49, 3) := by decide +kernel
theorem dX6_mixWords_214 : decode cX6_mixWords 214 = .ok (.iconst 1, 1) := by decide +kernel
theorem dX6_mixWords_215 : decode cX6_mixWords 215 = .ok (.iaload, 1) := by decide +kernel
theorem dX6_mixWords_216 : decode cX6_mixWords 216 = .ok (.iload_n 2, 1) := by decide +kernel
theorem dX6_mixWords_217 : decode cX6_mixWords 217 = .ok (.iadd, 1) := by decide +kernel
theorem dX6_mixWords_218 : decode cX6_mixWords 218 = .ok (.iastore, 1) := by decide +kernel
theorem dX6_mixWords_219 : decode cX6_mixWords 219 = .ok (.aload_n 0, 1) := by decide +kernel
theorem dX6_mixWords_220 : decode cX6_mixWords 220 = .ok (.getfield 18, 3) := by decide +kernel
theorem dX6_mixWords_223 : decode cX6_mixWords 223 = .ok (.iconst 2, 1) := by decide +kernel
theorem dX6_mixWords_224 : decode cX6_mixWords 224 = .ok (.getstatic 49, 3) := by decide +kernel
theorem dX6_mixWords_227 : decode cX6_mixWords 227 = .ok (.iconst 2, 1) := by decide +kernel
theorem dX6_mixWords_228 : decode cX6_mixWords 228 = .ok (.iaload, 1) := by decide +kernel
theorem dX6_mixWords_229 : decode cX6_mixWords 229 = .ok (.iload_n 3, 1) := by decide +kernel
theorem dX6_mixWords_230 : decode cX6_mixWords 230 = .ok (.iadd, 1) := by decide +kernel
theorem dX6_mixWords_231 : decode cX6_mixWords 231 = .ok (.iastore, 1) := by decide +kernel
theorem dX6_mixWords_232 : decode cX6_mixWords 232 = .ok (.aload_n 0, 1) := by decide +kernel
theorem dX6_mixWords_233 : decode cX6_mixWords 233 = .ok (.getfield 18, 3) := by decide +kernel
theorem dX6_mixWords_236 : decode cX6_mixWords 236 = .ok (.iconst 3, 1) := by decide +kernel
theorem dX6_mixWords_237 : decode cX6_mixWords 237 = .ok (.getstatic 49, 3) := by decide +kernel
theorem dX6_mixWords_240 : decode cX6_mixWords 240 = .ok (.iconst 3, 1) := by decide +kernel
theorem dX6_mixWords_241 : decode cX6_mixWords 241 = .ok (.iaload, 1) := by decide +kernel
theorem dX6_mixWords_242 : decode cX6_mixWords 242 = .ok (.iload 4, 2) := by decide +kernel
theorem dX6_mixWords_244 : decode cX6_mixWords 244 = .ok (.iadd, 1) := by decide +kernel
theorem dX6_mixWords_245 : decode cX6_mixWords 245 = .ok (.iastore, 1) := by decide +kernel
theorem dX6_mixWords_246 : decode cX6_mixWords 246 = .ok (.aload_n 0, 1) := by decide +kernel
theorem dX6_mixWords_247 : decode cX6_mixWords 247 = .ok (.getfield 18, 3) := by decide +kernel
theorem dX6_mixWords_250 : decode cX6_mixWords 250 = .ok (.iconst 4, 1) := by decide +kernel
theorem dX6_mixWords_251 : decode cX6_mixWords 251 = .ok (.getstatic 49, 3) := by decide +kernel
theorem dX6_mixWords_254 : decode cX6_mixWords 254 = .ok (.iconst 4, 1) := by decide +kernel
theorem dX6_mixWords_255 : decode cX6_mixWords 255 = .ok (.iaload, 1) := by decide +kernel
theorem dX6_mixWords_256 : decode cX6_mixWords 256 = .ok (.iload 5, 2) := by decide +kernel
theorem dX6_mixWords_258 : decode cX6_mixWords 258 = .ok (.iadd, 1) := by decide +kernel
theorem dX6_mixWords_259 : decode cX6_mixWords 259 = .ok (.iastore, 1) := by decide +kernel
theorem dX6_mixWords_260 : decode cX6_mixWords 260 = .ok (.aload_n 0, 1) := by decide +kernel
theorem dX6_mixWords_261 : decode cX6_mixWords 261 = .ok (.getfield 18, 3) := by decide +kernel
theorem dX6_mixWords_264 : decode cX6_mixWords 264 = .ok (.iconst 5, 1) := by decide +kernel
theorem dX6_mixWords_265 : decode cX6_mixWords 265 = .ok (.getstatic 49, 3) := by decide +kernel
theorem dX6_mixWords_268 : decode cX6_mixWords 268 = .ok (.iconst 5, 1) := by decide +kernel
theorem dX6_mixWords_269 : decode cX6_mixWords 269 = .ok (.iaload, 1) := by decide +kernel
theorem dX6_mixWords_270 : decode cX6_mixWords 270 = .ok (.iload 6, 2) := by decide +kernel
theorem dX6_mixWords_272 : decode cX6_mixWords 272 = .ok (.iadd, 1) := by decide +kernel
theorem dX6_mixWords_273 : decode cX6_mixWords 273 = .ok (.iastore, 1) := by decide +kernel
theorem dX6_mixWords_274 : decode cX6_mixWords 274 = .ok (.aload_n 0, 1) := by decide +kernel
theorem dX6_mixWords_275 : decode cX6_mixWords 275 = .ok (.getfield 18, 3) := by decide +kernel
theorem dX6_mixWords_278 : decode cX6_mixWords 278 = .ok (.bipush 6, 2) := by decide +kernel
theorem dX6_mixWords_280 : decode cX6_mixWords 280 = .ok (.getstatic 49, 3) := by decide +kernel
theorem dX6_mixWords_283 : decode cX6_mixWords 283 = .ok (.bipush 6, 2) := by decide +kernel
theorem dX6_mixWords_285 : decode cX6_mixWords 285 = .ok (.iaload, 1) := by decide +kernel
theorem dX6_mixWords_286 : decode cX6_mixWords 286 = .ok (.iload 7, 2) := by decide +kernel
theorem dX6_mixWords_288 : decode cX6_mixWords 288 = .ok (.iadd, 1) := by decide +kernel
theorem dX6_mixWords_289 : decode cX6_mixWords 289 = .ok (.iastore, 1) := by decide +kernel
theorem dX6_mixWords_290 : decode cX6_mixWords 290 = .ok (.aload_n 0, 1) := by decide +kernel
theorem dX6_mixWords_291 : decode cX6_mixWords 291 = .ok (.getfield 18, 3) := by decide +kernel
theorem dX6_mixWords_294 : decode cX6_mixWords 294 = .ok (.bipush 7, 2) := by decide +kernel
theorem dX6_mixWords_296 : decode cX6_mixWords 296 = .ok (.getstatic 49, 3) := by decide +kernel
theorem dX6_mixWords_299 : decode cX6_mixWords 299 = .ok (.bipush 7, 2) := by decide +kernel
theorem dX6_mixWords_301 : decode cX6_mixWords 301 = .ok (.iaload, 1) := by decide +kernel
theorem dX6_mixWords_302 : decode cX6_mixWords 302 = .ok (.iload 8, 2) := by decide +kernel
theorem dX6_mixWords_304 : decode cX6_mixWords 304 = .ok (.iadd, 1) := by decide +kernel
theorem dX6_mixWords_305 : decode cX6_mixWords 305 = .ok (.iastore, 1) := by decide +kernel
theorem dX6_mixWords_306 : decode cX6_mixWords 306 = .ok (.return_, 1) := by decide +kernel
theorem dX7_init_0 : decode cX7_init 0 = .ok (.aload_n 0, 1) := by decide +kernel
theorem dX7_init_1 : decode cX7_init 1 = .ok (.invokespecial 3, 3) := by decide +kernel
theorem dX7_init_4 : decode cX7_init 4 = .ok (.aload_n 0, 1) := by decide +kernel
theorem dX7_init_5 : decode cX7_init 5 = .ok (.bipush 8, 2) := by decide +kernel
theorem dX7_init_7 : decode cX7_init 7 = .ok (.newarray .int, 2) := by decide +kernel
theorem dX7_init_9 : decode cX7_init 9 = .ok (.putfield 9, 3) := by decide +kernel
theorem dX7_init_12 : decode cX7_init 12 = .ok (.aload_n 0, 1) := by decide +kernel
theorem dX7_init_13 : decode cX7_init 13 = .ok (.bipush 8, 2) := by decide +kernel
theorem dX7_init_15 : decode cX7_init 15 = .ok (.newarray .boolean, 2) := by decide +kernel
theorem dX7_init_17 : decode cX7_init 17 = .ok (.putfield 15, 3) := by decide +kernel
theorem dX7_init_20 : decode cX7_init 20 = .ok (.aload_n 0, 1) := by decide +kernel
theorem dX7_init_21 : decode cX7_init 21 = .ok (.bipush 64, 2) := by decide +kernel
theorem dX7_init_23 : decode cX7_init 23 = .ok (.newarray .int, 2) := by decide +kernel
theorem dX7_init_25 : decode cX7_init 25 = .ok (.putfield 19, 3) := by decide +kernel
theorem dX7_init_28 : decode cX7_init 28 = .ok (.aload_n 0, 1) := by decide +kernel
theorem dX7_init_29 : decode cX7_init 29 = .ok (.sipush 20000, 3) := by decide +kernel
theorem dX7_init_32 : decode cX7_init 32 = .ok (.newarray .byte, 2) := by decide +kernel
theorem dX7_init_34 : decode cX7_init 34 = .ok (.putfield 22, 3) := by decide +kernel
theorem dX7_init_37 : decode cX7_init 37 = .ok (.aload_n 0, 1) := by decide +kernel
theorem dX7_init_38 : decode cX7_init 38 = .ok (.iconst 1, 1) := by decide +kernel
theorem dX7_init_39 : decode cX7_init 39 = .ok (.putfield 26, 3) := by decide +kernel
theorem dX7_init_42 : decode cX7_init 42 = .ok (.aload_n 0, 1) := by decide +kernel
theorem dX7_init_43 : decode cX7_init 43 = .ok (.bipush 100, 2) := by decide +kernel
theorem dX7_init_45 : decode cX7_init 45 = .ok (.putfield 30, 3) := by decide +kernel
theorem dX7_init_48 : decode cX7_init 48 = .ok (.aload_n 0, 1) := by decide +kernel
theorem dX7_init_49 : decode cX7_init 49 = .ok (.iconst 1, 1) := by decide +kernel
theorem dX7_init_50 : decode cX7_init 50 = .ok (.putfield 33, 3) := by decide +kernel
theorem dX7_init_53 : decode cX7_init 53 = .ok (.aload_n 0, 1) := by decide +kernel
theorem dX7_init_54 : decode cX7_init 54 = .ok (.bipush 10, 2) := by decide +kernel
theorem dX7_init_56 : decode cX7_init 56 = .ok (.putfield 36, 3) := by decide +kernel
theorem dX7_init_59 : decode cX7_init 59 = .ok (.aload_n 0, 1) := by decide +kernel
theorem dX7_init_60 : decode cX7_init 60 = .ok (.bipush 11, 2) := by decide +kernel
theorem dX7_init_62 : decode cX7_init 62 = .ok (.putfield 39, 3) := by decide +kernel
theorem dX7_init_65 : decode cX7_init 65 = .ok (.aload_n 0, 1) := by decide +kernel
theorem dX7_init_66 : decode cX7_init 66 = .ok (.bipush 10, 2) := by decide +kernel
theorem dX7_init_68 : decode cX7_init 68 = .ok (.putfield 42, 3) := by decide +kernel
theorem dX7_init_71 : decode cX7_init 71 = .ok (.return_, 1) := by decide +kernel
theorem dX7_addCandidate_0 : decode cX7_addCandidate 0 = .ok (.aload_n 0, 1) := by decide +kernel
theorem dX7_addCandidate_1 : decode cX7_addCandidate 1 = .ok (.getfield 9, 3) := by decide +kernel
theorem dX7_addCandidate_4 : decode cX7_addCandidate 4 = .ok (.aload_n 0, 1) := by decide +kernel
theorem dX7_addCandidate_5 : decode cX7_addCandidate 5 = .ok (.getfield 45, 3) := by decide +kernel
theorem dX7_addCandidate_8 : decode cX7_addCandidate 8 = .ok (.iload_n 1, 1) := by decide +kernel
theorem dX7_addCandidate_9 : decode cX7_addCandidate 9 = .ok (.iastore, 1) := by decide +kernel
theorem dX7_addCandidate_10 : decode cX7_addCandidate 10 = .ok (.aload_n 0, 1) := by decide +kernel
theorem dX7_addCandidate_11 : decode cX7_addCandidate 11 = .ok (.dup, 1) := by decide +kernel
theorem dX7_addCandidate_12 : decode cX7_addCandidate 12 = .ok (.getfield 45, 3) := by decide +kernel
theorem dX7_addCandidate_15 : decode cX7_addCandidate 15 = .ok (.iconst 1, 1) := by decide +kernel
theorem dX7_addCandidate_16 : decode cX7_addCandidate 16 = .ok (.iadd, 1) := by decide +kernel
theorem dX7_addCandidate_17 : decode cX7_addCandidate 17 = .ok (.putfield 45, 3) := by decide +kernel
theorem dX7_addCandidate_20 : decode cX7_addCandidate 20 = .ok (.aload_n 0, 1) := by decide +kernel
theorem dX7_addCandidate_21 : decode cX7_addCandidate 21 = .ok (.getfield 45, 3) := by decide +kernel
theorem dX7_addCandidate_24 : decode cX7_addCandidate 24 = .ok (.iconst 1, 1) := by decide +kernel
theorem dX7_addCandidate_25 : decode cX7_addCandidate 25 = .ok (.isub, 1) := by decide +kernel
theorem dX7_addCandidate_26 : decode cX7_addCandidate 26 = .ok (.ireturn, 1) := by decide +kernel
theorem dX7_addBatch_0 : decode cX7_addBatch 0 = .ok (.aload_n 0, 1) := by decide +kernel
theorem dX7_addBatch_1 : decode cX7_addBatch 1 = .ok (.getfield 48, 3) := by decide +kernel
theorem dX7_addBatch_4 : decode cX7_addBatch 4 = .ok (.istore_n 2, 1) := by decide +kernel
theorem dX7_addBatch_5 : decode cX7_addBatch 5 = .ok (.aload_n 0, 1) := by decide +kernel
theorem dX7_addBatch_6 : decode cX7_addBatch 6 = .ok (.dup, 1) := by decide +kernel
theorem dX7_addBatch_7 : decode cX7_addBatch 7 = .ok (.getfield 48, 3) := by decide +kernel
theorem dX7_addBatch_10 : decode cX7_addBatch 10 = .ok (.iload_n 1, 1) := by decide +kernel
theorem dX7_addBatch_11 : decode cX7_addBatch 11 = .ok (.iadd, 1) := by decide +kernel
theorem dX7_addBatch_12 : decode cX7_addBatch 12 = .ok (.putfield 48, 3) := by decide +kernel
theorem dX7_addBatch_15 : decode cX7_addBatch 15 = .ok (.aload_n 0, 1) := by decide +kernel
theorem dX7_addBatch_16 : decode cX7_addBatch 16 = .ok (.getfield 19, 3) := by decide +kernel
theorem dX7_addBatch_19 : decode cX7_addBatch 19 = .ok (.aload_n 0, 1) := by decide +kernel
theorem dX7_addBatch_20 : decode cX7_addBatch 20 = .ok (.getfield 51, 3) := by decide +kernel
theorem dX7_addBatch_23 : decode cX7_addBatch 23 = .ok (.aload_n 0, 1) := by decide +kernel
theorem dX7_addBatch_24 : decode cX7_addBatch 24 = .ok (.getfield 48, 3) := by decide +kernel
theorem dX7_addBatch_27 : decode cX7_addBatch 27 = .ok (.iastore, 1) := by decide +kernel
theorem dX7_addBatch_28 : decode cX7_addBatch 28 = .ok (.aload_n 0, 1) := by decide +kernel
theorem dX7_addBatch_29 : decode cX7_addBatch 29 = .ok (.dup, 1) := by decide +kernel
theorem dX7_addBatch_30 : decode cX7_addBatch 30 = .ok (.getfield 51, 3) := by decide +kernel
theorem dX7_addBatch_33 : decode cX7_addBatch 33 = .ok (.iconst 1, 1) := by decide +kernel
theorem dX7_addBatch_34 : decode cX7_addBatch 34 = .ok (.iadd, 1) := by decide +kernel
theorem dX7_addBatch_35 : decode cX7_addBatch 35 = .ok (.putfield 51, 3) := by decide +kernel
theorem dX7_addBatch_38 : decode cX7_addBatch 38 = .ok (.iload_n 2, 1) := by decide +kernel
theorem dX7_addBatch_39 : decode cX7_addBatch 39 = .ok (.ireturn, 1) := by decide +kernel
theorem dX7_readAs_0 : decode cX7_readAs 0 = .ok (.iload_n 3, 1) := by decide +kernel
theorem dX7_readAs_1 : decode cX7_readAs 1 = .ok (.iconst 1, 1) := by decide +kernel
theorem dX7_readAs_2 : decode cX7_readAs 2 = .ok (.iadd, 1) := by decide +kernel
theorem dX7_readAs_3 : decode cX7_readAs 3 = .ok (.i2b, 1) := by decide +kernel
theorem dX7_readAs_4 : decode cX7_readAs 4 = .ok (.istore 4, 2) := by decide +kernel
theorem dX7_readAs_6 : decode cX7_readAs 6 = .ok (.iload_n 1, 1) := by decide +kernel
theorem dX7_readAs_7 : decode cX7_readAs 7 = .ok (.istore 5, 2) := by decide +kernel
theorem dX7_readAs_9 : decode cX7_readAs 9 = .ok (.iload 5, 2) := by decide +kernel
theorem dX7_readAs_11 : decode cX7_readAs 11 = .ok (.iload_n 1, 1) := by decide +kernel
theorem dX7_readAs_12 : decode cX7_readAs 12 = .ok (.iload_n 2, 1) := by decide +kernel
theorem dX7_readAs_13 : decode cX7_readAs 13 = .ok (.iadd, 1) := by decide +kernel
theorem dX7_readAs_14 : decode cX7_readAs 14 = .ok (.if_icmp .ge 18, 3) := by decide +kernel
theorem dX7_readAs_17 : decode cX7_readAs 17 = .ok (.aload_n 0, 1) := by decide +kernel
theorem dX7_readAs_18 : decode cX7_readAs 18 = .ok (.getfield 22, 3) := by decide +kernel
theorem dX7_readAs_21 : decode cX7_readAs 21 = .ok (.iload 5, 2) := by decide +kernel
theorem dX7_readAs_23 : decode cX7_readAs 23 = .ok (.iload 4, 2) := by decide +kernel
theorem dX7_readAs_25 : decode cX7_readAs 25 = .ok (.bastore, 1) := by decide +kernel
theorem dX7_readAs_26 : decode cX7_readAs 26 = .ok (.iinc 5 1, 3) := by decide +kernel
theorem dX7_readAs_29 : decode cX7_readAs 29 = .ok (.goto (-20), 3) := by decide +kernel
theorem dX7_readAs_32 : decode cX7_readAs 32 = .ok (.return_, 1) := by decide +kernel
theorem dX7_readOf_0 : decode cX7_readOf 0 = .ok (.aload_n 0, 1) := by decide +kernel
theorem dX7_readOf_1 : decode cX7_readOf 1 = .ok (.getfield 22, 3) := by decide +kernel
theorem dX7_readOf_4 : decode cX7_readOf 4 = .ok (.iload_n 1, 1) := by decide +kernel
theorem dX7_readOf_5 : decode cX7_readOf 5 = .ok (.baload, 1) := by decide +kernel
theorem dX7_readOf_6 : decode cX7_readOf 6 = .ok (.iconst 1, 1) := by decide +kernel
theorem dX7_readOf_7 : decode cX7_readOf 7 = .ok (.isub, 1) := by decide +kernel
theorem dX7_readOf_8 : decode cX7_readOf 8 = .ok (.ireturn, 1) := by decide +kernel
theorem dX7_batchOf_0 : decode cX7_batchOf 0 = .ok (.iconst 0, 1) := by decide +kernel
theorem dX7_batchOf_1 : decode cX7_batchOf 1 = .ok (.istore_n 2, 1) := by decide +kernel
theorem dX7_batchOf_2 : decode cX7_batchOf 2 = .ok (.iload_n 2, 1) := by decide +kernel
theorem dX7_batchOf_3 : decode cX7_batchOf 3 = .ok (.aload_n 0, 1) := by decide +kernel
theorem dX7_batchOf_4 : decode cX7_batchOf 4 = .ok (.getfield 51, 3) := by decide +kernel
theorem dX7_batchOf_7 : decode cX7_batchOf 7 = .ok (.iconst 1, 1) := by decide +kernel
theorem dX7_batchOf_8 : decode cX7_batchOf 8 = .ok (.isub, 1) := by decide +kernel
theorem dX7_batchOf_9 : decode cX7_batchOf 9 = .ok (.if_icmp .ge 19, 3) := by decide +kernel
theorem dX7_batchOf_12 : decode cX7_batchOf 12 = .ok (.iload_n 1, 1) := by decide +kernel
theorem dX7_batchOf_13 : decode cX7_batchOf 13 = .ok (.aload_n 0, 1) := by decide +kernel
theorem dX7_batchOf_14 : decode cX7_batchOf 14 = .ok (.getfield 19, 3) := by decide +kernel
theorem dX7_batchOf_17 : decode cX7_batchOf 17 = .ok (.iload_n 2, 1) := by decide +kernel
theorem dX7_batchOf_18 : decode cX7_batchOf 18 = .ok (.iaload, 1) := by decide +kernel
theorem dX7_batchOf_19 : decode cX7_batchOf 19 = .ok (.if_icmp .lt 9, 3) := by decide +kernel
theorem dX7_batchOf_22 : decode cX7_batchOf 22 = .ok (.iinc 2 1, 3) := by decide +kernel
theorem dX7_batchOf_25 : decode cX7_batchOf 25 = .ok (.goto (-23), 3) := by decide +kernel
theorem dX7_batchOf_28 : decode cX7_batchOf 28 = .ok (.iload_n 2, 1) := by decide +kernel
theorem dX7_batchOf_29 : decode cX7_batchOf 29 = .ok (.ireturn, 1) := by decide +kernel
theorem dX7_coinsADraw_0 : decode cX7_coinsADraw 0 = .ok (.iconst 0, 1) := by decide +kernel
theorem dX7_coinsADraw_1 : decode cX7_coinsADraw 1 = .ok (.istore_n 1, 1) := by decide +kernel
theorem dX7_coinsADraw_2 : decode cX7_coinsADraw 2 = .ok (.iload_n 1, 1) := by decide +kernel
theorem dX7_coinsADraw_3 : decode cX7_coinsADraw 3 = .ok (.bipush 15, 2) := by decide +kernel
theorem dX7_coinsADraw_5 : decode cX7_coinsADraw 5 = .ok (.if_icmp .ge 19, 3) := by decide +kernel
theorem dX7_coinsADraw_8 : decode cX7_coinsADraw 8 = .ok (.iconst 1, 1) := by decide +kernel
theorem dX7_coinsADraw_9 : decode cX7_coinsADraw 9 = .ok (.iload_n 1, 1) := by decide +kernel
theorem dX7_coinsADraw_10 : decode cX7_coinsADraw 10 = .ok (.ishl, 1) := by decide +kernel
theorem dX7_coinsADraw_11 : decode cX7_coinsADraw 11 = .ok (.aload_n 0, 1) := by decide +kernel
theorem dX7_coinsADraw_12 : decode cX7_coinsADraw 12 = .ok (.getfield 48, 3) := by decide +kernel
theorem dX7_coinsADraw_15 : decode cX7_coinsADraw 15 = .ok (.if_icmp .ge 9, 3) := by decide +kernel
theorem dX7_coinsADraw_18 : decode cX7_coinsADraw 18 = .ok (.iinc 1 1, 3) := by decide +kernel
theorem dX7_coinsADraw_21 : decode cX7_coinsADraw 21 = .ok (.goto (-19), 3) := by decide +kernel
theorem dX7_coinsADraw_24 : decode cX7_coinsADraw 24 = .ok (.iload_n 1, 1) := by decide +kernel
theorem dX7_coinsADraw_25 : decode cX7_coinsADraw 25 = .ok (.ireturn, 1) := by decide +kernel
theorem dX7_isFit_0 : decode cX7_isFit 0 = .ok (.aload_n 0, 1) := by decide +kernel
theorem dX7_isFit_1 : decode cX7_isFit 1 = .ok (.getfield 45, 3) := by decide +kernel
theorem dX7_isFit_4 : decode cX7_isFit 4 = .ok (.iconst 2, 1) := by decide +kernel
theorem dX7_isFit_5 : decode cX7_isFit 5 = .ok (.if_icmp .lt 22, 3) := by decide +kernel
theorem dX7_isFit_8 : decode cX7_isFit 8 = .ok (.aload_n 0, 1) := by decide +kernel
theorem dX7_isFit_9 : decode cX7_isFit 9 = .ok (.getfield 26, 3) := by decide +kernel
theorem dX7_isFit_12 : decode cX7_isFit 12 = .ok (.aload_n 0, 1) := by decide +kernel
theorem dX7_isFit_13 : decode cX7_isFit 13 = .ok (.getfield 45, 3) := by decide +kernel
theorem dX7_isFit_16 : decode cX7_isFit 16 = .ok (.if_icmp .ge 11, 3) := by decide +kernel
theorem dX7_isFit_19 : decode cX7_isFit 19 = .ok (.aload_n 0, 1) := by decide +kernel
theorem dX7_isFit_20 : decode cX7_isFit 20 = .ok (.getfield 48, 3) := by decide +kernel
theorem dX7_isFit_23 : decode cX7_isFit 23 = .ok (.iconst 1, 1) := by decide +kernel
theorem dX7_isFit_24 : decode cX7_isFit 24 = .ok (.if_icmp .ge 5, 3) := by decide +kernel
theorem dX7_isFit_27 : decode cX7_isFit 27 = .ok (.iconst 0, 1) := by decide +kernel
theorem dX7_isFit_28 : decode cX7_isFit 28 = .ok (.ireturn, 1) := by decide +kernel
theorem dX7_isFit_29 : decode cX7_isFit 29 = .ok (.iconst 0, 1) := by decide +kernel
theorem dX7_isFit_30 : decode cX7_isFit 30 = .ok (.istore_n 1, 1) := by decide +kernel
theorem dX7_isFit_31 : decode cX7_isFit 31 = .ok (.iconst 0, 1) := by decide +kernel
theorem dX7_isFit_32 : decode cX7_isFit 32 = .ok (.istore_n 2, 1) := by decide +kernel
theorem dX7_isFit_33 : decode cX7_isFit 33 = .ok (.iload_n 2, 1) := by decide +kernel
theorem dX7_isFit_34 : decode cX7_isFit 34 = .ok (.aload_n 0, 1) := by decide +kernel
theorem dX7_isFit_35 : decode cX7_isFit 35 = .ok (.getfield 45, 3) := by decide +kernel
theorem dX7_isFit_38 : decode cX7_isFit 38 = .ok (.if_icmp .ge 35, 3) := by decide +kernel
theorem dX7_isFit_41 : decode cX7_isFit 41 = .ok (.aload_n 0, 1) := by decide +kernel
theorem dX7_isFit_42 : decode cX7_isFit 42 = .ok (.getfield 9, 3) := by decide +kernel
theorem dX7_isFit_45 : decode cX7_isFit 45 = .ok (.iload_n 2, 1) := by decide +kernel
theorem dX7_isFit_46 : decode cX7_isFit 46 = .ok (.iaload, 1) := by decide +kernel
theorem dX7_isFit_47 : decode cX7_isFit 47 = .ok (.aload_n 0, 1) := by decide +kernel
theorem dX7_isFit_48 : decode cX7_isFit 48 = .ok (.getfield 48, 3) := by decide +kernel
theorem dX7_isFit_51 : decode cX7_isFit 51 = .ok (.if_icmp .le 5, 3) := by decide +kernel
theorem dX7_isFit_54 : decode cX7_isFit 54 = .ok (.iconst 0, 1) := by decide +kernel
theorem dX7_isFit_55 : decode cX7_isFit 55 = .ok (.ireturn, 1) := by decide +kernel
theorem dX7_isFit_56 : decode cX7_isFit 56 = .ok (.aload_n 0, 1) := by decide +kernel
theorem dX7_isFit_57 : decode cX7_isFit 57 = .ok (.iload_n 2, 1) := by decide +kernel
theorem dX7_isFit_58 : decode cX7_isFit 58 = .ok (.invokevirtual 54, 3) := by decide +kernel
theorem dX7_isFit_61 : decode cX7_isFit 61 = .ok (.ifCond .eq 6, 3) := by decide +kernel
theorem dX7_isFit_64 : decode cX7_isFit 64 = .ok (.iinc 1 1, 3) := by decide +kernel
theorem dX7_isFit_67 : decode cX7_isFit 67 = .ok (.iinc 2 1, 3) := by decide +kernel
theorem dX7_isFit_70 : decode cX7_isFit 70 = .ok (.goto (-37), 3) := by decide +kernel
theorem dX7_isFit_73 : decode cX7_isFit 73 = .ok (.iload_n 1, 1) := by decide +kernel
theorem dX7_isFit_74 : decode cX7_isFit 74 = .ok (.aload_n 0, 1) := by decide +kernel
theorem dX7_isFit_75 : decode cX7_isFit 75 = .ok (.getfield 26, 3) := by decide +kernel
theorem dX7_isFit_78 : decode cX7_isFit 78 = .ok (.if_icmp .ne 7, 3) := by decide +kernel
theorem dX7_isFit_81 : decode cX7_isFit 81 = .ok (.iconst 1, 1) := by decide +kernel
theorem dX7_isFit_82 : decode cX7_isFit 82 = .ok (.goto 4, 3) := by decide +kernel
theorem dX7_isFit_85 : decode cX7_isFit 85 = .ok (.iconst 0, 1) := by decide +kernel
theorem dX7_isFit_86 : decode cX7_isFit 86 = .ok (.ireturn, 1) := by decide +kernel
theorem dX7_markWinners_0 : decode cX7_markWinners 0 = .ok (.iconst 0, 1) := by decide +kernel
theorem dX7_markWinners_1 : decode cX7_markWinners 1 = .ok (.istore_n 1, 1) := by decide +kernel
theorem dX7_markWinners_2 : decode cX7_markWinners 2 = .ok (.iload_n 1, 1) := by decide +kernel
theorem dX7_markWinners_3 : decode cX7_markWinners 3 = .ok (.aload_n 0, 1) := by decide +kernel
theorem dX7_markWinners_4 : decode cX7_markWinners 4 = .ok (.getfield 45, 3) := by decide +kernel
theorem dX7_markWinners_7 : decode cX7_markWinners 7 = .ok (.if_icmp .ge 20, 3) := by decide +kernel
theorem dX7_markWinners_10 : decode cX7_markWinners 10 = .ok (.aload_n 0, 1) := by decide +kernel
theorem dX7_markWinners_11 : decode cX7_markWinners 11 = .ok (.getfield 15, 3) := by decide +kernel
theorem dX7_markWinners_14 : decode cX7_markWinners 14 = .ok (.iload_n 1, 1) := by decide +kernel
theorem dX7_markWinners_15 : decode cX7_markWinners 15 = .ok (.aload_n 0, 1) := by decide +kernel
theorem dX7_markWinners_16 : decode cX7_markWinners 16 = .ok (.iload_n 1, 1) := by decide +kernel
theorem dX7_markWinners_17 : decode cX7_markWinners 17 = .ok (.invokevirtual 54, 3) := by decide +kernel
theorem dX7_markWinners_20 : decode cX7_markWinners 20 = .ok (.bastore, 1) := by decide +kernel
theorem dX7_markWinners_21 : decode cX7_markWinners 21 = .ok (.iinc 1 1, 3) := by decide +kernel
theorem dX7_markWinners_24 : decode cX7_markWinners 24 = .ok (.goto (-22), 3) := by decide +kernel
theorem dX7_markWinners_27 : decode cX7_markWinners 27 = .ok (.return_, 1) := by decide +kernel
theorem dX7_isAmongTheMost_0 : decode cX7_isAmongTheMost 0 = .ok (.iconst 0, 1) := by decide +kernel
theorem dX7_isAmongTheMost_1 : decode cX7_isAmongTheMost 1 = .ok (.istore_n 2, 1) := by decide +kernel
theorem dX7_isAmongTheMost_2 : decode cX7_isAmongTheMost 2 = .ok (.iconst 0, 1) := by decide +kernel
theorem dX7_isAmongTheMost_3 : decode cX7_isAmongTheMost 3 = .ok (.istore_n 3, 1) := by decide +kernel
theorem dX7_isAmongTheMost_4 : decode cX7_isAmongTheMost 4 = .ok (.iload_n 3, 1) := by decide +kernel
theorem dX7_isAmongTheMost_5 : decode cX7_isAmongTheMost 5 = .ok (.aload_n 0, 1) := by decide +kernel
theorem dX7_isAmongTheMost_6 : decode cX7_isAmongTheMost 6 = .ok (.getfield 45, 3) := by decide +kernel
theorem dX7_isAmongTheMost_9 : decode cX7_isAmongTheMost 9 = .ok (.if_icmp .ge 27, 3) := by decide +kernel
theorem dX7_isAmongTheMost_12 : decode cX7_isAmongTheMost 12 = .ok (.aload_n 0, 1) := by decide +kernel
theorem dX7_isAmongTheMost_13 : decode cX7_isAmongTheMost 13 = .ok (.getfield 9, 3) := by decide +kernel
theorem dX7_isAmongTheMost_16 : decode cX7_isAmongTheMost 16 = .ok (.iload_n 3, 1) := by decide +kernel
theorem dX7_isAmongTheMost_17 : decode cX7_isAmongTheMost 17 = .ok (.iaload, 1) := by decide +kernel
theorem dX7_isAmongTheMost_18 : decode cX7_isAmongTheMost 18 = .ok (.aload_n 0, 1) := by decide +kernel
theorem dX7_isAmongTheMost_19 : decode cX7_isAmongTheMost 19 = .ok (.getfield 9, 3) := by decide +kernel
theorem dX7_isAmongTheMost_22 : decode cX7_isAmongTheMost 22 = .ok (.iload_n 1, 1) := by decide +kernel
theorem dX7_isAmongTheMost_23 : decode cX7_isAmongTheMost 23 = .ok (.iaload, 1) := by decide +kernel
theorem dX7_isAmongTheMost_24 : decode cX7_isAmongTheMost 24 = .ok (.if_icmp .le 6, 3) := by decide +kernel
theorem dX7_isAmongTheMost_27 : decode cX7_isAmongTheMost 27 = .ok (.iinc 2 1, 3) := by decide +kernel
theorem dX7_isAmongTheMost_30 : decode cX7_isAmongTheMost 30 = .ok (.iinc 3 1, 3) := by decide +kernel
theorem dX7_isAmongTheMost_33 : decode cX7_isAmongTheMost 33 = .ok (.goto (-29), 3) := by decide +kernel
theorem dX7_isAmongTheMost_36 : decode cX7_isAmongTheMost 36 = .ok (.iload_n 2, 1) := by decide +kernel
theorem dX7_isAmongTheMost_37 : decode cX7_isAmongTheMost 37 = .ok (.aload_n 0, 1) := by decide +kernel
theorem dX7_isAmongTheMost_38 : decode cX7_isAmongTheMost 38 = .ok (.getfield 26, 3) := by decide +kernel
theorem dX7_isAmongTheMost_41 : decode cX7_isAmongTheMost 41 = .ok (.if_icmp .ge 7, 3) := by decide +kernel
theorem dX7_isAmongTheMost_44 : decode cX7_isAmongTheMost 44 = .ok (.iconst 1, 1) := by decide +kernel
theorem dX7_isAmongTheMost_45 : decode cX7_isAmongTheMost 45 = .ok (.goto 4, 3) := by decide +kernel
theorem dX7_isAmongTheMost_48 : decode cX7_isAmongTheMost 48 = .ok (.iconst 0, 1) := by decide +kernel
theorem dX7_isAmongTheMost_49 : decode cX7_isAmongTheMost 49 = .ok (.ireturn, 1) := by decide +kernel
theorem dX8_init_0 : decode cX8_init 0 = .ok (.aload_n 0, 1) := by decide +kernel
theorem dX8_init_1 : decode cX8_init 1 = .ok (.invokespecial 3, 3) := by decide +kernel
theorem dX8_init_4 : decode cX8_init 4 = .ok (.aload_n 0, 1) := by decide +kernel
theorem dX8_init_5 : decode cX8_init 5 = .ok (.bipush 16, 2) := by decide +kernel
theorem dX8_init_7 : decode cX8_init 7 = .ok (.anewarray 9, 3) := by decide +kernel
theorem dX8_init_10 : decode cX8_init 10 = .ok (.putfield 11, 3) := by decide +kernel
theorem dX8_init_13 : decode cX8_init 13 = .ok (.aload_n 0, 1) := by decide +kernel
theorem dX8_init_14 : decode cX8_init 14 = .ok (.new 17, 3) := by decide +kernel
theorem dX8_init_17 : decode cX8_init 17 = .ok (.dup, 1) := by decide +kernel
theorem dX8_init_18 : decode cX8_init 18 = .ok (.sipush 328, 3) := by decide +kernel
theorem dX8_init_21 : decode cX8_init 21 = .ok (.invokespecial 19, 3) := by decide +kernel
theorem dX8_init_24 : decode cX8_init 24 = .ok (.putfield 22, 3) := by decide +kernel
theorem dX8_init_27 : decode cX8_init 27 = .ok (.iconst 0, 1) := by decide +kernel
theorem dX8_init_28 : decode cX8_init 28 = .ok (.istore_n 1, 1) := by decide +kernel
theorem dX8_init_29 : decode cX8_init 29 = .ok (.iload_n 1, 1) := by decide +kernel
theorem dX8_init_30 : decode cX8_init 30 = .ok (.bipush 16, 2) := by decide +kernel
theorem dX8_init_32 : decode cX8_init 32 = .ok (.if_icmp .ge 22, 3) := by decide +kernel
theorem dX8_init_35 : decode cX8_init 35 = .ok (.aload_n 0, 1) := by decide +kernel
theorem dX8_init_36 : decode cX8_init 36 = .ok (.getfield 11, 3) := by decide +kernel
theorem dX8_init_39 : decode cX8_init 39 = .ok (.iload_n 1, 1) := by decide +kernel
theorem dX8_init_40 : decode cX8_init 40 = .ok (.new 9, 3) := by decide +kernel
theorem dX8_init_43 : decode cX8_init 43 = .ok (.dup, 1) := by decide +kernel
theorem dX8_init_44 : decode cX8_init 44 = .ok (.invokespecial 26, 3) := by decide +kernel
theorem dX8_init_47 : decode cX8_init 47 = .ok (.aastore, 1) := by decide +kernel
theorem dX8_init_48 : decode cX8_init 48 = .ok (.iinc 1 1, 3) := by decide +kernel
theorem dX8_init_51 : decode cX8_init 51 = .ok (.goto (-22), 3) := by decide +kernel
theorem dX8_init_54 : decode cX8_init 54 = .ok (.return_, 1) := by decide +kernel
theorem dX8_end_0 : decode cX8_end 0 = .ok (.aload_n 0, 1) := by decide +kernel
theorem dX8_end_1 : decode cX8_end 1 = .ok (.iconst 0, 1) := by decide +kernel
theorem dX8_end_2 : decode cX8_end 2 = .ok (.putfield 27, 3) := by decide +kernel
theorem dX8_end_5 : decode cX8_end 5 = .ok (.aload_n 0, 1) := by decide +kernel
theorem dX8_end_6 : decode cX8_end 6 = .ok (.iconst 0, 1) := by decide +kernel
theorem dX8_end_7 : decode cX8_end 7 = .ok (.putfield 31, 3) := by decide +kernel
theorem dX8_end_10 : decode cX8_end 10 = .ok (.return_, 1) := by decide +kernel
theorem dX8_begin_0 : decode cX8_begin 0 = .ok (.aload_n 0, 1) := by decide +kernel
theorem dX8_begin_1 : decode cX8_begin 1 = .ok (.invokevirtual 34, 3) := by decide +kernel
theorem dX8_begin_4 : decode cX8_begin 4 = .ok (.aload_n 0, 1) := by decide +kernel
theorem dX8_begin_5 : decode cX8_begin 5 = .ok (.aload_n 1, 1) := by decide +kernel
theorem dX8_begin_6 : decode cX8_begin 6 = .ok (.getfield 37, 3) := by decide +kernel
theorem dX8_begin_9 : decode cX8_begin 9 = .ok (.putfield 42, 3) := by decide +kernel
theorem dX8_begin_12 : decode cX8_begin 12 = .ok (.aload_n 0, 1) := by decide +kernel
theorem dX8_begin_13 : decode cX8_begin 13 = .ok (.getfield 22, 3) := by decide +kernel
theorem dX8_begin_16 : decode cX8_begin 16 = .ok (.lconst 1, 1) := by decide +kernel
theorem dX8_begin_17 : decode cX8_begin 17 = .ok (.lconst 1, 1) := by decide +kernel
theorem dX8_begin_18 : decode cX8_begin 18 = .ok (.invokevirtual 45, 3) := by decide +kernel
theorem dX8_begin_21 : decode cX8_begin 21 = .ok (.iconst 0, 1) := by decide +kernel
theorem dX8_begin_22 : decode cX8_begin 22 = .ok (.istore_n 2, 1) := by decide +kernel
theorem dX8_begin_23 : decode cX8_begin 23 = .ok (.iload_n 2, 1) := by decide +kernel
theorem dX8_begin_24 : decode cX8_begin 24 = .ok (.aload_n 1, 1) := by decide +kernel
theorem dX8_begin_25 : decode cX8_begin 25 = .ok (.getfield 49, 3) := by decide +kernel
theorem dX8_begin_28 : decode cX8_begin 28 = .ok (.if_icmp .ge 103, 3) := by decide +kernel
theorem dX8_begin_31 : decode cX8_begin 31 = .ok (.iconst 0, 1) := by decide +kernel
theorem dX8_begin_32 : decode cX8_begin 32 = .ok (.istore_n 3, 1) := by decide +kernel
theorem dX8_begin_33 : decode cX8_begin 33 = .ok (.iload_n 3, 1) := by decide +kernel
theorem dX8_begin_34 : decode cX8_begin 34 = .ok (.aload_n 1, 1) := by decide +kernel
theorem dX8_begin_35 : decode cX8_begin 35 = .ok (.getfield 49, 3) := by decide +kernel
theorem dX8_begin_38 : decode cX8_begin 38 = .ok (.if_icmp .ge 87, 3) := by decide +kernel
theorem dX8_begin_41 : decode cX8_begin 41 = .ok (.aload_n 1, 1) := by decide +kernel
theorem dX8_begin_42 : decode cX8_begin 42 = .ok (.getfield 52, 3) := by decide +kernel
theorem dX8_begin_45 : decode cX8_begin 45 = .ok (.iload_n 2, 1) := by decide +kernel
theorem dX8_begin_46 : decode cX8_begin 46 = .ok (.baload, 1) := by decide +kernel
theorem dX8_begin_47 : decode cX8_begin 47 = .ok (.ifCond .eq 72, 3) := by decide +kernel
theorem dX8_begin_50 : decode cX8_begin 50 = .ok (.aload_n 1, 1) := by decide +kernel
theorem dX8_begin_51 : decode cX8_begin 51 = .ok (.getfield 52, 3) := by decide +kernel
theorem dX8_begin_54 : decode cX8_begin 54 = .ok (.iload_n 3, 1) := by decide +kernel
theorem dX8_begin_55 : decode cX8_begin 55 = .ok (.baload, 1) := by decide +kernel
theorem dX8_begin_56 : decode cX8_begin 56 = .ok (.ifCond .ne 63, 3) := by decide +kernel
theorem dX8_begin_59 : decode cX8_begin 59 = .ok (.aload_n 0, 1) := by decide +kernel
theorem dX8_begin_60 : decode cX8_begin 60 = .ok (.getfield 27, 3) := by decide +kernel
theorem dX8_begin_63 : decode cX8_begin 63 = .ok (.bipush 16, 2) := by decide +kernel
theorem dX8_begin_65 : decode cX8_begin 65 = .ok (.if_icmp .ge 54, 3) := by decide +kernel
theorem dX8_begin_68 : decode cX8_begin 68 = .ok (.aload_n 0, 1) := by decide +kernel
theorem dX8_begin_69 : decode cX8_begin 69 = .ok (.getfield 11, 3) := by decide +kernel
theorem dX8_begin_72 : decode cX8_begin 72 = .ok (.aload_n 0, 1) := by decide +kernel
theorem dX8_begin_73 : decode cX8_begin 73 = .ok (.getfield 27, 3) := by decide +kernel
theorem dX8_begin_76 : decode cX8_begin 76 = .ok (.aaload, 1) := by decide +kernel
theorem dX8_begin_77 : decode cX8_begin 77 = .ok (.iload_n 2, 1) := by decide +kernel
theorem dX8_begin_78 : decode cX8_begin 78 = .ok (.iload_n 3, 1) := by decide +kernel
theorem dX8_begin_79 : decode cX8_begin 79 = .ok (.aload_n 1, 1) := by decide +kernel
theorem dX8_begin_80 : decode cX8_begin 80 = .ok (.getfield 56, 3) := by decide +kernel
theorem dX8_begin_83 : decode cX8_begin 83 = .ok (.invokevirtual 60, 3) := by decide +kernel
theorem dX8_begin_86 : decode cX8_begin 86 = .ok (.aload_n 0, 1) := by decide +kernel
theorem dX8_begin_87 : decode cX8_begin 87 = .ok (.aload_n 0, 1) := by decide +kernel
theorem dX8_begin_88 : decode cX8_begin 88 = .ok (.getfield 42, 3) := by decide +kernel
theorem dX8_begin_91 : decode cX8_begin 91 = .ok (.aload_n 0, 1) := by decide +kernel
theorem dX8_begin_92 : decode cX8_begin 92 = .ok (.getfield 11, 3) := by decide +kernel
theorem dX8_begin_95 : decode cX8_begin 95 = .ok (.aload_n 0, 1) := by decide +kernel
theorem dX8_begin_96 : decode cX8_begin 96 = .ok (.getfield 27, 3) := by decide +kernel
theorem dX8_begin_99 : decode cX8_begin 99 = .ok (.aaload, 1) := by decide +kernel
theorem dX8_begin_100 : decode cX8_begin 100 = .ok (.invokevirtual 64, 3) := by decide +kernel
theorem dX8_begin_103 : decode cX8_begin 103 = .ok (.invokestatic 68, 3) := by decide +kernel
theorem dX8_begin_106 : decode cX8_begin 106 = .ok (.putfield 42, 3) := by decide +kernel
theorem dX8_begin_109 : decode cX8_begin 109 = .ok (.aload_n 0, 1) := by decide +kernel
theorem dX8_begin_110 : decode cX8_begin 110 = .ok (.dup, 1) := by decide +kernel
theorem dX8_begin_111 : decode cX8_begin 111 = .ok (.getfield 27, 3) := by decide +kernel
theorem dX8_begin_114 : decode cX8_begin 114 = .ok (.iconst 1, 1) := by decide +kernel
theorem dX8_begin_115 : decode cX8_begin 115 = .ok (.iadd, 1) := by decide +kernel
theorem dX8_begin_116 : decode cX8_begin 116 = .ok (.putfield 27, 3) := by decide +kernel
theorem dX8_begin_119 : decode cX8_begin 119 = .ok (.iinc 3 1, 3) := by decide +kernel
theorem dX8_begin_122 : decode cX8_begin 122 = .ok (.goto (-89), 3) := by decide +kernel
theorem dX8_begin_125 : decode cX8_begin 125 = .ok (.iinc 2 1, 3) := by decide +kernel
theorem dX8_begin_128 : decode cX8_begin 128 = .ok (.goto (-105), 3) := by decide +kernel
theorem dX8_begin_131 : decode cX8_begin 131 = .ok (.return_, 1) := by decide +kernel
theorem dX8_poll_0 : decode cX8_poll 0 = .ok (.iconst 0, 1) := by decide +kernel
theorem dX8_poll_1 : decode cX8_poll 1 = .ok (.istore 4, 2) := by decide +kernel
theorem dX8_poll_3 : decode cX8_poll 3 = .ok (.iload 4, 2) := by decide +kernel
theorem dX8_poll_5 : decode cX8_poll 5 = .ok (.aload_n 0, 1) := by decide +kernel
theorem dX8_poll_6 : decode cX8_poll 6 = .ok (.getfield 27, 3) := by decide +kernel
theorem dX8_poll_9 : decode cX8_poll 9 = .ok (.if_icmp .ge 107, 3) := by decide +kernel
theorem dX8_poll_12 : decode cX8_poll 12 = .ok (.aload_n 0, 1) := by decide +kernel
theorem dX8_poll_13 : decode cX8_poll 13 = .ok (.getfield 11, 3) := by decide +kernel
theorem dX8_poll_16 : decode cX8_poll 16 = .ok (.iload 4, 2) := by decide +kernel
theorem dX8_poll_18 : decode cX8_poll 18 = .ok (.aaload, 1) := by decide +kernel
theorem dX8_poll_19 : decode cX8_poll 19 = .ok (.astore 5, 2) := by decide +kernel
theorem dX8_poll_21 : decode cX8_poll 21 = .ok (.iload_n 2, 1) := by decide +kernel
theorem dX8_poll_22 : decode cX8_poll 22 = .ok (.aload 5, 2) := by decide +kernel
theorem dX8_poll_24 : decode cX8_poll 24 = .ok (.getfield 74, 3) := by decide +kernel
theorem dX8_poll_27 : decode cX8_poll 27 = .ok (.if_icmp .eq 15, 3) := by decide +kernel
theorem dX8_poll_30 : decode cX8_poll 30 = .ok (.iload_n 2, 1) := by decide +kernel
theorem dX8_poll_31 : decode cX8_poll 31 = .ok (.aload 5, 2) := by decide +kernel
theorem dX8_poll_33 : decode cX8_poll 33 = .ok (.getfield 77, 3) := by decide +kernel
theorem dX8_poll_36 : decode cX8_poll 36 = .ok (.if_icmp .eq 6, 3) := by decide +kernel
theorem dX8_poll_39 : decode cX8_poll 39 = .ok (.goto 71, 3) := by decide +kernel
theorem dX8_poll_42 : decode cX8_poll 42 = .ok (.aload 5, 2) := by decide +kernel
theorem dX8_poll_44 : decode cX8_poll 44 = .ok (.aload 5, 2) := by decide +kernel
theorem dX8_poll_46 : decode cX8_poll 46 = .ok (.getfield 80, 3) := by decide +kernel
theorem dX8_poll_49 : decode cX8_poll 49 = .ok (.iload_n 2, 1) := by decide +kernel
theorem dX8_poll_50 : decode cX8_poll 50 = .ok (.aload 5, 2) := by decide +kernel
theorem dX8_poll_52 : decode cX8_poll 52 = .ok (.getfield 74, 3) := by decide +kernel
theorem dX8_poll_55 : decode cX8_poll 55 = .ok (.if_icmp .ne 7, 3) := by decide +kernel
theorem dX8_poll_58 : decode cX8_poll 58 = .ok (.iconst 1, 1) := by decide +kernel
theorem dX8_poll_59 : decode cX8_poll 59 = .ok (.goto 4, 3) := by decide +kernel
theorem dX8_poll_62 : decode cX8_poll 62 = .ok (.iconst 0, 1) := by decide +kernel
theorem dX8_poll_63 : decode cX8_poll 63 = .ok (.invokevirtual 83, 3) := by decide +kernel
theorem dX8_poll_66 : decode cX8_poll 66 = .ok (.aload 5, 2) := by decide +kernel
theorem dX8_poll_68 : decode cX8_poll 68 = .ok (.getfield 87, 3) := by decide +kernel
theorem dX8_poll_71 : decode cX8_poll 71 = .ok (.iconst (-1), 1) := by decide +kernel
theorem dX8_poll_72 : decode cX8_poll 72 = .ok (.if_icmp .ne 38, 3) := by decide +kernel
theorem dX8_poll_75 : decode cX8_poll 75 = .ok (.aload 5, 2) := by decide +kernel
theorem dX8_poll_77 : decode cX8_poll 77 = .ok (.getfield 80, 3) := by decide +kernel
theorem dX8_poll_80 : decode cX8_poll 80 = .ok (.aload_n 1, 1) := by decide +kernel
theorem dX8_poll_81 : decode cX8_poll 81 = .ok (.getfield 90, 3) := by decide +kernel
theorem dX8_poll_84 : decode cX8_poll 84 = .ok (.aload_n 1, 1) := by decide +kernel
theorem dX8_poll_85 : decode cX8_poll 85 = .ok (.getfield 93, 3) := by decide +kernel
theorem dX8_poll_88 : decode cX8_poll 88 = .ok (.invokevirtual 96, 3) := by decide +kernel
theorem dX8_poll_91 : decode cX8_poll 91 = .ok (.ifCond .lt 19, 3) := by decide +kernel
theorem dX8_poll_94 : decode cX8_poll 94 = .ok (.aload 5, 2) := by decide +kernel
theorem dX8_poll_96 : decode cX8_poll 96 = .ok (.iload_n 3, 1) := by decide +kernel
theorem dX8_poll_97 : decode cX8_poll 97 = .ok (.putfield 87, 3) := by decide +kernel
theorem dX8_poll_100 : decode cX8_poll 100 = .ok (.aload_n 0, 1) := by decide +kernel
theorem dX8_poll_101 : decode cX8_poll 101 = .ok (.dup, 1) := by decide +kernel
theorem dX8_poll_102 : decode cX8_poll 102 = .ok (.getfield 31, 3) := by decide +kernel
theorem dX8_poll_105 : decode cX8_poll 105 = .ok (.iconst 1, 1) := by decide +kernel
theorem dX8_poll_106 : decode cX8_poll 106 = .ok (.iadd, 1) := by decide +kernel
theorem dX8_poll_107 : decode cX8_poll 107 = .ok (.putfield 31, 3) := by decide +kernel
theorem dX8_poll_110 : decode cX8_poll 110 = .ok (.iinc 4 1, 3) := by decide +kernel
theorem dX8_poll_113 : decode cX8_poll 113 = .ok (.goto (-110), 3) := by decide +kernel
theorem dX8_poll_116 : decode cX8_poll 116 = .ok (.aload_n 0, 1) := by decide +kernel
theorem dX8_poll_117 : decode cX8_poll 117 = .ok (.getfield 31, 3) := by decide +kernel
theorem dX8_poll_120 : decode cX8_poll 120 = .ok (.aload_n 0, 1) := by decide +kernel
theorem dX8_poll_121 : decode cX8_poll 121 = .ok (.getfield 27, 3) := by decide +kernel
theorem dX8_poll_124 : decode cX8_poll 124 = .ok (.if_icmp .ne 7, 3) := by decide +kernel
theorem dX8_poll_127 : decode cX8_poll 127 = .ok (.iconst 1, 1) := by decide +kernel
theorem dX8_poll_128 : decode cX8_poll 128 = .ok (.goto 4, 3) := by decide +kernel
theorem dX8_poll_131 : decode cX8_poll 131 = .ok (.iconst 0, 1) := by decide +kernel
theorem dX8_poll_132 : decode cX8_poll 132 = .ok (.ireturn, 1) := by decide +kernel
theorem dX8_compare_0 : decode cX8_compare 0 = .ok (.ldc2_w 99, 3) := by decide +kernel
theorem dX8_compare_3 : decode cX8_compare 3 = .ok (.aload_n 1, 1) := by decide +kernel
theorem dX8_compare_4 : decode cX8_compare 4 = .ok (.getfield 101, 3) := by decide +kernel
theorem dX8_compare_7 : decode cX8_compare 7 = .ok (.i2l, 1) := by decide +kernel
theorem dX8_compare_8 : decode cX8_compare 8 = .ok (.lmul, 1) := by decide +kernel
theorem dX8_compare_9 : decode cX8_compare 9 = .ok (.lstore 4, 2) := by decide +kernel
theorem dX8_compare_11 : decode cX8_compare 11 = .ok (.aload_n 1, 1) := by decide +kernel
theorem dX8_compare_12 : decode cX8_compare 12 = .ok (.getfield 104, 3) := by decide +kernel
theorem dX8_compare_15 : decode cX8_compare 15 = .ok (.i2l, 1) := by decide +kernel
theorem dX8_compare_16 : decode cX8_compare 16 = .ok (.aload_n 0, 1) := by decide +kernel
theorem dX8_compare_17 : decode cX8_compare 17 = .ok (.getfield 42, 3) := by decide +kernel
theorem dX8_compare_20 : decode cX8_compare 20 = .ok (.i2l, 1) := by decide +kernel
theorem dX8_compare_21 : decode cX8_compare 21 = .ok (.lmul, 1) := by decide +kernel
theorem dX8_compare_22 : decode cX8_compare 22 = .ok (.lstore 6, 2) := by decide +kernel
theorem dX8_compare_24 : decode cX8_compare 24 = .ok (.lload 4, 2) := by decide +kernel
theorem dX8_compare_26 : decode cX8_compare 26 = .ok (.aload_n 1, 1) := by decide +kernel
theorem dX8_compare_27 : decode cX8_compare 27 = .ok (.getfield 37, 3) := by decide +kernel
theorem dX8_compare_30 : decode cX8_compare 30 = .ok (.i2l, 1) := by decide +kernel
theorem dX8_compare_31 : decode cX8_compare 31 = .ok (.lmul, 1) := by decide +kernel
theorem dX8_compare_32 : decode cX8_compare 32 = .ok (.lstore 8, 2) := by decide +kernel
theorem dX8_compare_34 : decode cX8_compare 34 = .ok (.aload_n 0, 1) := by decide +kernel
theorem dX8_compare_35 : decode cX8_compare 35 = .ok (.getfield 22, 3) := by decide +kernel
theorem dX8_compare_38 : decode cX8_compare 38 = .ok (.lload 8, 2) := by decide +kernel
theorem dX8_compare_40 : decode cX8_compare 40 = .ok (.lload 6, 2) := by decide +kernel
theorem dX8_compare_42 : decode cX8_compare 42 = .ok (.lsub, 1) := by decide +kernel
theorem dX8_compare_43 : decode cX8_compare 43 = .ok (.lload 8, 2) := by decide +kernel
theorem dX8_compare_45 : decode cX8_compare 45 = .ok (.invokevirtual 107, 3) := by decide +kernel
theorem dX8_compare_48 : decode cX8_compare 48 = .ok (.aload_n 0, 1) := by decide +kernel
theorem dX8_compare_49 : decode cX8_compare 49 = .ok (.iload_n 2, 1) := by decide +kernel
theorem dX8_compare_50 : decode cX8_compare 50 = .ok (.iload_n 3, 1) := by decide +kernel
theorem dX8_compare_51 : decode cX8_compare 51 = .ok (.invokevirtual 110, 3) := by decide +kernel
theorem dX8_compare_54 : decode cX8_compare 54 = .ok (.astore 10, 2) := by decide +kernel
theorem dX8_compare_56 : decode cX8_compare 56 = .ok (.lload 4, 2) := by decide +kernel
theorem dX8_compare_58 : decode cX8_compare 58 = .ok (.aload 10, 2) := by decide +kernel
theorem dX8_compare_60 : decode cX8_compare 60 = .ok (.invokevirtual 64, 3) := by decide +kernel
theorem dX8_compare_63 : decode cX8_compare 63 = .ok (.i2l, 1) := by decide +kernel
theorem dX8_compare_64 : decode cX8_compare 64 = .ok (.lmul, 1) := by decide +kernel
theorem dX8_compare_65 : decode cX8_compare 65 = .ok (.lstore 11, 2) := by decide +kernel
theorem dX8_compare_67 : decode cX8_compare 67 = .ok (.aload_n 0, 1) := by decide +kernel
theorem dX8_compare_68 : decode cX8_compare 68 = .ok (.getfield 22, 3) := by decide +kernel
theorem dX8_compare_71 : decode cX8_compare 71 = .ok (.lload 11, 2) := by decide +kernel
theorem dX8_compare_73 : decode cX8_compare 73 = .ok (.lload 11, 2) := by decide +kernel
theorem dX8_compare_75 : decode cX8_compare 75 = .ok (.aload 10, 2) := by decide +kernel
theorem dX8_compare_77 : decode cX8_compare 77 = .ok (.iload_n 2, 1) := by decide +kernel
theorem dX8_compare_78 : decode cX8_compare 78 = .ok (.iload_n 3, 1) := by decide +kernel
theorem dX8_compare_79 : decode cX8_compare 79 = .ok (.invokevirtual 114, 3) := by decide +kernel
theorem dX8_compare_82 : decode cX8_compare 82 = .ok (.i2l, 1) := by decide +kernel
theorem dX8_compare_83 : decode cX8_compare 83 = .ok (.lload 6, 2) := by decide +kernel
theorem dX8_compare_85 : decode cX8_compare 85 = .ok (.lmul, 1) := by decide +kernel
theorem dX8_compare_86 : decode cX8_compare 86 = .ok (.lsub, 1) := by decide +kernel
theorem dX8_compare_87 : decode cX8_compare 87 = .ok (.invokevirtual 107, 3) := by decide +kernel
theorem dX8_compare_90 : decode cX8_compare 90 = .ok (.aload_n 0, 1) := by decide +kernel
theorem dX8_compare_91 : decode cX8_compare 91 = .ok (.getfield 22, 3) := by decide +kernel
theorem dX8_compare_94 : decode cX8_compare 94 = .ok (.aload_n 1, 1) := by decide +kernel
theorem dX8_compare_95 : decode cX8_compare 95 = .ok (.getfield 93, 3) := by decide +kernel
theorem dX8_compare_98 : decode cX8_compare 98 = .ok (.aload_n 1, 1) := by decide +kernel
theorem dX8_compare_99 : decode cX8_compare 99 = .ok (.getfield 90, 3) := by decide +kernel
theorem dX8_compare_102 : decode cX8_compare 102 = .ok (.invokevirtual 96, 3) := by decide +kernel
theorem dX8_compare_105 : decode cX8_compare 105 = .ok (.ifCond .gt 7, 3) := by decide +kernel
theorem dX8_compare_108 : decode cX8_compare 108 = .ok (.iconst 1, 1) := by decide +kernel
theorem dX8_compare_109 : decode cX8_compare 109 = .ok (.goto 4, 3) := by decide +kernel
theorem dX8_compare_112 : decode cX8_compare 112 = .ok (.iconst 0, 1) := by decide +kernel
theorem dX8_compare_113 : decode cX8_compare 113 = .ok (.ireturn, 1) := by decide +kernel
theorem dX8_mostOverstated_0 : decode cX8_mostOverstated 0 = .ok (.aload_n 0, 1) := by decide +kernel
theorem dX8_mostOverstated_1 : decode cX8_mostOverstated 1 = .ok (.getfield 11, 3) := by decide +kernel
theorem dX8_mostOverstated_4 : decode cX8_mostOverstated 4 = .ok (.iconst 0, 1) := by decide +kernel
theorem dX8_mostOverstated_5 : decode cX8_mostOverstated 5 = .ok (.aaload, 1) := by decide +kernel
theorem dX8_mostOverstated_6 : decode cX8_mostOverstated 6 = .ok (.astore_n 3, 1) := by decide +kernel
theorem dX8_mostOverstated_7 : decode cX8_mostOverstated 7 = .ok (.iconst 1, 1) := by decide +kernel
theorem dX8_mostOverstated_8 : decode cX8_mostOverstated 8 = .ok (.istore 4, 2) := by decide +kernel
theorem dX8_mostOverstated_10 : decode cX8_mostOverstated 10 = .ok (.iload 4, 2) := by decide +kernel
theorem dX8_mostOverstated_12 : decode cX8_mostOverstated 12 = .ok (.aload_n 0, 1) := by decide +kernel
theorem dX8_mostOverstated_13 : decode cX8_mostOverstated 13 = .ok (.getfield 27, 3) := by decide +kernel
theorem dX8_mostOverstated_16 : decode cX8_mostOverstated 16 = .ok (.if_icmp .ge 61, 3) := by decide +kernel
theorem dX8_mostOverstated_19 : decode cX8_mostOverstated 19 = .ok (.aload_n 0, 1) := by decide +kernel
theorem dX8_mostOverstated_20 : decode cX8_mostOverstated 20 = .ok (.getfield 11, 3) := by decide +kernel
theorem dX8_mostOverstated_23 : decode cX8_mostOverstated 23 = .ok (.iload 4, 2) := by decide +kernel
theorem dX8_mostOverstated_25 : decode cX8_mostOverstated 25 = .ok (.aaload, 1) := by decide +kernel
theorem dX8_mostOverstated_26 : decode cX8_mostOverstated 26 = .ok (.astore 5, 2) := by decide +kernel
theorem dX8_mostOverstated_28 : decode cX8_mostOverstated 28 = .ok (.aload 5, 2) := by decide +kernel
theorem dX8_mostOverstated_30 : decode cX8_mostOverstated 30 = .ok (.iload_n 1, 1) := by decide +kernel
theorem dX8_mostOverstated_31 : decode cX8_mostOverstated 31 = .ok (.iload_n 2, 1) := by decide +kernel
theorem dX8_mostOverstated_32 : decode cX8_mostOverstated 32 = .ok (.invokevirtual 114, 3) := by decide +kernel
theorem dX8_mostOverstated_35 : decode cX8_mostOverstated 35 = .ok (.i2l, 1) := by decide +kernel
theorem dX8_mostOverstated_36 : decode cX8_mostOverstated 36 = .ok (.aload_n 3, 1) := by decide +kernel
theorem dX8_mostOverstated_37 : decode cX8_mostOverstated 37 = .ok (.invokevirtual 64, 3) := by decide +kernel
theorem dX8_mostOverstated_40 : decode cX8_mostOverstated 40 = .ok (.i2l, 1) := by decide +kernel
theorem dX8_mostOverstated_41 : decode cX8_mostOverstated 41 = .ok (.lmul, 1) := by decide +kernel
theorem dX8_mostOverstated_42 : decode cX8_mostOverstated 42 = .ok (.lstore 6, 2) := by decide +kernel
theorem dX8_mostOverstated_44 : decode cX8_mostOverstated 44 = .ok (.aload_n 3, 1) := by decide +kernel
theorem dX8_mostOverstated_45 : decode cX8_mostOverstated 45 = .ok (.iload_n 1, 1) := by decide +kernel
theorem dX8_mostOverstated_46 : decode cX8_mostOverstated 46 = .ok (.iload_n 2, 1) := by decide +kernel
theorem dX8_mostOverstated_47 : decode cX8_mostOverstated 47 = .ok (.invokevirtual 114, 3) := by decide +kernel
theorem dX8_mostOverstated_50 : decode cX8_mostOverstated 50 = .ok (.i2l, 1) := by decide +kernel
theorem dX8_mostOverstated_51 : decode cX8_mostOverstated 51 = .ok (.aload 5, 2) := by decide +kernel
theorem dX8_mostOverstated_53 : decode cX8_mostOverstated 53 = .ok (.invokevirtual 64, 3) := by decide +kernel
theorem dX8_mostOverstated_56 : decode cX8_mostOverstated 56 = .ok (.i2l, 1) := by decide +kernel
theorem dX8_mostOverstated_57 : decode cX8_mostOverstated 57 = .ok (.lmul, 1) := by decide +kernel
theorem dX8_mostOverstated_58 : decode cX8_mostOverstated 58 = .ok (.lstore 8, 2) := by decide +kernel
theorem dX8_mostOverstated_60 : decode cX8_mostOverstated 60 = .ok (.lload 6, 2) := by decide +kernel
theorem dX8_mostOverstated_62 : decode cX8_mostOverstated 62 = .ok (.lload 8, 2) := by decide +kernel
theorem dX8_mostOverstated_64 : decode cX8_mostOverstated 64 = .ok (.lcmp, 1) := by decide +kernel
theorem dX8_mostOverstated_65 : decode cX8_mostOverstated 65 = .ok (.ifCond .le 6, 3) := by decide +kernel
theorem dX8_mostOverstated_68 : decode cX8_mostOverstated 68 = .ok (.aload 5, 2) := by decide +kernel
theorem dX8_mostOverstated_70 : decode cX8_mostOverstated 70 = .ok (.astore_n 3, 1) := by decide +kernel
theorem dX8_mostOverstated_71 : decode cX8_mostOverstated 71 = .ok (.iinc 4 1, 3) := by decide +kernel
theorem dX8_mostOverstated_74 : decode cX8_mostOverstated 74 = .ok (.goto (-64), 3) := by decide +kernel
theorem dX8_mostOverstated_77 : decode cX8_mostOverstated 77 = .ok (.aload_n 3, 1) := by decide +kernel
theorem dX8_mostOverstated_78 : decode cX8_mostOverstated 78 = .ok (.areturn, 1) := by decide +kernel
theorem dX8_agreeWith_0 : decode cX8_agreeWith 0 = .ok (.iconst 0, 1) := by decide +kernel
theorem dX8_agreeWith_1 : decode cX8_agreeWith 1 = .ok (.istore_n 2, 1) := by decide +kernel
theorem dX8_agreeWith_2 : decode cX8_agreeWith 2 = .ok (.iload_n 2, 1) := by decide +kernel
theorem dX8_agreeWith_3 : decode cX8_agreeWith 3 = .ok (.aload_n 0, 1) := by decide +kernel
theorem dX8_agreeWith_4 : decode cX8_agreeWith 4 = .ok (.getfield 27, 3) := by decide +kernel
theorem dX8_agreeWith_7 : decode cX8_agreeWith 7 = .ok (.if_icmp .ge 42, 3) := by decide +kernel
theorem dX8_agreeWith_10 : decode cX8_agreeWith 10 = .ok (.aload_n 1, 1) := by decide +kernel
theorem dX8_agreeWith_11 : decode cX8_agreeWith 11 = .ok (.getfield 117, 3) := by decide +kernel
theorem dX8_agreeWith_14 : decode cX8_agreeWith 14 = .ok (.aload_n 0, 1) := by decide +kernel
theorem dX8_agreeWith_15 : decode cX8_agreeWith 15 = .ok (.getfield 11, 3) := by decide +kernel
theorem dX8_agreeWith_18 : decode cX8_agreeWith 18 = .ok (.iload_n 2, 1) := by decide +kernel
theorem dX8_agreeWith_19 : decode cX8_agreeWith 19 = .ok (.aaload, 1) := by decide +kernel
theorem dX8_agreeWith_20 : decode cX8_agreeWith 20 = .ok (.getfield 74, 3) := by decide +kernel
theorem dX8_agreeWith_23 : decode cX8_agreeWith 23 = .ok (.iaload, 1) := by decide +kernel
theorem dX8_agreeWith_24 : decode cX8_agreeWith 24 = .ok (.aload_n 1, 1) := by decide +kernel
theorem dX8_agreeWith_25 : decode cX8_agreeWith 25 = .ok (.getfield 117, 3) := by decide +kernel
theorem dX8_agreeWith_28 : decode cX8_agreeWith 28 = .ok (.aload_n 0, 1) := by decide +kernel
theorem dX8_agreeWith_29 : decode cX8_agreeWith 29 = .ok (.getfield 11, 3) := by decide +kernel
theorem dX8_agreeWith_32 : decode cX8_agreeWith 32 = .ok (.iload_n 2, 1) := by decide +kernel
theorem dX8_agreeWith_33 : decode cX8_agreeWith 33 = .ok (.aaload, 1) := by decide +kernel
theorem dX8_agreeWith_34 : decode cX8_agreeWith 34 = .ok (.getfield 77, 3) := by decide +kernel
theorem dX8_agreeWith_37 : decode cX8_agreeWith 37 = .ok (.iaload, 1) := by decide +kernel
theorem dX8_agreeWith_38 : decode cX8_agreeWith 38 = .ok (.if_icmp .gt 5, 3) := by decide +kernel
theorem dX8_agreeWith_41 : decode cX8_agreeWith 41 = .ok (.iconst 0, 1) := by decide +kernel
theorem dX8_agreeWith_42 : decode cX8_agreeWith 42 = .ok (.ireturn, 1) := by decide +kernel
theorem dX8_agreeWith_43 : decode cX8_agreeWith 43 = .ok (.iinc 2 1, 3) := by decide +kernel
theorem dX8_agreeWith_46 : decode cX8_agreeWith 46 = .ok (.goto (-44), 3) := by decide +kernel
theorem dX8_agreeWith_49 : decode cX8_agreeWith 49 = .ok (.iconst 1, 1) := by decide +kernel
theorem dX8_agreeWith_50 : decode cX8_agreeWith 50 = .ok (.ireturn, 1) := by decide +kernel
theorem dX9_init_0 : decode cX9_init 0 = .ok (.aload_n 0, 1) := by decide +kernel
theorem dX9_init_1 : decode cX9_init 1 = .ok (.invokespecial 3, 3) := by decide +kernel
theorem dX9_init_4 : decode cX9_init 4 = .ok (.aload_n 0, 1) := by decide +kernel
theorem dX9_init_5 : decode cX9_init 5 = .ok (.iload_n 1, 1) := by decide +kernel
theorem dX9_init_6 : decode cX9_init 6 = .ok (.newarray .int, 2) := by decide +kernel
theorem dX9_init_8 : decode cX9_init 8 = .ok (.putfield 9, 3) := by decide +kernel
theorem dX9_init_11 : decode cX9_init 11 = .ok (.return_, 1) := by decide +kernel
theorem dX9_become_0 : decode cX9_become 0 = .ok (.aload_n 0, 1) := by decide +kernel
theorem dX9_become_1 : decode cX9_become 1 = .ok (.iconst 0, 1) := by decide +kernel
theorem dX9_become_2 : decode cX9_become 2 = .ok (.putfield 15, 3) := by decide +kernel
theorem dX9_become_5 : decode cX9_become 5 = .ok (.aload_n 0, 1) := by decide +kernel
theorem dX9_become_6 : decode cX9_become 6 = .ok (.lload_n 1, 1) := by decide +kernel
theorem dX9_become_7 : decode cX9_become 7 = .ok (.invokevirtual 19, 3) := by decide +kernel
theorem dX9_become_10 : decode cX9_become 10 = .ok (.return_, 1) := by decide +kernel
theorem dX9_becomeCopyOf_0 : decode cX9_becomeCopyOf 0 = .ok (.aload_n 0, 1) := by decide +kernel
theorem dX9_becomeCopyOf_1 : decode cX9_becomeCopyOf 1 = .ok (.aload_n 1, 1) := by decide +kernel
theorem dX9_becomeCopyOf_2 : decode cX9_becomeCopyOf 2 = .ok (.getfield 15, 3) := by decide +kernel
theorem dX9_becomeCopyOf_5 : decode cX9_becomeCopyOf 5 = .ok (.aload_n 0, 1) := by decide +kernel
theorem dX9_becomeCopyOf_6 : decode cX9_becomeCopyOf 6 = .ok (.getfield 9, 3) := by decide +kernel
theorem dX9_becomeCopyOf_9 : decode cX9_becomeCopyOf 9 = .ok (.arraylength, 1) := by decide +kernel
theorem dX9_becomeCopyOf_10 : decode cX9_becomeCopyOf 10 = .ok (.invokestatic 23, 3) := by decide +kernel
theorem dX9_becomeCopyOf_13 : decode cX9_becomeCopyOf 13 = .ok (.putfield 15, 3) := by decide +kernel
theorem dX9_becomeCopyOf_16 : decode cX9_becomeCopyOf 16 = .ok (.iconst 0, 1) := by decide +kernel
theorem dX9_becomeCopyOf_17 : decode cX9_becomeCopyOf 17 = .ok (.istore_n 2, 1) := by decide +kernel
theorem dX9_becomeCopyOf_18 : decode cX9_becomeCopyOf 18 = .ok (.iload_n 2, 1) := by decide +kernel
theorem dX9_becomeCopyOf_19 : decode cX9_becomeCopyOf 19 = .ok (.aload_n 0, 1) := by decide +kernel
theorem dX9_becomeCopyOf_20 : decode cX9_becomeCopyOf 20 = .ok (.getfield 15, 3) := by decide +kernel
theorem dX9_becomeCopyOf_23 : decode cX9_becomeCopyOf 23 = .ok (.if_icmp .ge 21, 3) := by decide +kernel
theorem dX9_becomeCopyOf_26 : decode cX9_becomeCopyOf 26 = .ok (.aload_n 0, 1) := by decide +kernel
theorem dX9_becomeCopyOf_27 : decode cX9_becomeCopyOf 27 = .ok (.getfield 9, 3) := by decide +kernel
theorem dX9_becomeCopyOf_30 : decode cX9_becomeCopyOf 30 = .ok (.iload_n 2, 1) := by decide +kernel
theorem dX9_becomeCopyOf_31 : decode cX9_becomeCopyOf 31 = .ok (.aload_n 1, 1) := by decide +kernel
theorem dX9_becomeCopyOf_32 : decode cX9_becomeCopyOf 32 = .ok (.getfield 9, 3) := by decide +kernel
theorem dX9_becomeCopyOf_35 : decode cX9_becomeCopyOf 35 = .ok (.iload_n 2, 1) := by decide +kernel
theorem dX9_becomeCopyOf_36 : decode cX9_becomeCopyOf 36 = .ok (.iaload, 1) := by decide +kernel
theorem dX9_becomeCopyOf_37 : decode cX9_becomeCopyOf 37 = .ok (.iastore, 1) := by decide +kernel
theorem dX9_becomeCopyOf_38 : decode cX9_becomeCopyOf 38 = .ok (.iinc 2 1, 3) := by decide +kernel
theorem dX9_becomeCopyOf_41 : decode cX9_becomeCopyOf 41 = .ok (.goto (-23), 3) := by decide +kernel
theorem dX9_becomeCopyOf_44 : decode cX9_becomeCopyOf 44 = .ok (.return_, 1) := by decide +kernel
theorem dX9_add_0 : decode cX9_add 0 = .ok (.aload_n 0, 1) := by decide +kernel
theorem dX9_add_1 : decode cX9_add 1 = .ok (.getfield 15, 3) := by decide +kernel
theorem dX9_add_4 : decode cX9_add 4 = .ok (.aload_n 1, 1) := by decide +kernel
theorem dX9_add_5 : decode cX9_add 5 = .ok (.getfield 15, 3) := by decide +kernel
theorem dX9_add_8 : decode cX9_add 8 = .ok (.invokestatic 29, 3) := by decide +kernel
theorem dX9_add_11 : decode cX9_add 11 = .ok (.aload_n 0, 1) := by decide +kernel
theorem dX9_add_12 : decode cX9_add 12 = .ok (.getfield 9, 3) := by decide +kernel
theorem dX9_add_15 : decode cX9_add 15 = .ok (.arraylength, 1) := by decide +kernel
theorem dX9_add_16 : decode cX9_add 16 = .ok (.invokestatic 23, 3) := by decide +kernel
theorem dX9_add_19 : decode cX9_add 19 = .ok (.istore_n 2, 1) := by decide +kernel
theorem dX9_add_20 : decode cX9_add 20 = .ok (.lconst 0, 1) := by decide +kernel
theorem dX9_add_21 : decode cX9_add 21 = .ok (.lstore_n 3, 1) := by decide +kernel
theorem dX9_add_22 : decode cX9_add 22 = .ok (.iconst 0, 1) := by decide +kernel
theorem dX9_add_23 : decode cX9_add 23 = .ok (.istore 5, 2) := by decide +kernel
theorem dX9_add_25 : decode cX9_add 25 = .ok (.iload 5, 2) := by decide +kernel
theorem dX9_add_27 : decode cX9_add 27 = .ok (.iload_n 2, 1) := by decide +kernel
theorem dX9_add_28 : decode cX9_add 28 = .ok (.if_icmp .ge 42, 3) := by decide +kernel
theorem dX9_add_31 : decode cX9_add 31 = .ok (.aload_n 0, 1) := by decide +kernel
theorem dX9_add_32 : decode cX9_add 32 = .ok (.iload 5, 2) := by decide +kernel
theorem dX9_add_34 : decode cX9_add 34 = .ok (.invokevirtual 32, 3) := by decide +kernel
theorem dX9_add_37 : decode cX9_add 37 = .ok (.aload_n 1, 1) := by decide +kernel
theorem dX9_add_38 : decode cX9_add 38 = .ok (.iload 5, 2) := by decide +kernel
theorem dX9_add_40 : decode cX9_add 40 = .ok (.invokevirtual 32, 3) := by decide +kernel
theorem dX9_add_43 : decode cX9_add 43 = .ok (.ladd, 1) := by decide +kernel
theorem dX9_add_44 : decode cX9_add 44 = .ok (.lload_n 3, 1) := by decide +kernel
theorem dX9_add_45 : decode cX9_add 45 = .ok (.ladd, 1) := by decide +kernel
theorem dX9_add_46 : decode cX9_add 46 = .ok (.lstore 6, 2) := by decide +kernel
theorem dX9_add_48 : decode cX9_add 48 = .ok (.aload_n 0, 1) := by decide +kernel
theorem dX9_add_49 : decode cX9_add 49 = .ok (.getfield 9, 3) := by decide +kernel
theorem dX9_add_52 : decode cX9_add 52 = .ok (.iload 5, 2) := by decide +kernel
theorem dX9_add_54 : decode cX9_add 54 = .ok (.lload 6, 2) := by decide +kernel
theorem dX9_add_56 : decode cX9_add 56 = .ok (.l2i, 1) := by decide +kernel
theorem dX9_add_57 : decode cX9_add 57 = .ok (.iastore, 1) := by decide +kernel
theorem dX9_add_58 : decode cX9_add 58 = .ok (.lload 6, 2) := by decide +kernel
theorem dX9_add_60 : decode cX9_add 60 = .ok (.bipush 32, 2) := by decide +kernel
theorem dX9_add_62 : decode cX9_add 62 = .ok (.lushr, 1) := by decide +kernel
theorem dX9_add_63 : decode cX9_add 63 = .ok (.lstore_n 3, 1) := by decide +kernel
theorem dX9_add_64 : decode cX9_add 64 = .ok (.iinc 5 1, 3) := by decide +kernel
theorem dX9_add_67 : decode cX9_add 67 = .ok (.goto (-42), 3) := by decide +kernel
theorem dX9_add_70 : decode cX9_add 70 = .ok (.aload_n 0, 1) := by decide +kernel
theorem dX9_add_71 : decode cX9_add 71 = .ok (.iload_n 2, 1) := by decide +kernel
theorem dX9_add_72 : decode cX9_add 72 = .ok (.putfield 15, 3) := by decide +kernel
theorem dX9_add_75 : decode cX9_add 75 = .ok (.aload_n 0, 1) := by decide +kernel
theorem dX9_add_76 : decode cX9_add 76 = .ok (.lload_n 3, 1) := by decide +kernel
theorem dX9_add_77 : decode cX9_add 77 = .ok (.invokevirtual 19, 3) := by decide +kernel
theorem dX9_add_80 : decode cX9_add 80 = .ok (.return_, 1) := by decide +kernel
theorem dX9_multiplyBy_0 : decode cX9_multiplyBy 0 = .ok (.lload_n 1, 1) := by decide +kernel
theorem dX9_multiplyBy_1 : decode cX9_multiplyBy 1 = .ok (.lconst 1, 1) := by decide +kernel
theorem dX9_multiplyBy_2 : decode cX9_multiplyBy 2 = .ok (.lcmp, 1) := by decide +kernel
theorem dX9_multiplyBy_3 : decode cX9_multiplyBy 3 = .ok (.ifCond .ge 9, 3) := by decide +kernel
theorem dX9_multiplyBy_6 : decode cX9_multiplyBy 6 = .ok (.aload_n 0, 1) := by decide +kernel
theorem dX9_multiplyBy_7 : decode cX9_multiplyBy 7 = .ok (.iconst 0, 1) := by decide +kernel
theorem dX9_multiplyBy_8 : decode cX9_multiplyBy 8 = .ok (.putfield 15, 3) := by decide +kernel
theorem dX9_multiplyBy_11 : decode cX9_multiplyBy 11 = .ok (.return_, 1) := by decide +kernel
theorem dX9_multiplyBy_12 : decode cX9_multiplyBy 12 = .ok (.lconst 0, 1) := by decide +kernel
theorem dX9_multiplyBy_13 : decode cX9_multiplyBy 13 = .ok (.lstore_n 3, 1) := by decide +kernel
theorem dX9_multiplyBy_14 : decode cX9_multiplyBy 14 = .ok (.iconst 0, 1) := by decide +kernel
theorem dX9_multiplyBy_15 : decode cX9_multiplyBy 15 = .ok (.istore 5, 2) := by decide +kernel
theorem dX9_multiplyBy_17 : decode cX9_multiplyBy 17 = .ok (.iload 5, 2) := by decide +kernel
theorem dX9_multiplyBy_19 : decode cX9_multiplyBy 19 = .ok (.aload_n 0, 1) := by decide +kernel
theorem dX9_multiplyBy_20 : decode cX9_multiplyBy 20 = .ok (.getfield 15, 3) := by decide +kernel
theorem dX9_multiplyBy_23 : decode cX9_multiplyBy 23 = .ok (.if_icmp .ge 74, 3) := by decide +kernel
theorem dX9_multiplyBy_26 : decode cX9_multiplyBy 26 = .ok (.aload_n 0, 1) := by decide +kernel
theorem dX9_multiplyBy_27 : decode cX9_multiplyBy 27 = .ok (.getfield 9, 3) := by decide +kernel
theorem dX9_multiplyBy_30 : decode cX9_multiplyBy 30 = .ok (.iload 5, 2) := by decide +kernel
theorem dX9_multiplyBy_32 : decode cX9_multiplyBy 32 = .ok (.iaload, 1) := by decide +kernel
theorem dX9_multiplyBy_33 : decode cX9_multiplyBy 33 = .ok (.i2l, 1) := by decide +kernel
theorem dX9_multiplyBy_34 : decode cX9_multiplyBy 34 = .ok (.ldc2_w 36, 3) := by decide +kernel
theorem dX9_multiplyBy_37 : decode cX9_multiplyBy 37 = .ok (.land, 1) := by decide +kernel
theorem dX9_multiplyBy_38 : decode cX9_multiplyBy 38 = .ok (.lload_n 1, 1) := by decide +kernel
theorem dX9_multiplyBy_39 : decode cX9_multiplyBy 39 = .ok (.lmul, 1) := by decide +kernel
theorem dX9_multiplyBy_40 : decode cX9_multiplyBy 40 = .ok (.lload_n 3, 1) := by decide +kernel
theorem dX9_multiplyBy_41 : decode cX9_multiplyBy 41 = .ok (.ladd, 1) := by decide +kernel
theorem dX9_multiplyBy_42 : decode cX9_multiplyBy 42 = .ok (.lstore 6, 2) := by decide +kernel
theorem dX9_multiplyBy_44 : decode cX9_multiplyBy 44 = .ok (.aload_n 0, 1) := by decide +kernel
theorem dX9_multiplyBy_45 : decode cX9_multiplyBy 45 = .ok (.getfield 9, 3) := by decide +kernel
theorem dX9_multiplyBy_48 : decode cX9_multiplyBy 48 = .ok (.iload 5, 2) := by decide +kernel
theorem dX9_multiplyBy_50 : decode cX9_multiplyBy 50 = .ok (.iaload, 1) := by decide +kernel
theorem dX9_multiplyBy_51 : decode cX9_multiplyBy 51 = .ok (.bipush 16, 2) := by decide +kernel
theorem dX9_multiplyBy_53 : decode cX9_multiplyBy 53 = .ok (.iushr, 1) := by decide +kernel
theorem dX9_multiplyBy_54 : decode cX9_multiplyBy 54 = .ok (.i2l, 1) := by decide +kernel
theorem dX9_multiplyBy_55 : decode cX9_multiplyBy 55 = .ok (.lload_n 1, 1) := by decide +kernel
theorem dX9_multiplyBy_56 : decode cX9_multiplyBy 56 = .ok (.lmul, 1) := by decide +kernel
theorem dX9_multiplyBy_57 : decode cX9_multiplyBy 57 = .ok (.lload 6, 2) := by decide +kernel
theorem dX9_multiplyBy_59 : decode cX9_multiplyBy 59 = .ok (.bipush 16, 2) := by decide +kernel
theorem dX9_multiplyBy_61 : decode cX9_multiplyBy 61 = .ok (.lushr, 1) := by decide +kernel
theorem dX9_multiplyBy_62 : decode cX9_multiplyBy 62 = .ok (.ladd, 1) := by decide +kernel
theorem dX9_multiplyBy_63 : decode cX9_multiplyBy 63 = .ok (.lstore 8, 2) := by decide +kernel
theorem dX9_multiplyBy_65 : decode cX9_multiplyBy 65 = .ok (.aload_n 0, 1) := by decide +kernel
theorem dX9_multiplyBy_66 : decode cX9_multiplyBy 66 = .ok (.getfield 9, 3) := by decide +kernel
theorem dX9_multiplyBy_69 : decode cX9_multiplyBy 69 = .ok (.iload 5, 2) := by decide +kernel
theorem dX9_multiplyBy_71 : decode cX9_multiplyBy 71 = .ok (.lload 8, 2) := by decide +kernel
theorem dX9_multiplyBy_73 : decode cX9_multiplyBy 73 = .ok (.bipush 16, 2) := by decide +kernel
theorem dX9_multiplyBy_75 : decode cX9_multiplyBy 75 = .ok (.lshl, 1) := by decide +kernel
theorem dX9_multiplyBy_76 : decode cX9_multiplyBy 76 = .ok (.lload 6, 2) := by decide +kernel
theorem dX9_multiplyBy_78 : decode cX9_multiplyBy 78 = .ok (.ldc2_w 36, 3) := by decide +kernel
theorem dX9_multiplyBy_81 : decode cX9_multiplyBy 81 = .ok (.land, 1) := by decide +kernel
theorem dX9_multiplyBy_82 : decode cX9_multiplyBy 82 = .ok (.lor, 1) := by decide +kernel
theorem dX9_multiplyBy_83 : decode cX9_multiplyBy 83 = .ok (.l2i, 1) := by decide +kernel
theorem dX9_multiplyBy_84 : decode cX9_multiplyBy 84 = .ok (.iastore, 1) := by decide +kernel
theorem dX9_multiplyBy_85 : decode cX9_multiplyBy 85 = .ok (.lload 8, 2) := by decide +kernel
theorem dX9_multiplyBy_87 : decode cX9_multiplyBy 87 = .ok (.bipush 16, 2) := by decide +kernel
theorem dX9_multiplyBy_89 : decode cX9_multiplyBy 89 = .ok (.lushr, 1) := by decide +kernel
theorem dX9_multiplyBy_90 : decode cX9_multiplyBy 90 = .ok (.lstore_n 3, 1) := by decide +kernel
theorem dX9_multiplyBy_91 : decode cX9_multiplyBy 91 = .ok (.iinc 5 1, 3) := by decide +kernel
theorem dX9_multiplyBy_94 : decode cX9_multiplyBy 94 = .ok (.goto (-77), 3) := by decide +kernel
theorem dX9_multiplyBy_97 : decode cX9_multiplyBy 97 = .ok (.aload_n 0, 1) := by decide +kernel
theorem dX9_multiplyBy_98 : decode cX9_multiplyBy 98 = .ok (.lload_n 3, 1) := by decide +kernel
theorem dX9_multiplyBy_99 : decode cX9_multiplyBy 99 = .ok (.invokevirtual 19, 3) := by decide +kernel
theorem dX9_multiplyBy_102 : decode cX9_multiplyBy 102 = .ok (.return_, 1) := by decide +kernel
theorem dX9_divideBy_0 : decode cX9_divideBy 0 = .ok (.lload_n 1, 1) := by decide +kernel
theorem dX9_divideBy_1 : decode cX9_divideBy 1 = .ok (.ldc2_w 38, 3) := by decide +kernel
theorem dX9_divideBy_4 : decode cX9_divideBy 4 = .ok (.lcmp, 1) := by decide +kernel
theorem dX9_divideBy_5 : decode cX9_divideBy 5 = .ok (.ifCond .ge 4, 3) := by decide +kernel
theorem dX9_divideBy_8 : decode cX9_divideBy 8 = .ok (.return_, 1) := by decide +kernel
theorem dX9_divideBy_9 : decode cX9_divideBy 9 = .ok (.lconst 0, 1) := by decide +kernel
theorem dX9_divideBy_10 : decode cX9_divideBy 10 = .ok (.lstore_n 3, 1) := by decide +kernel
theorem dX9_divideBy_11 : decode cX9_divideBy 11 = .ok (.aload_n 0, 1) := by decide +kernel
theorem dX9_divideBy_12 : decode cX9_divideBy 12 = .ok (.getfield 15, 3) := by decide +kernel
theorem dX9_divideBy_15 : decode cX9_divideBy 15 = .ok (.iconst 1, 1) := by decide +kernel
theorem dX9_divideBy_16 : decode cX9_divideBy 16 = .ok (.isub, 1) := by decide +kernel
theorem dX9_divideBy_17 : decode cX9_divideBy 17 = .ok (.istore 5, 2) := by decide +kernel
theorem dX9_divideBy_19 : decode cX9_divideBy 19 = .ok (.iload 5, 2) := by decide +kernel
theorem dX9_divideBy_21 : decode cX9_divideBy 21 = .ok (.ifCond .lt 74, 3) := by decide +kernel
theorem dX9_divideBy_24 : decode cX9_divideBy 24 = .ok (.lload_n 3, 1) := by decide +kernel
theorem dX9_divideBy_25 : decode cX9_divideBy 25 = .ok (.bipush 16, 2) := by decide +kernel
theorem dX9_divideBy_27 : decode cX9_divideBy 27 = .ok (.lshl, 1) := by decide +kernel
theorem dX9_divideBy_28 : decode cX9_divideBy 28 = .ok (.aload_n 0, 1) := by decide +kernel
theorem dX9_divideBy_29 : decode cX9_divideBy 29 = .ok (.getfield 9, 3) := by decide +kernel
theorem dX9_divideBy_32 : decode cX9_divideBy 32 = .ok (.iload 5, 2) := by decide +kernel
theorem dX9_divideBy_34 : decode cX9_divideBy 34 = .ok (.iaload, 1) := by decide +kernel
theorem dX9_divideBy_35 : decode cX9_divideBy 35 = .ok (.bipush 16, 2) := by decide +kernel
theorem dX9_divideBy_37 : decode cX9_divideBy 37 = .ok (.iushr, 1) := by decide +kernel
theorem dX9_divideBy_38 : decode cX9_divideBy 38 = .ok (.i2l, 1) := by decide +kernel
theorem dX9_divideBy_39 : decode cX9_divideBy 39 = .ok (.lor, 1) := by decide +kernel
theorem dX9_divideBy_40 : decode cX9_divideBy 40 = .ok (.lstore 6, 2) := by decide +kernel
theorem dX9_divideBy_42 : decode cX9_divideBy 42 = .ok (.lload 6, 2) := by decide +kernel
theorem dX9_divideBy_44 : decode cX9_divideBy 44 = .ok (.lload_n 1, 1) := by decide +kernel
theorem dX9_divideBy_45 : decode cX9_divideBy 45 = .ok (.lrem, 1) := by decide +kernel
theorem dX9_divideBy_46 : decode cX9_divideBy 46 = .ok (.bipush 16, 2) := by decide +kernel
theorem dX9_divideBy_48 : decode cX9_divideBy 48 = .ok (.lshl, 1) := by decide +kernel
theorem dX9_divideBy_49 : decode cX9_divideBy 49 = .ok (.aload_n 0, 1) := by decide +kernel
theorem dX9_divideBy_50 : decode cX9_divideBy 50 = .ok (.getfield 9, 3) := by decide +kernel
theorem dX9_divideBy_53 : decode cX9_divideBy 53 = .ok (.iload 5, 2) := by decide +kernel
theorem dX9_divideBy_55 : decode cX9_divideBy 55 = .ok (.iaload, 1) := by decide +kernel
theorem dX9_divideBy_56 : decode cX9_divideBy 56 = .ok (.i2l, 1) := by decide +kernel
theorem dX9_divideBy_57 : decode cX9_divideBy 57 = .ok (.ldc2_w 36, 3) := by decide +kernel
theorem dX9_divideBy_60 : decode cX9_divideBy 60 = .ok (.land, 1) := by decide +kernel
theorem dX9_divideBy_61 : decode cX9_divideBy 61 = .ok (.lor, 1) := by decide +kernel
theorem dX9_divideBy_62 : decode cX9_divideBy 62 = .ok (.lstore 8, 2) := by decide +kernel
theorem dX9_divideBy_64 : decode cX9_divideBy 64 = .ok (.aload_n 0, 1) := by decide +kernel
theorem dX9_divideBy_65 : decode cX9_divideBy 65 = .ok (.getfield 9, 3) := by decide +kernel
theorem dX9_divideBy_68 : decode cX9_divideBy 68 = .ok (.iload 5, 2) := by decide +kernel
theorem dX9_divideBy_70 : decode cX9_divideBy 70 = .ok (.lload 6, 2) := by decide +kernel
theorem dX9_divideBy_72 : decode cX9_divideBy 72 = .ok (.lload_n 1, 1) := by decide +kernel
theorem dX9_divideBy_73 : decode cX9_divideBy 73 = .ok (.ldiv, 1) := by decide +kernel
theorem dX9_divideBy_74 : decode cX9_divideBy 74 = .ok (.bipush 16, 2) := by decide +kernel
theorem dX9_divideBy_76 : decode cX9_divideBy 76 = .ok (.lshl, 1) := by decide +kernel
theorem dX9_divideBy_77 : decode cX9_divideBy 77 = .ok (.lload 8, 2) := by decide +kernel
theorem dX9_divideBy_79 : decode cX9_divideBy 79 = .ok (.lload_n 1, 1) := by decide +kernel
theorem dX9_divideBy_80 : decode cX9_divideBy 80 = .ok (.ldiv, 1) := by decide +kernel
theorem dX9_divideBy_81 : decode cX9_divideBy 81 = .ok (.lor, 1) := by decide +kernel
theorem dX9_divideBy_82 : decode cX9_divideBy 82 = .ok (.l2i, 1) := by decide +kernel
theorem dX9_divideBy_83 : decode cX9_divideBy 83 = .ok (.iastore, 1) := by decide +kernel
theorem dX9_divideBy_84 : decode cX9_divideBy 84 = .ok (.lload 8, 2) := by decide +kernel
theorem dX9_divideBy_86 : decode cX9_divideBy 86 = .ok (.lload_n 1, 1) := by decide +kernel
theorem dX9_divideBy_87 : decode cX9_divideBy 87 = .ok (.lrem, 1) := by decide +kernel
theorem dX9_divideBy_88 : decode cX9_divideBy 88 = .ok (.lstore_n 3, 1) := by decide +kernel
theorem dX9_divideBy_89 : decode cX9_divideBy 89 = .ok (.iinc 5 (-1), 3) := by decide +kernel
theorem dX9_divideBy_92 : decode cX9_divideBy 92 = .ok (.goto (-73), 3) := by decide +kernel
theorem dX9_divideBy_95 : decode cX9_divideBy 95 = .ok (.aload_n 0, 1) := by decide +kernel
theorem dX9_divideBy_96 : decode cX9_divideBy 96 = .ok (.getfield 15, 3) := by decide +kernel
theorem dX9_divideBy_99 : decode cX9_divideBy 99 = .ok (.ifCond .le 30, 3) := by decide +kernel
theorem dX9_divideBy_102 : decode cX9_divideBy 102 = .ok (.aload_n 0, 1) := by decide +kernel
theorem dX9_divideBy_103 : decode cX9_divideBy 103 = .ok (.getfield 9, 3) := by decide +kernel
theorem dX9_divideBy_106 : decode cX9_divideBy 106 = .ok (.aload_n 0, 1) := by decide +kernel
theorem dX9_divideBy_107 : decode cX9_divideBy 107 = .ok (.getfield 15, 3) := by decide +kernel
theorem dX9_divideBy_110 : decode cX9_divideBy 110 = .ok (.iconst 1, 1) := by decide +kernel
theorem dX9_divideBy_111 : decode cX9_divideBy 111 = .ok (.isub, 1) := by decide +kernel
theorem dX9_divideBy_112 : decode cX9_divideBy 112 = .ok (.iaload, 1) := by decide +kernel
theorem dX9_divideBy_113 : decode cX9_divideBy 113 = .ok (.ifCond .ne 16, 3) := by decide +kernel
theorem dX9_divideBy_116 : decode cX9_divideBy 116 = .ok (.aload_n 0, 1) := by decide +kernel
theorem dX9_divideBy_117 : decode cX9_divideBy 117 = .ok (.dup, 1) := by decide +kernel
theorem dX9_divideBy_118 : decode cX9_divideBy 118 = .ok (.getfield 15, 3) := by decide +kernel
theorem dX9_divideBy_121 : decode cX9_divideBy 121 = .ok (.iconst 1, 1) := by decide +kernel
theorem dX9_divideBy_122 : decode cX9_divideBy 122 = .ok (.isub, 1) := by decide +kernel
theorem dX9_divideBy_123 : decode cX9_divideBy 123 = .ok (.putfield 15, 3) := by decide +kernel
theorem dX9_divideBy_126 : decode cX9_divideBy 126 = .ok (.goto (-31), 3) := by decide +kernel
theorem dX9_divideBy_129 : decode cX9_divideBy 129 = .ok (.return_, 1) := by decide +kernel
theorem dX9_remainderBy_0 : decode cX9_remainderBy 0 = .ok (.lload_n 1, 1) := by decide +kernel
theorem dX9_remainderBy_1 : decode cX9_remainderBy 1 = .ok (.ldc2_w 38, 3) := by decide +kernel
theorem dX9_remainderBy_4 : decode cX9_remainderBy 4 = .ok (.lcmp, 1) := by decide +kernel
theorem dX9_remainderBy_5 : decode cX9_remainderBy 5 = .ok (.ifCond .ge 5, 3) := by decide +kernel
theorem dX9_remainderBy_8 : decode cX9_remainderBy 8 = .ok (.lconst 0, 1) := by decide +kernel
theorem dX9_remainderBy_9 : decode cX9_remainderBy 9 = .ok (.lreturn, 1) := by decide +kernel
theorem dX9_remainderBy_10 : decode cX9_remainderBy 10 = .ok (.lconst 0, 1) := by decide +kernel
theorem dX9_remainderBy_11 : decode cX9_remainderBy 11 = .ok (.lstore_n 3, 1) := by decide +kernel
theorem dX9_remainderBy_12 : decode cX9_remainderBy 12 = .ok (.aload_n 0, 1) := by decide +kernel
theorem dX9_remainderBy_13 : decode cX9_remainderBy 13 = .ok (.getfield 15, 3) := by decide +kernel
theorem dX9_remainderBy_16 : decode cX9_remainderBy 16 = .ok (.iconst 1, 1) := by decide +kernel
theorem dX9_remainderBy_17 : decode cX9_remainderBy 17 = .ok (.isub, 1) := by decide +kernel
theorem dX9_remainderBy_18 : decode cX9_remainderBy 18 = .ok (.istore 5, 2) := by decide +kernel
theorem dX9_remainderBy_20 : decode cX9_remainderBy 20 = .ok (.iload 5, 2) := by decide +kernel
theorem dX9_remainderBy_22 : decode cX9_remainderBy 22 = .ok (.ifCond .lt 50, 3) := by decide +kernel
theorem dX9_remainderBy_25 : decode cX9_remainderBy 25 = .ok (.lload_n 3, 1) := by decide +kernel
theorem dX9_remainderBy_26 : decode cX9_remainderBy 26 = .ok (.bipush 16, 2) := by decide +kernel
theorem dX9_remainderBy_28 : decode cX9_remainderBy 28 = .ok (.lshl, 1) := by decide +kernel
theorem dX9_remainderBy_29 : decode cX9_remainderBy 29 = .ok (.aload_n 0, 1) := by decide +kernel
theorem dX9_remainderBy_30 : decode cX9_remainderBy 30 = .ok (.getfield 9, 3) := by decide +kernel
theorem dX9_remainderBy_33 : decode cX9_remainderBy 33 = .ok (.iload 5, 2) := by decide +kernel
theorem dX9_remainderBy_35 : decode cX9_remainderBy 35 = .ok (.iaload, 1) := by decide +kernel
theorem dX9_remainderBy_36 : decode cX9_remainderBy 36 = .ok (.bipush 16, 2) := by decide +kernel
theorem dX9_remainderBy_38 : decode cX9_remainderBy 38 = .ok (.iushr, 1) := by decide +kernel
theorem dX9_remainderBy_39 : decode cX9_remainderBy 39 = .ok (.i2l, 1) := by decide +kernel
theorem dX9_remainderBy_40 : decode cX9_remainderBy 40 = .ok (.lor, 1) := by decide +kernel
theorem dX9_remainderBy_41 : decode cX9_remainderBy 41 = .ok (.lload_n 1, 1) := by decide +kernel
theorem dX9_remainderBy_42 : decode cX9_remainderBy 42 = .ok (.lrem, 1) := by decide +kernel
theorem dX9_remainderBy_43 : decode cX9_remainderBy 43 = .ok (.lstore 6, 2) := by decide +kernel
theorem dX9_remainderBy_45 : decode cX9_remainderBy 45 = .ok (.lload 6, 2) := by decide +kernel
theorem dX9_remainderBy_47 : decode cX9_remainderBy 47 = .ok (.bipush 16, 2) := by decide +kernel
theorem dX9_remainderBy_49 : decode cX9_remainderBy 49 = .ok (.lshl, 1) := by decide +kernel
theorem dX9_remainderBy_50 : decode cX9_remainderBy 50 = .ok (.aload_n 0, 1) := by decide +kernel
theorem dX9_remainderBy_51 : decode cX9_remainderBy 51 = .ok (.getfield 9, 3) := by decide +kernel
theorem dX9_remainderBy_54 : decode cX9_remainderBy 54 = .ok (.iload 5, 2) := by decide +kernel
theorem dX9_remainderBy_56 : decode cX9_remainderBy 56 = .ok (.iaload, 1) := by decide +kernel
theorem dX9_remainderBy_57 : decode cX9_remainderBy 57 = .ok (.i2l, 1) := by decide +kernel
theorem dX9_remainderBy_58 : decode cX9_remainderBy 58 = .ok (.ldc2_w 36, 3) := by decide +kernel
theorem dX9_remainderBy_61 : decode cX9_remainderBy 61 = .ok (.land, 1) := by decide +kernel
theorem dX9_remainderBy_62 : decode cX9_remainderBy 62 = .ok (.lor, 1) := by decide +kernel
theorem dX9_remainderBy_63 : decode cX9_remainderBy 63 = .ok (.lload_n 1, 1) := by decide +kernel
theorem dX9_remainderBy_64 : decode cX9_remainderBy 64 = .ok (.lrem, 1) := by decide +kernel
theorem dX9_remainderBy_65 : decode cX9_remainderBy 65 = .ok (.lstore_n 3, 1) := by decide +kernel
theorem dX9_remainderBy_66 : decode cX9_remainderBy 66 = .ok (.iinc 5 (-1), 3) := by decide +kernel
theorem dX9_remainderBy_69 : decode cX9_remainderBy 69 = .ok (.goto (-49), 3) := by decide +kernel
theorem dX9_remainderBy_72 : decode cX9_remainderBy 72 = .ok (.lload_n 3, 1) := by decide +kernel
theorem dX9_remainderBy_73 : decode cX9_remainderBy 73 = .ok (.lreturn, 1) := by decide +kernel
theorem dX9_compareProducts_0 : decode cX9_compareProducts 0 = .ok (.aload_n 0, 1) := by decide +kernel
theorem dX9_compareProducts_1 : decode cX9_compareProducts 1 = .ok (.getfield 15, 3) := by decide +kernel
theorem dX9_compareProducts_4 : decode cX9_compareProducts 4 = .ok (.aload_n 2, 1) := by decide +kernel
theorem dX9_compareProducts_5 : decode cX9_compareProducts 5 = .ok (.getfield 15, 3) := by decide +kernel
theorem dX9_compareProducts_8 : decode cX9_compareProducts 8 = .ok (.invokestatic 29, 3) := by decide +kernel
theorem dX9_compareProducts_11 : decode cX9_compareProducts 11 = .ok (.istore 4, 2) := by decide +kernel
theorem dX9_compareProducts_13 : decode cX9_compareProducts 13 = .ok (.iconst 0, 1) := by decide +kernel
theorem dX9_compareProducts_14 : decode cX9_compareProducts 14 = .ok (.istore 5, 2) := by decide +kernel
theorem dX9_compareProducts_16 : decode cX9_compareProducts 16 = .ok (.lconst 0, 1) := by decide +kernel
theorem dX9_compareProducts_17 : decode cX9_compareProducts 17 = .ok (.lstore 6, 2) := by decide +kernel
theorem dX9_compareProducts_19 : decode cX9_compareProducts 19 = .ok (.iconst 0, 1) := by decide +kernel
theorem dX9_compareProducts_20 : decode cX9_compareProducts 20 = .ok (.istore 8, 2) := by decide +kernel
theorem dX9_compareProducts_22 : decode cX9_compareProducts 22 = .ok (.iload 8, 2) := by decide +kernel
theorem dX9_compareProducts_24 : decode cX9_compareProducts 24 = .ok (.iload 4, 2) := by decide +kernel
theorem dX9_compareProducts_26 : decode cX9_compareProducts 26 = .ok (.if_icmp .ge 58, 3) := by decide +kernel
theorem dX9_compareProducts_29 : decode cX9_compareProducts 29 = .ok (.lload 6, 2) := by decide +kernel
theorem dX9_compareProducts_31 : decode cX9_compareProducts 31 = .ok (.aload_n 0, 1) := by decide +kernel
theorem dX9_compareProducts_32 : decode cX9_compareProducts 32 = .ok (.iload 8, 2) := by decide +kernel
theorem dX9_compareProducts_34 : decode cX9_compareProducts 34 = .ok (.invokevirtual 32, 3) := by decide +kernel
theorem dX9_compareProducts_37 : decode cX9_compareProducts 37 = .ok (.iload_n 1, 1) := by decide +kernel
theorem dX9_compareProducts_38 : decode cX9_compareProducts 38 = .ok (.i2l, 1) := by decide +kernel
theorem dX9_compareProducts_39 : decode cX9_compareProducts 39 = .ok (.lmul, 1) := by decide +kernel
theorem dX9_compareProducts_40 : decode cX9_compareProducts 40 = .ok (.aload_n 2, 1) := by decide +kernel
theorem dX9_compareProducts_41 : decode cX9_compareProducts 41 = .ok (.iload 8, 2) := by decide +kernel
theorem dX9_compareProducts_43 : decode cX9_compareProducts 43 = .ok (.invokevirtual 32, 3) := by decide +kernel
theorem dX9_compareProducts_46 : decode cX9_compareProducts 46 = .ok (.iload_n 3, 1) := by decide +kernel
theorem dX9_compareProducts_47 : decode cX9_compareProducts 47 = .ok (.i2l, 1) := by decide +kernel
theorem dX9_compareProducts_48 : decode cX9_compareProducts 48 = .ok (.lmul, 1) := by decide +kernel
theorem dX9_compareProducts_49 : decode cX9_compareProducts 49 = .ok (.lsub, 1) := by decide +kernel
theorem dX9_compareProducts_50 : decode cX9_compareProducts 50 = .ok (.ladd, 1) := by decide +kernel
theorem dX9_compareProducts_51 : decode cX9_compareProducts 51 = .ok (.lstore 6, 2) := by decide +kernel
theorem dX9_compareProducts_53 : decode cX9_compareProducts 53 = .ok (.iload 5, 2) := by decide +kernel
theorem dX9_compareProducts_55 : decode cX9_compareProducts 55 = .ok (.ifCond .ne 9, 3) := by decide +kernel
theorem dX9_compareProducts_58 : decode cX9_compareProducts 58 = .ok (.lload 6, 2) := by decide +kernel
theorem dX9_compareProducts_60 : decode cX9_compareProducts 60 = .ok (.l2i, 1) := by decide +kernel
theorem dX9_compareProducts_61 : decode cX9_compareProducts 61 = .ok (.ifCond .eq 7, 3) := by decide +kernel
theorem dX9_compareProducts_64 : decode cX9_compareProducts 64 = .ok (.iconst 1, 1) := by decide +kernel
theorem dX9_compareProducts_65 : decode cX9_compareProducts 65 = .ok (.goto 4, 3) := by decide +kernel
theorem dX9_compareProducts_68 : decode cX9_compareProducts 68 = .ok (.iconst 0, 1) := by decide +kernel
theorem dX9_compareProducts_69 : decode cX9_compareProducts 69 = .ok (.istore 5, 2) := by decide +kernel
theorem dX9_compareProducts_71 : decode cX9_compareProducts 71 = .ok (.lload 6, 2) := by decide +kernel
theorem dX9_compareProducts_73 : decode cX9_compareProducts 73 = .ok (.bipush 32, 2) := by decide +kernel
theorem dX9_compareProducts_75 : decode cX9_compareProducts 75 = .ok (.lshr, 1) := by decide +kernel
theorem dX9_compareProducts_76 : decode cX9_compareProducts 76 = .ok (.lstore 6, 2) := by decide +kernel
theorem dX9_compareProducts_78 : decode cX9_compareProducts 78 = .ok (.iinc 8 1, 3) := by decide +kernel
theorem dX9_compareProducts_81 : decode cX9_compareProducts 81 = .ok (.goto (-59), 3) := by decide +kernel
theorem dX9_compareProducts_84 : decode cX9_compareProducts 84 = .ok (.lload 6, 2) := by decide +kernel
theorem dX9_compareProducts_86 : decode cX9_compareProducts 86 = .ok (.lconst 0, 1) := by decide +kernel
theorem dX9_compareProducts_87 : decode cX9_compareProducts 87 = .ok (.lcmp, 1) := by decide +kernel
theorem dX9_compareProducts_88 : decode cX9_compareProducts 88 = .ok (.ifCond .ne 14, 3) := by decide +kernel
theorem dX9_compareProducts_91 : decode cX9_compareProducts 91 = .ok (.iload 5, 2) := by decide +kernel
theorem dX9_compareProducts_93 : decode cX9_compareProducts 93 = .ok (.ifCond .eq 7, 3) := by decide +kernel
theorem dX9_compareProducts_96 : decode cX9_compareProducts 96 = .ok (.iconst 1, 1) := by decide +kernel
theorem dX9_compareProducts_97 : decode cX9_compareProducts 97 = .ok (.goto 4, 3) := by decide +kernel
theorem dX9_compareProducts_100 : decode cX9_compareProducts 100 = .ok (.iconst 0, 1) := by decide +kernel
theorem dX9_compareProducts_101 : decode cX9_compareProducts 101 = .ok (.ireturn, 1) := by decide +kernel
theorem dX9_compareProducts_102 : decode cX9_compareProducts 102 = .ok (.lload 6, 2) := by decide +kernel
theorem dX9_compareProducts_104 : decode cX9_compareProducts 104 = .ok (.lconst 0, 1) := by decide +kernel
theorem dX9_compareProducts_105 : decode cX9_compareProducts 105 = .ok (.lcmp, 1) := by decide +kernel
theorem dX9_compareProducts_106 : decode cX9_compareProducts 106 = .ok (.ifCond .ge 7, 3) := by decide +kernel
theorem dX9_compareProducts_109 : decode cX9_compareProducts 109 = .ok (.iconst (-1), 1) := by decide +kernel
theorem dX9_compareProducts_110 : decode cX9_compareProducts 110 = .ok (.goto 4, 3) := by decide +kernel
theorem dX9_compareProducts_113 : decode cX9_compareProducts 113 = .ok (.iconst 1, 1) := by decide +kernel
theorem dX9_compareProducts_114 : decode cX9_compareProducts 114 = .ok (.ireturn, 1) := by decide +kernel
theorem dX9_limbOrZero_0 : decode cX9_limbOrZero 0 = .ok (.iload_n 1, 1) := by decide +kernel
theorem dX9_limbOrZero_1 : decode cX9_limbOrZero 1 = .ok (.aload_n 0, 1) := by decide +kernel
theorem dX9_limbOrZero_2 : decode cX9_limbOrZero 2 = .ok (.getfield 15, 3) := by decide +kernel
theorem dX9_limbOrZero_5 : decode cX9_limbOrZero 5 = .ok (.if_icmp .ge 17, 3) := by decide +kernel
theorem dX9_limbOrZero_8 : decode cX9_limbOrZero 8 = .ok (.aload_n 0, 1) := by decide +kernel
theorem dX9_limbOrZero_9 : decode cX9_limbOrZero 9 = .ok (.getfield 9, 3) := by decide +kernel
theorem dX9_limbOrZero_12 : decode cX9_limbOrZero 12 = .ok (.iload_n 1, 1) := by decide +kernel
theorem dX9_limbOrZero_13 : decode cX9_limbOrZero 13 = .ok (.iaload, 1) := by decide +kernel
theorem dX9_limbOrZero_14 : decode cX9_limbOrZero 14 = .ok (.i2l, 1) := by decide +kernel
theorem dX9_limbOrZero_15 : decode cX9_limbOrZero 15 = .ok (.ldc2_w 40, 3) := by decide +kernel
theorem dX9_limbOrZero_18 : decode cX9_limbOrZero 18 = .ok (.land, 1) := by decide +kernel
theorem dX9_limbOrZero_19 : decode cX9_limbOrZero 19 = .ok (.goto 4, 3) := by decide +kernel
theorem dX9_limbOrZero_22 : decode cX9_limbOrZero 22 = .ok (.lconst 0, 1) := by decide +kernel
theorem dX9_limbOrZero_23 : decode cX9_limbOrZero 23 = .ok (.lreturn, 1) := by decide +kernel
theorem dX9_append_0 : decode cX9_append 0 = .ok (.lload_n 1, 1) := by decide +kernel
theorem dX9_append_1 : decode cX9_append 1 = .ok (.lstore_n 3, 1) := by decide +kernel
theorem dX9_append_2 : decode cX9_append 2 = .ok (.lload_n 3, 1) := by decide +kernel
theorem dX9_append_3 : decode cX9_append 3 = .ok (.lconst 0, 1) := by decide +kernel
theorem dX9_append_4 : decode cX9_append 4 = .ok (.lcmp, 1) := by decide +kernel
theorem dX9_append_5 : decode cX9_append 5 = .ok (.ifCond .eq 44, 3) := by decide +kernel
theorem dX9_append_8 : decode cX9_append 8 = .ok (.aload_n 0, 1) := by decide +kernel
theorem dX9_append_9 : decode cX9_append 9 = .ok (.getfield 15, 3) := by decide +kernel
theorem dX9_append_12 : decode cX9_append 12 = .ok (.aload_n 0, 1) := by decide +kernel
theorem dX9_append_13 : decode cX9_append 13 = .ok (.getfield 9, 3) := by decide +kernel
theorem dX9_append_16 : decode cX9_append 16 = .ok (.arraylength, 1) := by decide +kernel
theorem dX9_append_17 : decode cX9_append 17 = .ok (.if_icmp .ge 32, 3) := by decide +kernel
theorem dX9_append_20 : decode cX9_append 20 = .ok (.aload_n 0, 1) := by decide +kernel
theorem dX9_append_21 : decode cX9_append 21 = .ok (.getfield 9, 3) := by decide +kernel
theorem dX9_append_24 : decode cX9_append 24 = .ok (.aload_n 0, 1) := by decide +kernel
theorem dX9_append_25 : decode cX9_append 25 = .ok (.getfield 15, 3) := by decide +kernel
theorem dX9_append_28 : decode cX9_append 28 = .ok (.lload_n 3, 1) := by decide +kernel
theorem dX9_append_29 : decode cX9_append 29 = .ok (.l2i, 1) := by decide +kernel
theorem dX9_append_30 : decode cX9_append 30 = .ok (.iastore, 1) := by decide +kernel
theorem dX9_append_31 : decode cX9_append 31 = .ok (.aload_n 0, 1) := by decide +kernel
theorem dX9_append_32 : decode cX9_append 32 = .ok (.dup, 1) := by decide +kernel
theorem dX9_append_33 : decode cX9_append 33 = .ok (.getfield 15, 3) := by decide +kernel
theorem dX9_append_36 : decode cX9_append 36 = .ok (.iconst 1, 1) := by decide +kernel
theorem dX9_append_37 : decode cX9_append 37 = .ok (.iadd, 1) := by decide +kernel
theorem dX9_append_38 : decode cX9_append 38 = .ok (.putfield 15, 3) := by decide +kernel
theorem dX9_append_41 : decode cX9_append 41 = .ok (.lload_n 3, 1) := by decide +kernel
theorem dX9_append_42 : decode cX9_append 42 = .ok (.bipush 32, 2) := by decide +kernel
theorem dX9_append_44 : decode cX9_append 44 = .ok (.lushr, 1) := by decide +kernel
theorem dX9_append_45 : decode cX9_append 45 = .ok (.lstore_n 3, 1) := by decide +kernel
theorem dX9_append_46 : decode cX9_append 46 = .ok (.goto (-44), 3) := by decide +kernel
theorem dX9_append_49 : decode cX9_append 49 = .ok (.return_, 1) := by decide +kernel
