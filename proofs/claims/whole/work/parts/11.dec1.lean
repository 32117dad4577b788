theorem dX10_init_0 : decode cX10_init 0 = .ok (.aload_n 0, 1) := by decide +kernel
theorem dX10_init_1 : decode cX10_init 1 = .ok (.invokespecial 3, 3) := by decide +kernel
theorem dX10_init_4 : decode cX10_init 4 = .ok (.aload_n 0, 1) := by decide +kernel
theorem dX10_init_5 : decode cX10_init 5 = .ok (.new 9, 3) := by decide +kernel
theorem dX10_init_8 : decode cX10_init 8 = .ok (.dup, 1) := by decide +kernel
theorem dX10_init_9 : decode cX10_init 9 = .ok (.invokespecial 11, 3) := by decide +kernel
theorem dX10_init_12 : decode cX10_init 12 = .ok (.putfield 12, 3) := by decide +kernel
theorem dX10_init_15 : decode cX10_init 15 = .ok (.aload_n 0, 1) := by decide +kernel
theorem dX10_init_16 : decode cX10_init 16 = .ok (.new 16, 3) := by decide +kernel
theorem dX10_init_19 : decode cX10_init 19 = .ok (.dup, 1) := by decide +kernel
theorem dX10_init_20 : decode cX10_init 20 = .ok (.invokespecial 18, 3) := by decide +kernel
theorem dX10_init_23 : decode cX10_init 23 = .ok (.putfield 19, 3) := by decide +kernel
theorem dX10_init_26 : decode cX10_init 26 = .ok (.aload_n 0, 1) := by decide +kernel
theorem dX10_init_27 : decode cX10_init 27 = .ok (.new 23, 3) := by decide +kernel
theorem dX10_init_30 : decode cX10_init 30 = .ok (.dup, 1) := by decide +kernel
theorem dX10_init_31 : decode cX10_init 31 = .ok (.invokespecial 25, 3) := by decide +kernel
theorem dX10_init_34 : decode cX10_init 34 = .ok (.putfield 26, 3) := by decide +kernel
theorem dX10_init_37 : decode cX10_init 37 = .ok (.aload_n 0, 1) := by decide +kernel
theorem dX10_init_38 : decode cX10_init 38 = .ok (.new 30, 3) := by decide +kernel
theorem dX10_init_41 : decode cX10_init 41 = .ok (.dup, 1) := by decide +kernel
theorem dX10_init_42 : decode cX10_init 42 = .ok (.invokespecial 32, 3) := by decide +kernel
theorem dX10_init_45 : decode cX10_init 45 = .ok (.putfield 33, 3) := by decide +kernel
theorem dX10_init_48 : decode cX10_init 48 = .ok (.aload_n 0, 1) := by decide +kernel
theorem dX10_init_49 : decode cX10_init 49 = .ok (.new 37, 3) := by decide +kernel
theorem dX10_init_52 : decode cX10_init 52 = .ok (.dup, 1) := by decide +kernel
theorem dX10_init_53 : decode cX10_init 53 = .ok (.invokespecial 39, 3) := by decide +kernel
theorem dX10_init_56 : decode cX10_init 56 = .ok (.putfield 40, 3) := by decide +kernel
theorem dX10_init_59 : decode cX10_init 59 = .ok (.aload_n 0, 1) := by decide +kernel
theorem dX10_init_60 : decode cX10_init 60 = .ok (.new 44, 3) := by decide +kernel
theorem dX10_init_63 : decode cX10_init 63 = .ok (.dup, 1) := by decide +kernel
theorem dX10_init_64 : decode cX10_init 64 = .ok (.invokespecial 46, 3) := by decide +kernel
theorem dX10_init_67 : decode cX10_init 67 = .ok (.putfield 47, 3) := by decide +kernel
theorem dX10_init_70 : decode cX10_init 70 = .ok (.aload_n 0, 1) := by decide +kernel
theorem dX10_init_71 : decode cX10_init 71 = .ok (.new 51, 3) := by decide +kernel
theorem dX10_init_74 : decode cX10_init 74 = .ok (.dup, 1) := by decide +kernel
theorem dX10_init_75 : decode cX10_init 75 = .ok (.invokespecial 53, 3) := by decide +kernel
theorem dX10_init_78 : decode cX10_init 78 = .ok (.putfield 54, 3) := by decide +kernel
theorem dX10_init_81 : decode cX10_init 81 = .ok (.aload_n 0, 1) := by decide +kernel
theorem dX10_init_82 : decode cX10_init 82 = .ok (.new 58, 3) := by decide +kernel
theorem dX10_init_85 : decode cX10_init 85 = .ok (.dup, 1) := by decide +kernel
theorem dX10_init_86 : decode cX10_init 86 = .ok (.sipush 328, 3) := by decide +kernel
theorem dX10_init_89 : decode cX10_init 89 = .ok (.invokespecial 60, 3) := by decide +kernel
theorem dX10_init_92 : decode cX10_init 92 = .ok (.putfield 63, 3) := by decide +kernel
theorem dX10_init_95 : decode cX10_init 95 = .ok (.aload_n 0, 1) := by decide +kernel
theorem dX10_init_96 : decode cX10_init 96 = .ok (.iconst 0, 1) := by decide +kernel
theorem dX10_init_97 : decode cX10_init 97 = .ok (.putfield 67, 3) := by decide +kernel
theorem dX10_init_100 : decode cX10_init 100 = .ok (.return_, 1) := by decide +kernel
theorem dX10_candidate_0 : decode cX10_candidate 0 = .ok (.iload_n 1, 1) := by decide +kernel
theorem dX10_candidate_1 : decode cX10_candidate 1 = .ok (.iconst 0, 1) := by decide +kernel
theorem dX10_candidate_2 : decode cX10_candidate 2 = .ok (.ldc 71, 2) := by decide +kernel
theorem dX10_candidate_4 : decode cX10_candidate 4 = .ok (.invokestatic 72, 3) := by decide +kernel
theorem dX10_candidate_7 : decode cX10_candidate 7 = .ok (.aload_n 0, 1) := by decide +kernel
theorem dX10_candidate_8 : decode cX10_candidate 8 = .ok (.iconst 0, 1) := by decide +kernel
theorem dX10_candidate_9 : decode cX10_candidate 9 = .ok (.invokevirtual 76, 3) := by decide +kernel
theorem dX10_candidate_12 : decode cX10_candidate 12 = .ok (.aload_n 0, 1) := by decide +kernel
theorem dX10_candidate_13 : decode cX10_candidate 13 = .ok (.getfield 12, 3) := by decide +kernel
theorem dX10_candidate_16 : decode cX10_candidate 16 = .ok (.getfield 79, 3) := by decide +kernel
theorem dX10_candidate_19 : decode cX10_candidate 19 = .ok (.bipush 8, 2) := by decide +kernel
theorem dX10_candidate_21 : decode cX10_candidate 21 = .ok (.if_icmp .lt 13, 3) := by decide +kernel
theorem dX10_candidate_24 : decode cX10_candidate 24 = .ok (.new 82, 3) := by decide +kernel
theorem dX10_candidate_27 : decode cX10_candidate 27 = .ok (.dup, 1) := by decide +kernel
theorem dX10_candidate_28 : decode cX10_candidate 28 = .ok (.ldc 84, 2) := by decide +kernel
theorem dX10_candidate_30 : decode cX10_candidate 30 = .ok (.invokespecial 86, 3) := by decide +kernel
theorem dX10_candidate_33 : decode cX10_candidate 33 = .ok (.athrow, 1) := by decide +kernel
theorem dX10_candidate_34 : decode cX10_candidate 34 = .ok (.aload_n 0, 1) := by decide +kernel
theorem dX10_candidate_35 : decode cX10_candidate 35 = .ok (.getfield 12, 3) := by decide +kernel
theorem dX10_candidate_38 : decode cX10_candidate 38 = .ok (.iload_n 1, 1) := by decide +kernel
theorem dX10_candidate_39 : decode cX10_candidate 39 = .ok (.invokevirtual 89, 3) := by decide +kernel
theorem dX10_candidate_42 : decode cX10_candidate 42 = .ok (.ireturn, 1) := by decide +kernel
theorem dX10_batch_0 : decode cX10_batch 0 = .ok (.iload_n 1, 1) := by decide +kernel
theorem dX10_batch_1 : decode cX10_batch 1 = .ok (.iconst 1, 1) := by decide +kernel
theorem dX10_batch_2 : decode cX10_batch 2 = .ok (.sipush 4000, 3) := by decide +kernel
theorem dX10_batch_5 : decode cX10_batch 5 = .ok (.invokestatic 72, 3) := by decide +kernel
theorem dX10_batch_8 : decode cX10_batch 8 = .ok (.aload_n 0, 1) := by decide +kernel
theorem dX10_batch_9 : decode cX10_batch 9 = .ok (.iconst 0, 1) := by decide +kernel
theorem dX10_batch_10 : decode cX10_batch 10 = .ok (.invokevirtual 76, 3) := by decide +kernel
theorem dX10_batch_13 : decode cX10_batch 13 = .ok (.aload_n 0, 1) := by decide +kernel
theorem dX10_batch_14 : decode cX10_batch 14 = .ok (.getfield 12, 3) := by decide +kernel
theorem dX10_batch_17 : decode cX10_batch 17 = .ok (.getfield 93, 3) := by decide +kernel
theorem dX10_batch_20 : decode cX10_batch 20 = .ok (.bipush 64, 2) := by decide +kernel
theorem dX10_batch_22 : decode cX10_batch 22 = .ok (.if_icmp .ge 18, 3) := by decide +kernel
theorem dX10_batch_25 : decode cX10_batch 25 = .ok (.iload_n 1, 1) := by decide +kernel
theorem dX10_batch_26 : decode cX10_batch 26 = .ok (.sipush 20000, 3) := by decide +kernel
theorem dX10_batch_29 : decode cX10_batch 29 = .ok (.aload_n 0, 1) := by decide +kernel
theorem dX10_batch_30 : decode cX10_batch 30 = .ok (.getfield 12, 3) := by decide +kernel
theorem dX10_batch_33 : decode cX10_batch 33 = .ok (.getfield 96, 3) := by decide +kernel
theorem dX10_batch_36 : decode cX10_batch 36 = .ok (.isub, 1) := by decide +kernel
theorem dX10_batch_37 : decode cX10_batch 37 = .ok (.if_icmp .le 13, 3) := by decide +kernel
theorem dX10_batch_40 : decode cX10_batch 40 = .ok (.new 82, 3) := by decide +kernel
theorem dX10_batch_43 : decode cX10_batch 43 = .ok (.dup, 1) := by decide +kernel
theorem dX10_batch_44 : decode cX10_batch 44 = .ok (.ldc 99, 2) := by decide +kernel
theorem dX10_batch_46 : decode cX10_batch 46 = .ok (.invokespecial 86, 3) := by decide +kernel
theorem dX10_batch_49 : decode cX10_batch 49 = .ok (.athrow, 1) := by decide +kernel
theorem dX10_batch_50 : decode cX10_batch 50 = .ok (.aload_n 0, 1) := by decide +kernel
theorem dX10_batch_51 : decode cX10_batch 51 = .ok (.getfield 12, 3) := by decide +kernel
theorem dX10_batch_54 : decode cX10_batch 54 = .ok (.iload_n 1, 1) := by decide +kernel
theorem dX10_batch_55 : decode cX10_batch 55 = .ok (.invokevirtual 101, 3) := by decide +kernel
theorem dX10_batch_58 : decode cX10_batch 58 = .ok (.ireturn, 1) := by decide +kernel
theorem dX10_set_0 : decode cX10_set 0 = .ok (.iload_n 1, 1) := by decide +kernel
theorem dX10_set_1 : decode cX10_set 1 = .ok (.iconst 2, 1) := by decide +kernel
theorem dX10_set_2 : decode cX10_set 2 = .ok (.invokestatic 104, 3) := by decide +kernel
theorem dX10_set_5 : decode cX10_set 5 = .ok (.iload_n 2, 1) := by decide +kernel
theorem dX10_set_6 : decode cX10_set 6 = .ok (.iconst 1, 1) := by decide +kernel
theorem dX10_set_7 : decode cX10_set 7 = .ok (.iload_n 1, 1) := by decide +kernel
theorem dX10_set_8 : decode cX10_set 8 = .ok (.ifCond .ne 8, 3) := by decide +kernel
theorem dX10_set_11 : decode cX10_set 11 = .ok (.bipush 7, 2) := by decide +kernel
theorem dX10_set_13 : decode cX10_set 13 = .ok (.goto 6, 3) := by decide +kernel
theorem dX10_set_16 : decode cX10_set 16 = .ok (.sipush 200, 3) := by decide +kernel
theorem dX10_set_19 : decode cX10_set 19 = .ok (.invokestatic 72, 3) := by decide +kernel
theorem dX10_set_22 : decode cX10_set 22 = .ok (.aload_n 0, 1) := by decide +kernel
theorem dX10_set_23 : decode cX10_set 23 = .ok (.iconst 0, 1) := by decide +kernel
theorem dX10_set_24 : decode cX10_set 24 = .ok (.invokevirtual 76, 3) := by decide +kernel
theorem dX10_set_27 : decode cX10_set 27 = .ok (.iload_n 1, 1) := by decide +kernel
theorem dX10_set_28 : decode cX10_set 28 = .ok (.ifCond .ne 22, 3) := by decide +kernel
theorem dX10_set_31 : decode cX10_set 31 = .ok (.aload_n 0, 1) := by decide +kernel
theorem dX10_set_32 : decode cX10_set 32 = .ok (.getfield 12, 3) := by decide +kernel
theorem dX10_set_35 : decode cX10_set 35 = .ok (.getfield 108, 3) := by decide +kernel
theorem dX10_set_38 : decode cX10_set 38 = .ok (.istore_n 3, 1) := by decide +kernel
theorem dX10_set_39 : decode cX10_set 39 = .ok (.aload_n 0, 1) := by decide +kernel
theorem dX10_set_40 : decode cX10_set 40 = .ok (.getfield 12, 3) := by decide +kernel
theorem dX10_set_43 : decode cX10_set 43 = .ok (.iload_n 2, 1) := by decide +kernel
theorem dX10_set_44 : decode cX10_set 44 = .ok (.putfield 108, 3) := by decide +kernel
theorem dX10_set_47 : decode cX10_set 47 = .ok (.goto 19, 3) := by decide +kernel
theorem dX10_set_50 : decode cX10_set 50 = .ok (.aload_n 0, 1) := by decide +kernel
theorem dX10_set_51 : decode cX10_set 51 = .ok (.getfield 12, 3) := by decide +kernel
theorem dX10_set_54 : decode cX10_set 54 = .ok (.getfield 111, 3) := by decide +kernel
theorem dX10_set_57 : decode cX10_set 57 = .ok (.istore_n 3, 1) := by decide +kernel
theorem dX10_set_58 : decode cX10_set 58 = .ok (.aload_n 0, 1) := by decide +kernel
theorem dX10_set_59 : decode cX10_set 59 = .ok (.getfield 12, 3) := by decide +kernel
theorem dX10_set_62 : decode cX10_set 62 = .ok (.iload_n 2, 1) := by decide +kernel
theorem dX10_set_63 : decode cX10_set 63 = .ok (.putfield 111, 3) := by decide +kernel
theorem dX10_set_66 : decode cX10_set 66 = .ok (.iload_n 3, 1) := by decide +kernel
theorem dX10_set_67 : decode cX10_set 67 = .ok (.ireturn, 1) := by decide +kernel
theorem dX10_fraction_0 : decode cX10_fraction 0 = .ok (.iload_n 1, 1) := by decide +kernel
theorem dX10_fraction_1 : decode cX10_fraction 1 = .ok (.iconst 2, 1) := by decide +kernel
theorem dX10_fraction_2 : decode cX10_fraction 2 = .ok (.invokestatic 104, 3) := by decide +kernel
theorem dX10_fraction_5 : decode cX10_fraction 5 = .ok (.iload_n 2, 1) := by decide +kernel
theorem dX10_fraction_6 : decode cX10_fraction 6 = .ok (.iconst 1, 1) := by decide +kernel
theorem dX10_fraction_7 : decode cX10_fraction 7 = .ok (.ldc 71, 2) := by decide +kernel
theorem dX10_fraction_9 : decode cX10_fraction 9 = .ok (.invokestatic 72, 3) := by decide +kernel
theorem dX10_fraction_12 : decode cX10_fraction 12 = .ok (.iload_n 3, 1) := by decide +kernel
theorem dX10_fraction_13 : decode cX10_fraction 13 = .ok (.iconst 1, 1) := by decide +kernel
theorem dX10_fraction_14 : decode cX10_fraction 14 = .ok (.ldc 71, 2) := by decide +kernel
theorem dX10_fraction_16 : decode cX10_fraction 16 = .ok (.invokestatic 72, 3) := by decide +kernel
theorem dX10_fraction_19 : decode cX10_fraction 19 = .ok (.iload_n 1, 1) := by decide +kernel
theorem dX10_fraction_20 : decode cX10_fraction 20 = .ok (.ifCond .ne 11, 3) := by decide +kernel
theorem dX10_fraction_23 : decode cX10_fraction 23 = .ok (.iload_n 2, 1) := by decide +kernel
theorem dX10_fraction_24 : decode cX10_fraction 24 = .ok (.iload_n 3, 1) := by decide +kernel
theorem dX10_fraction_25 : decode cX10_fraction 25 = .ok (.if_icmp .lt 21, 3) := by decide +kernel
theorem dX10_fraction_28 : decode cX10_fraction 28 = .ok (.goto 8, 3) := by decide +kernel
theorem dX10_fraction_31 : decode cX10_fraction 31 = .ok (.iload_n 2, 1) := by decide +kernel
theorem dX10_fraction_32 : decode cX10_fraction 32 = .ok (.iload_n 3, 1) := by decide +kernel
theorem dX10_fraction_33 : decode cX10_fraction 33 = .ok (.if_icmp .gt 13, 3) := by decide +kernel
theorem dX10_fraction_36 : decode cX10_fraction 36 = .ok (.new 114, 3) := by decide +kernel
theorem dX10_fraction_39 : decode cX10_fraction 39 = .ok (.dup, 1) := by decide +kernel
theorem dX10_fraction_40 : decode cX10_fraction 40 = .ok (.ldc 116, 2) := by decide +kernel
theorem dX10_fraction_42 : decode cX10_fraction 42 = .ok (.invokespecial 118, 3) := by decide +kernel
theorem dX10_fraction_45 : decode cX10_fraction 45 = .ok (.athrow, 1) := by decide +kernel
theorem dX10_fraction_46 : decode cX10_fraction 46 = .ok (.aload_n 0, 1) := by decide +kernel
theorem dX10_fraction_47 : decode cX10_fraction 47 = .ok (.iconst 0, 1) := by decide +kernel
theorem dX10_fraction_48 : decode cX10_fraction 48 = .ok (.invokevirtual 76, 3) := by decide +kernel
theorem dX10_fraction_51 : decode cX10_fraction 51 = .ok (.iload_n 1, 1) := by decide +kernel
theorem dX10_fraction_52 : decode cX10_fraction 52 = .ok (.ifCond .ne 22, 3) := by decide +kernel
theorem dX10_fraction_55 : decode cX10_fraction 55 = .ok (.aload_n 0, 1) := by decide +kernel
theorem dX10_fraction_56 : decode cX10_fraction 56 = .ok (.getfield 12, 3) := by decide +kernel
theorem dX10_fraction_59 : decode cX10_fraction 59 = .ok (.iload_n 2, 1) := by decide +kernel
theorem dX10_fraction_60 : decode cX10_fraction 60 = .ok (.putfield 119, 3) := by decide +kernel
theorem dX10_fraction_63 : decode cX10_fraction 63 = .ok (.aload_n 0, 1) := by decide +kernel
theorem dX10_fraction_64 : decode cX10_fraction 64 = .ok (.getfield 12, 3) := by decide +kernel
theorem dX10_fraction_67 : decode cX10_fraction 67 = .ok (.iload_n 3, 1) := by decide +kernel
theorem dX10_fraction_68 : decode cX10_fraction 68 = .ok (.putfield 122, 3) := by decide +kernel
theorem dX10_fraction_71 : decode cX10_fraction 71 = .ok (.goto 19, 3) := by decide +kernel
theorem dX10_fraction_74 : decode cX10_fraction 74 = .ok (.aload_n 0, 1) := by decide +kernel
theorem dX10_fraction_75 : decode cX10_fraction 75 = .ok (.getfield 12, 3) := by decide +kernel
theorem dX10_fraction_78 : decode cX10_fraction 78 = .ok (.iload_n 2, 1) := by decide +kernel
theorem dX10_fraction_79 : decode cX10_fraction 79 = .ok (.putfield 125, 3) := by decide +kernel
theorem dX10_fraction_82 : decode cX10_fraction 82 = .ok (.aload_n 0, 1) := by decide +kernel
theorem dX10_fraction_83 : decode cX10_fraction 83 = .ok (.getfield 12, 3) := by decide +kernel
theorem dX10_fraction_86 : decode cX10_fraction 86 = .ok (.iload_n 3, 1) := by decide +kernel
theorem dX10_fraction_87 : decode cX10_fraction 87 = .ok (.putfield 128, 3) := by decide +kernel
theorem dX10_fraction_90 : decode cX10_fraction 90 = .ok (.return_, 1) := by decide +kernel
theorem dX10_record_0 : decode cX10_record 0 = .ok (.iload_n 1, 1) := by decide +kernel
theorem dX10_record_1 : decode cX10_record 1 = .ok (.aload_n 0, 1) := by decide +kernel
theorem dX10_record_2 : decode cX10_record 2 = .ok (.getfield 12, 3) := by decide +kernel
theorem dX10_record_5 : decode cX10_record 5 = .ok (.getfield 96, 3) := by decide +kernel
theorem dX10_record_8 : decode cX10_record 8 = .ok (.invokestatic 104, 3) := by decide +kernel
theorem dX10_record_11 : decode cX10_record 11 = .ok (.iload_n 2, 1) := by decide +kernel
theorem dX10_record_12 : decode cX10_record 12 = .ok (.iconst 1, 1) := by decide +kernel
theorem dX10_record_13 : decode cX10_record 13 = .ok (.if_icmp .lt 16, 3) := by decide +kernel
theorem dX10_record_16 : decode cX10_record 16 = .ok (.iload_n 2, 1) := by decide +kernel
theorem dX10_record_17 : decode cX10_record 17 = .ok (.aload_n 0, 1) := by decide +kernel
theorem dX10_record_18 : decode cX10_record 18 = .ok (.getfield 12, 3) := by decide +kernel
theorem dX10_record_21 : decode cX10_record 21 = .ok (.getfield 96, 3) := by decide +kernel
theorem dX10_record_24 : decode cX10_record 24 = .ok (.iload_n 1, 1) := by decide +kernel
theorem dX10_record_25 : decode cX10_record 25 = .ok (.isub, 1) := by decide +kernel
theorem dX10_record_26 : decode cX10_record 26 = .ok (.if_icmp .le 13, 3) := by decide +kernel
theorem dX10_record_29 : decode cX10_record 29 = .ok (.new 131, 3) := by decide +kernel
theorem dX10_record_32 : decode cX10_record 32 = .ok (.dup, 1) := by decide +kernel
theorem dX10_record_33 : decode cX10_record 33 = .ok (.ldc 133, 2) := by decide +kernel
theorem dX10_record_35 : decode cX10_record 35 = .ok (.invokespecial 135, 3) := by decide +kernel
theorem dX10_record_38 : decode cX10_record 38 = .ok (.athrow, 1) := by decide +kernel
theorem dX10_record_39 : decode cX10_record 39 = .ok (.aload_n 0, 1) := by decide +kernel
theorem dX10_record_40 : decode cX10_record 40 = .ok (.iload_n 3, 1) := by decide +kernel
theorem dX10_record_41 : decode cX10_record 41 = .ok (.invokevirtual 136, 3) := by decide +kernel
theorem dX10_record_44 : decode cX10_record 44 = .ok (.aload_n 0, 1) := by decide +kernel
theorem dX10_record_45 : decode cX10_record 45 = .ok (.iconst 0, 1) := by decide +kernel
theorem dX10_record_46 : decode cX10_record 46 = .ok (.invokevirtual 76, 3) := by decide +kernel
theorem dX10_record_49 : decode cX10_record 49 = .ok (.aload_n 0, 1) := by decide +kernel
theorem dX10_record_50 : decode cX10_record 50 = .ok (.getfield 12, 3) := by decide +kernel
theorem dX10_record_53 : decode cX10_record 53 = .ok (.iload_n 1, 1) := by decide +kernel
theorem dX10_record_54 : decode cX10_record 54 = .ok (.iload_n 2, 1) := by decide +kernel
theorem dX10_record_55 : decode cX10_record 55 = .ok (.iload_n 3, 1) := by decide +kernel
theorem dX10_record_56 : decode cX10_record 56 = .ok (.invokevirtual 139, 3) := by decide +kernel
theorem dX10_record_59 : decode cX10_record 59 = .ok (.return_, 1) := by decide +kernel
theorem dX10_digit_0 : decode cX10_digit 0 = .ok (.iload_n 1, 1) := by decide +kernel
theorem dX10_digit_1 : decode cX10_digit 1 = .ok (.iconst 0, 1) := by decide +kernel
theorem dX10_digit_2 : decode cX10_digit 2 = .ok (.bipush 9, 2) := by decide +kernel
theorem dX10_digit_4 : decode cX10_digit 4 = .ok (.invokestatic 72, 3) := by decide +kernel
theorem dX10_digit_7 : decode cX10_digit 7 = .ok (.aload_n 0, 1) := by decide +kernel
theorem dX10_digit_8 : decode cX10_digit 8 = .ok (.iconst 0, 1) := by decide +kernel
theorem dX10_digit_9 : decode cX10_digit 9 = .ok (.invokevirtual 76, 3) := by decide +kernel
theorem dX10_digit_12 : decode cX10_digit 12 = .ok (.aload_n 0, 1) := by decide +kernel
theorem dX10_digit_13 : decode cX10_digit 13 = .ok (.getfield 26, 3) := by decide +kernel
theorem dX10_digit_16 : decode cX10_digit 16 = .ok (.getfield 142, 3) := by decide +kernel
theorem dX10_digit_19 : decode cX10_digit 19 = .ok (.bipush 20, 2) := by decide +kernel
theorem dX10_digit_21 : decode cX10_digit 21 = .ok (.if_icmp .lt 13, 3) := by decide +kernel
theorem dX10_digit_24 : decode cX10_digit 24 = .ok (.new 82, 3) := by decide +kernel
theorem dX10_digit_27 : decode cX10_digit 27 = .ok (.dup, 1) := by decide +kernel
theorem dX10_digit_28 : decode cX10_digit 28 = .ok (.ldc 145, 2) := by decide +kernel
theorem dX10_digit_30 : decode cX10_digit 30 = .ok (.invokespecial 86, 3) := by decide +kernel
theorem dX10_digit_33 : decode cX10_digit 33 = .ok (.athrow, 1) := by decide +kernel
theorem dX10_digit_34 : decode cX10_digit 34 = .ok (.aload_n 0, 1) := by decide +kernel
theorem dX10_digit_35 : decode cX10_digit 35 = .ok (.getfield 26, 3) := by decide +kernel
theorem dX10_digit_38 : decode cX10_digit 38 = .ok (.iload_n 1, 1) := by decide +kernel
theorem dX10_digit_39 : decode cX10_digit 39 = .ok (.invokevirtual 147, 3) := by decide +kernel
theorem dX10_digit_42 : decode cX10_digit 42 = .ok (.ireturn, 1) := by decide +kernel
theorem dX10_coins_0 : decode cX10_coins 0 = .ok (.iload_n 2, 1) := by decide +kernel
theorem dX10_coins_1 : decode cX10_coins 1 = .ok (.iconst 0, 1) := by decide +kernel
theorem dX10_coins_2 : decode cX10_coins 2 = .ok (.bipush 32, 2) := by decide +kernel
theorem dX10_coins_4 : decode cX10_coins 4 = .ok (.invokestatic 72, 3) := by decide +kernel
theorem dX10_coins_7 : decode cX10_coins 7 = .ok (.iload_n 2, 1) := by decide +kernel
theorem dX10_coins_8 : decode cX10_coins 8 = .ok (.sipush 4000, 3) := by decide +kernel
theorem dX10_coins_11 : decode cX10_coins 11 = .ok (.aload_n 0, 1) := by decide +kernel
theorem dX10_coins_12 : decode cX10_coins 12 = .ok (.getfield 19, 3) := by decide +kernel
theorem dX10_coins_15 : decode cX10_coins 15 = .ok (.getfield 150, 3) := by decide +kernel
theorem dX10_coins_18 : decode cX10_coins 18 = .ok (.isub, 1) := by decide +kernel
theorem dX10_coins_19 : decode cX10_coins 19 = .ok (.if_icmp .le 13, 3) := by decide +kernel
theorem dX10_coins_22 : decode cX10_coins 22 = .ok (.new 82, 3) := by decide +kernel
theorem dX10_coins_25 : decode cX10_coins 25 = .ok (.dup, 1) := by decide +kernel
theorem dX10_coins_26 : decode cX10_coins 26 = .ok (.ldc 151, 2) := by decide +kernel
theorem dX10_coins_28 : decode cX10_coins 28 = .ok (.invokespecial 86, 3) := by decide +kernel
theorem dX10_coins_31 : decode cX10_coins 31 = .ok (.athrow, 1) := by decide +kernel
theorem dX10_coins_32 : decode cX10_coins 32 = .ok (.aload_n 0, 1) := by decide +kernel
theorem dX10_coins_33 : decode cX10_coins 33 = .ok (.getfield 19, 3) := by decide +kernel
theorem dX10_coins_36 : decode cX10_coins 36 = .ok (.iload_n 1, 1) := by decide +kernel
theorem dX10_coins_37 : decode cX10_coins 37 = .ok (.iload_n 2, 1) := by decide +kernel
theorem dX10_coins_38 : decode cX10_coins 38 = .ok (.invokevirtual 153, 3) := by decide +kernel
theorem dX10_coins_41 : decode cX10_coins 41 = .ok (.ireturn, 1) := by decide +kernel
theorem dX10_start_0 : decode cX10_start 0 = .ok (.aload_n 0, 1) := by decide +kernel
theorem dX10_start_1 : decode cX10_start 1 = .ok (.iconst 0, 1) := by decide +kernel
theorem dX10_start_2 : decode cX10_start 2 = .ok (.invokevirtual 76, 3) := by decide +kernel
theorem dX10_start_5 : decode cX10_start 5 = .ok (.aload_n 0, 1) := by decide +kernel
theorem dX10_start_6 : decode cX10_start 6 = .ok (.getfield 12, 3) := by decide +kernel
theorem dX10_start_9 : decode cX10_start 9 = .ok (.invokevirtual 157, 3) := by decide +kernel
theorem dX10_start_12 : decode cX10_start 12 = .ok (.ifCond .eq 17, 3) := by decide +kernel
theorem dX10_start_15 : decode cX10_start 15 = .ok (.iload_n 2, 1) := by decide +kernel
theorem dX10_start_16 : decode cX10_start 16 = .ok (.ifCond .eq 23, 3) := by decide +kernel
theorem dX10_start_19 : decode cX10_start 19 = .ok (.aload_n 0, 1) := by decide +kernel
theorem dX10_start_20 : decode cX10_start 20 = .ok (.getfield 26, 3) := by decide +kernel
theorem dX10_start_23 : decode cX10_start 23 = .ok (.getfield 142, 3) := by decide +kernel
theorem dX10_start_26 : decode cX10_start 26 = .ok (.ifCond .ne 13, 3) := by decide +kernel
theorem dX10_start_29 : decode cX10_start 29 = .ok (.new 161, 3) := by decide +kernel
theorem dX10_start_32 : decode cX10_start 32 = .ok (.dup, 1) := by decide +kernel
theorem dX10_start_33 : decode cX10_start 33 = .ok (.ldc 163, 2) := by decide +kernel
theorem dX10_start_35 : decode cX10_start 35 = .ok (.invokespecial 165, 3) := by decide +kernel
theorem dX10_start_38 : decode cX10_start 38 = .ok (.athrow, 1) := by decide +kernel
theorem dX10_start_39 : decode cX10_start 39 = .ok (.aload_n 0, 1) := by decide +kernel
theorem dX10_start_40 : decode cX10_start 40 = .ok (.getfield 12, 3) := by decide +kernel
theorem dX10_start_43 : decode cX10_start 43 = .ok (.invokevirtual 166, 3) := by decide +kernel
theorem dX10_start_46 : decode cX10_start 46 = .ok (.aload_n 0, 1) := by decide +kernel
theorem dX10_start_47 : decode cX10_start 47 = .ok (.getfield 40, 3) := by decide +kernel
theorem dX10_start_50 : decode cX10_start 50 = .ok (.aload_n 0, 1) := by decide +kernel
theorem dX10_start_51 : decode cX10_start 51 = .ok (.getfield 12, 3) := by decide +kernel
theorem dX10_start_54 : decode cX10_start 54 = .ok (.invokevirtual 169, 3) := by decide +kernel
theorem dX10_start_57 : decode cX10_start 57 = .ok (.aload_n 0, 1) := by decide +kernel
theorem dX10_start_58 : decode cX10_start 58 = .ok (.iload_n 1, 1) := by decide +kernel
theorem dX10_start_59 : decode cX10_start 59 = .ok (.putfield 173, 3) := by decide +kernel
theorem dX10_start_62 : decode cX10_start 62 = .ok (.aload_n 0, 1) := by decide +kernel
theorem dX10_start_63 : decode cX10_start 63 = .ok (.iload_n 2, 1) := by decide +kernel
theorem dX10_start_64 : decode cX10_start 64 = .ok (.putfield 177, 3) := by decide +kernel
theorem dX10_start_67 : decode cX10_start 67 = .ok (.aload_n 0, 1) := by decide +kernel
theorem dX10_start_68 : decode cX10_start 68 = .ok (.iconst 1, 1) := by decide +kernel
theorem dX10_start_69 : decode cX10_start 69 = .ok (.putfield 67, 3) := by decide +kernel
theorem dX10_start_72 : decode cX10_start 72 = .ok (.return_, 1) := by decide +kernel
theorem dX10_draw_0 : decode cX10_draw 0 = .ok (.aload_n 0, 1) := by decide +kernel
theorem dX10_draw_1 : decode cX10_draw 1 = .ok (.iconst 1, 1) := by decide +kernel
theorem dX10_draw_2 : decode cX10_draw 2 = .ok (.invokevirtual 76, 3) := by decide +kernel
theorem dX10_draw_5 : decode cX10_draw 5 = .ok (.aload_n 0, 1) := by decide +kernel
theorem dX10_draw_6 : decode cX10_draw 6 = .ok (.getfield 177, 3) := by decide +kernel
theorem dX10_draw_9 : decode cX10_draw 9 = .ok (.ifCond .eq 29, 3) := by decide +kernel
theorem dX10_draw_12 : decode cX10_draw 12 = .ok (.aload_n 0, 1) := by decide +kernel
theorem dX10_draw_13 : decode cX10_draw 13 = .ok (.getfield 26, 3) := by decide +kernel
theorem dX10_draw_16 : decode cX10_draw 16 = .ok (.aload_n 0, 1) := by decide +kernel
theorem dX10_draw_17 : decode cX10_draw 17 = .ok (.getfield 33, 3) := by decide +kernel
theorem dX10_draw_20 : decode cX10_draw 20 = .ok (.getfield 180, 3) := by decide +kernel
theorem dX10_draw_23 : decode cX10_draw 23 = .ok (.iconst 1, 1) := by decide +kernel
theorem dX10_draw_24 : decode cX10_draw 24 = .ok (.iadd, 1) := by decide +kernel
theorem dX10_draw_25 : decode cX10_draw 25 = .ok (.aload_n 0, 1) := by decide +kernel
theorem dX10_draw_26 : decode cX10_draw 26 = .ok (.getfield 12, 3) := by decide +kernel
theorem dX10_draw_29 : decode cX10_draw 29 = .ok (.getfield 96, 3) := by decide +kernel
theorem dX10_draw_32 : decode cX10_draw 32 = .ok (.invokevirtual 183, 3) := by decide +kernel
theorem dX10_draw_35 : decode cX10_draw 35 = .ok (.goto 7, 3) := by decide +kernel
theorem dX10_draw_38 : decode cX10_draw 38 = .ok (.aload_n 0, 1) := by decide +kernel
theorem dX10_draw_39 : decode cX10_draw 39 = .ok (.invokevirtual 186, 3) := by decide +kernel
theorem dX10_draw_42 : decode cX10_draw 42 = .ok (.istore_n 1, 1) := by decide +kernel
theorem dX10_draw_43 : decode cX10_draw 43 = .ok (.iload_n 1, 1) := by decide +kernel
theorem dX10_draw_44 : decode cX10_draw 44 = .ok (.iconst (-1), 1) := by decide +kernel
theorem dX10_draw_45 : decode cX10_draw 45 = .ok (.if_icmp .ne 5, 3) := by decide +kernel
theorem dX10_draw_48 : decode cX10_draw 48 = .ok (.iconst (-1), 1) := by decide +kernel
theorem dX10_draw_49 : decode cX10_draw 49 = .ok (.ireturn, 1) := by decide +kernel
theorem dX10_draw_50 : decode cX10_draw 50 = .ok (.iload_n 1, 1) := by decide +kernel
theorem dX10_draw_51 : decode cX10_draw 51 = .ok (.bipush (-2), 2) := by decide +kernel
theorem dX10_draw_53 : decode cX10_draw 53 = .ok (.if_icmp .ne 18, 3) := by decide +kernel
theorem dX10_draw_56 : decode cX10_draw 56 = .ok (.aload_n 0, 1) := by decide +kernel
theorem dX10_draw_57 : decode cX10_draw 57 = .ok (.getfield 33, 3) := by decide +kernel
theorem dX10_draw_60 : decode cX10_draw 60 = .ok (.invokevirtual 190, 3) := by decide +kernel
theorem dX10_draw_63 : decode cX10_draw 63 = .ok (.aload_n 0, 1) := by decide +kernel
theorem dX10_draw_64 : decode cX10_draw 64 = .ok (.iconst (-1), 1) := by decide +kernel
theorem dX10_draw_65 : decode cX10_draw 65 = .ok (.invokevirtual 193, 3) := by decide +kernel
theorem dX10_draw_68 : decode cX10_draw 68 = .ok (.bipush (-2), 2) := by decide +kernel
theorem dX10_draw_70 : decode cX10_draw 70 = .ok (.ireturn, 1) := by decide +kernel
theorem dX10_draw_71 : decode cX10_draw 71 = .ok (.aload_n 0, 1) := by decide +kernel
theorem dX10_draw_72 : decode cX10_draw 72 = .ok (.getfield 33, 3) := by decide +kernel
theorem dX10_draw_75 : decode cX10_draw 75 = .ok (.iload_n 1, 1) := by decide +kernel
theorem dX10_draw_76 : decode cX10_draw 76 = .ok (.invokevirtual 196, 3) := by decide +kernel
theorem dX10_draw_79 : decode cX10_draw 79 = .ok (.istore_n 2, 1) := by decide +kernel
theorem dX10_draw_80 : decode cX10_draw 80 = .ok (.aload_n 0, 1) := by decide +kernel
theorem dX10_draw_81 : decode cX10_draw 81 = .ok (.getfield 33, 3) := by decide +kernel
theorem dX10_draw_84 : decode cX10_draw 84 = .ok (.iload_n 2, 1) := by decide +kernel
theorem dX10_draw_85 : decode cX10_draw 85 = .ok (.invokevirtual 199, 3) := by decide +kernel
theorem dX10_draw_88 : decode cX10_draw 88 = .ok (.bipush (-2), 2) := by decide +kernel
theorem dX10_draw_90 : decode cX10_draw 90 = .ok (.if_icmp .ne 11, 3) := by decide +kernel
theorem dX10_draw_93 : decode cX10_draw 93 = .ok (.aload_n 0, 1) := by decide +kernel
theorem dX10_draw_94 : decode cX10_draw 94 = .ok (.iconst 2, 1) := by decide +kernel
theorem dX10_draw_95 : decode cX10_draw 95 = .ok (.putfield 67, 3) := by decide +kernel
theorem dX10_draw_98 : decode cX10_draw 98 = .ok (.goto 8, 3) := by decide +kernel
theorem dX10_draw_101 : decode cX10_draw 101 = .ok (.aload_n 0, 1) := by decide +kernel
theorem dX10_draw_102 : decode cX10_draw 102 = .ok (.iload_n 2, 1) := by decide +kernel
theorem dX10_draw_103 : decode cX10_draw 103 = .ok (.invokevirtual 193, 3) := by decide +kernel
theorem dX10_draw_106 : decode cX10_draw 106 = .ok (.iload_n 1, 1) := by decide +kernel
theorem dX10_draw_107 : decode cX10_draw 107 = .ok (.ireturn, 1) := by decide +kernel
theorem dX10_see_0 : decode cX10_see 0 = .ok (.aload_n 0, 1) := by decide +kernel
theorem dX10_see_1 : decode cX10_see 1 = .ok (.iload_n 1, 1) := by decide +kernel
theorem dX10_see_2 : decode cX10_see 2 = .ok (.invokevirtual 136, 3) := by decide +kernel
theorem dX10_see_5 : decode cX10_see 5 = .ok (.aload_n 0, 1) := by decide +kernel
theorem dX10_see_6 : decode cX10_see 6 = .ok (.iconst 2, 1) := by decide +kernel
theorem dX10_see_7 : decode cX10_see 7 = .ok (.invokevirtual 76, 3) := by decide +kernel
theorem dX10_see_10 : decode cX10_see 10 = .ok (.aload_n 0, 1) := by decide +kernel
theorem dX10_see_11 : decode cX10_see 11 = .ok (.aload_n 0, 1) := by decide +kernel
theorem dX10_see_12 : decode cX10_see 12 = .ok (.getfield 33, 3) := by decide +kernel
theorem dX10_see_15 : decode cX10_see 15 = .ok (.iload_n 1, 1) := by decide +kernel
theorem dX10_see_16 : decode cX10_see 16 = .ok (.invokevirtual 202, 3) := by decide +kernel
theorem dX10_see_19 : decode cX10_see 19 = .ok (.invokevirtual 193, 3) := by decide +kernel
theorem dX10_see_22 : decode cX10_see 22 = .ok (.aload_n 0, 1) := by decide +kernel
theorem dX10_see_23 : decode cX10_see 23 = .ok (.getfield 67, 3) := by decide +kernel
theorem dX10_see_26 : decode cX10_see 26 = .ok (.ireturn, 1) := by decide +kernel
theorem dX10_counted_0 : decode cX10_counted 0 = .ok (.iload_n 1, 1) := by decide +kernel
theorem dX10_counted_1 : decode cX10_counted 1 = .ok (.aload_n 0, 1) := by decide +kernel
theorem dX10_counted_2 : decode cX10_counted 2 = .ok (.getfield 12, 3) := by decide +kernel
theorem dX10_counted_5 : decode cX10_counted 5 = .ok (.getfield 79, 3) := by decide +kernel
theorem dX10_counted_8 : decode cX10_counted 8 = .ok (.invokestatic 104, 3) := by decide +kernel
theorem dX10_counted_11 : decode cX10_counted 11 = .ok (.iload_n 2, 1) := by decide +kernel
theorem dX10_counted_12 : decode cX10_counted 12 = .ok (.iconst 0, 1) := by decide +kernel
theorem dX10_counted_13 : decode cX10_counted 13 = .ok (.aload_n 0, 1) := by decide +kernel
theorem dX10_counted_14 : decode cX10_counted 14 = .ok (.getfield 12, 3) := by decide +kernel
theorem dX10_counted_17 : decode cX10_counted 17 = .ok (.getfield 96, 3) := by decide +kernel
theorem dX10_counted_20 : decode cX10_counted 20 = .ok (.invokestatic 72, 3) := by decide +kernel
theorem dX10_counted_23 : decode cX10_counted 23 = .ok (.aload_n 0, 1) := by decide +kernel
theorem dX10_counted_24 : decode cX10_counted 24 = .ok (.iconst 4, 1) := by decide +kernel
theorem dX10_counted_25 : decode cX10_counted 25 = .ok (.invokevirtual 76, 3) := by decide +kernel
theorem dX10_counted_28 : decode cX10_counted 28 = .ok (.aload_n 0, 1) := by decide +kernel
theorem dX10_counted_29 : decode cX10_counted 29 = .ok (.getfield 47, 3) := by decide +kernel
theorem dX10_counted_32 : decode cX10_counted 32 = .ok (.iload_n 1, 1) := by decide +kernel
theorem dX10_counted_33 : decode cX10_counted 33 = .ok (.iload_n 2, 1) := by decide +kernel
theorem dX10_counted_34 : decode cX10_counted 34 = .ok (.invokevirtual 205, 3) := by decide +kernel
theorem dX10_counted_37 : decode cX10_counted 37 = .ok (.aload_n 0, 1) := by decide +kernel
theorem dX10_counted_38 : decode cX10_counted 38 = .ok (.getfield 47, 3) := by decide +kernel
theorem dX10_counted_41 : decode cX10_counted 41 = .ok (.getfield 208, 3) := by decide +kernel
theorem dX10_counted_44 : decode cX10_counted 44 = .ok (.aload_n 0, 1) := by decide +kernel
theorem dX10_counted_45 : decode cX10_counted 45 = .ok (.getfield 12, 3) := by decide +kernel
theorem dX10_counted_48 : decode cX10_counted 48 = .ok (.getfield 79, 3) := by decide +kernel
theorem dX10_counted_51 : decode cX10_counted 51 = .ok (.if_icmp .lt 26, 3) := by decide +kernel
theorem dX10_counted_54 : decode cX10_counted 54 = .ok (.aload_n 0, 1) := by decide +kernel
theorem dX10_counted_55 : decode cX10_counted 55 = .ok (.getfield 47, 3) := by decide +kernel
theorem dX10_counted_58 : decode cX10_counted 58 = .ok (.aload_n 0, 1) := by decide +kernel
theorem dX10_counted_59 : decode cX10_counted 59 = .ok (.getfield 40, 3) := by decide +kernel
theorem dX10_counted_62 : decode cX10_counted 62 = .ok (.aload_n 0, 1) := by decide +kernel
theorem dX10_counted_63 : decode cX10_counted 63 = .ok (.getfield 47, 3) := by decide +kernel
theorem dX10_counted_66 : decode cX10_counted 66 = .ok (.invokevirtual 209, 3) := by decide +kernel
theorem dX10_counted_69 : decode cX10_counted 69 = .ok (.putfield 213, 3) := by decide +kernel
theorem dX10_counted_72 : decode cX10_counted 72 = .ok (.aload_n 0, 1) := by decide +kernel
theorem dX10_counted_73 : decode cX10_counted 73 = .ok (.iconst 5, 1) := by decide +kernel
theorem dX10_counted_74 : decode cX10_counted 74 = .ok (.putfield 67, 3) := by decide +kernel
theorem dX10_counted_77 : decode cX10_counted 77 = .ok (.aload_n 0, 1) := by decide +kernel
theorem dX10_counted_78 : decode cX10_counted 78 = .ok (.getfield 47, 3) := by decide +kernel
theorem dX10_counted_81 : decode cX10_counted 81 = .ok (.getfield 208, 3) := by decide +kernel
theorem dX10_counted_84 : decode cX10_counted 84 = .ok (.ireturn, 1) := by decide +kernel
theorem dX10_again_0 : decode cX10_again 0 = .ok (.aload_n 0, 1) := by decide +kernel
theorem dX10_again_1 : decode cX10_again 1 = .ok (.getfield 19, 3) := by decide +kernel
theorem dX10_again_4 : decode cX10_again 4 = .ok (.invokevirtual 216, 3) := by decide +kernel
theorem dX10_again_7 : decode cX10_again 7 = .ok (.aload_n 0, 1) := by decide +kernel
theorem dX10_again_8 : decode cX10_again 8 = .ok (.getfield 33, 3) := by decide +kernel
theorem dX10_again_11 : decode cX10_again 11 = .ok (.invokevirtual 219, 3) := by decide +kernel
theorem dX10_again_14 : decode cX10_again 14 = .ok (.aload_n 0, 1) := by decide +kernel
theorem dX10_again_15 : decode cX10_again 15 = .ok (.getfield 47, 3) := by decide +kernel
theorem dX10_again_18 : decode cX10_again 18 = .ok (.invokevirtual 220, 3) := by decide +kernel
theorem dX10_again_21 : decode cX10_again 21 = .ok (.aload_n 0, 1) := by decide +kernel
theorem dX10_again_22 : decode cX10_again 22 = .ok (.getfield 40, 3) := by decide +kernel
theorem dX10_again_25 : decode cX10_again 25 = .ok (.invokevirtual 221, 3) := by decide +kernel
theorem dX10_again_28 : decode cX10_again 28 = .ok (.aload_n 0, 1) := by decide +kernel
theorem dX10_again_29 : decode cX10_again 29 = .ok (.iconst 0, 1) := by decide +kernel
theorem dX10_again_30 : decode cX10_again 30 = .ok (.putfield 67, 3) := by decide +kernel
theorem dX10_again_33 : decode cX10_again 33 = .ok (.return_, 1) := by decide +kernel
theorem dX10_told_0 : decode cX10_told 0 = .ok (.iload_n 1, 1) := by decide +kernel
theorem dX10_told_1 : decode cX10_told 1 = .ok (.bipush 13, 2) := by decide +kernel
theorem dX10_told_3 : decode cX10_told 3 = .ok (.invokestatic 104, 3) := by decide +kernel
theorem dX10_told_6 : decode cX10_told 6 = .ok (.aload_n 0, 1) := by decide +kernel
theorem dX10_told_7 : decode cX10_told 7 = .ok (.getfield 67, 3) := by decide +kernel
theorem dX10_told_10 : decode cX10_told 10 = .ok (.iconst 2, 1) := by decide +kernel
theorem dX10_told_11 : decode cX10_told 11 = .ok (.if_icmp .ne 7, 3) := by decide +kernel
theorem dX10_told_14 : decode cX10_told 14 = .ok (.iconst 1, 1) := by decide +kernel
theorem dX10_told_15 : decode cX10_told 15 = .ok (.goto 4, 3) := by decide +kernel
theorem dX10_told_18 : decode cX10_told 18 = .ok (.iconst 0, 1) := by decide +kernel
theorem dX10_told_19 : decode cX10_told 19 = .ok (.istore_n 2, 1) := by decide +kernel
theorem dX10_told_20 : decode cX10_told 20 = .ok (.iload_n 1, 1) := by decide +kernel
theorem dX10_told_21 : decode cX10_told 21 = .ok (.tableswitch 180 0 11 #[63, 68, 76, 84, 92, 100, 124, 132, 140, 148, 156, 172], 63) := by decide +kernel
theorem dX10_told_84 : decode cX10_told 84 = .ok (.aload_n 0, 1) := by decide +kernel
theorem dX10_told_85 : decode cX10_told 85 = .ok (.getfield 67, 3) := by decide +kernel
theorem dX10_told_88 : decode cX10_told 88 = .ok (.ireturn, 1) := by decide +kernel
theorem dX10_told_89 : decode cX10_told 89 = .ok (.aload_n 0, 1) := by decide +kernel
theorem dX10_told_90 : decode cX10_told 90 = .ok (.getfield 12, 3) := by decide +kernel
theorem dX10_told_93 : decode cX10_told 93 = .ok (.getfield 79, 3) := by decide +kernel
theorem dX10_told_96 : decode cX10_told 96 = .ok (.ireturn, 1) := by decide +kernel
theorem dX10_told_97 : decode cX10_told 97 = .ok (.aload_n 0, 1) := by decide +kernel
theorem dX10_told_98 : decode cX10_told 98 = .ok (.getfield 12, 3) := by decide +kernel
theorem dX10_told_101 : decode cX10_told 101 = .ok (.getfield 93, 3) := by decide +kernel
theorem dX10_told_104 : decode cX10_told 104 = .ok (.ireturn, 1) := by decide +kernel
theorem dX10_told_105 : decode cX10_told 105 = .ok (.aload_n 0, 1) := by decide +kernel
theorem dX10_told_106 : decode cX10_told 106 = .ok (.getfield 12, 3) := by decide +kernel
theorem dX10_told_109 : decode cX10_told 109 = .ok (.getfield 96, 3) := by decide +kernel
theorem dX10_told_112 : decode cX10_told 112 = .ok (.ireturn, 1) := by decide +kernel
theorem dX10_told_113 : decode cX10_told 113 = .ok (.aload_n 0, 1) := by decide +kernel
theorem dX10_told_114 : decode cX10_told 114 = .ok (.getfield 33, 3) := by decide +kernel
theorem dX10_told_117 : decode cX10_told 117 = .ok (.getfield 180, 3) := by decide +kernel
theorem dX10_told_120 : decode cX10_told 120 = .ok (.ireturn, 1) := by decide +kernel
theorem dX10_told_121 : decode cX10_told 121 = .ok (.iload_n 2, 1) := by decide +kernel
theorem dX10_told_122 : decode cX10_told 122 = .ok (.ifCond .eq 15, 3) := by decide +kernel
theorem dX10_told_125 : decode cX10_told 125 = .ok (.aload_n 0, 1) := by decide +kernel
theorem dX10_told_126 : decode cX10_told 126 = .ok (.getfield 33, 3) := by decide +kernel
theorem dX10_told_129 : decode cX10_told 129 = .ok (.getfield 224, 3) := by decide +kernel
theorem dX10_told_132 : decode cX10_told 132 = .ok (.iconst 1, 1) := by decide +kernel
theorem dX10_told_133 : decode cX10_told 133 = .ok (.isub, 1) := by decide +kernel
theorem dX10_told_134 : decode cX10_told 134 = .ok (.goto 10, 3) := by decide +kernel
theorem dX10_told_137 : decode cX10_told 137 = .ok (.aload_n 0, 1) := by decide +kernel
theorem dX10_told_138 : decode cX10_told 138 = .ok (.getfield 33, 3) := by decide +kernel
theorem dX10_told_141 : decode cX10_told 141 = .ok (.getfield 224, 3) := by decide +kernel
theorem dX10_told_144 : decode cX10_told 144 = .ok (.ireturn, 1) := by decide +kernel
theorem dX10_told_145 : decode cX10_told 145 = .ok (.aload_n 0, 1) := by decide +kernel
theorem dX10_told_146 : decode cX10_told 146 = .ok (.getfield 33, 3) := by decide +kernel
theorem dX10_told_149 : decode cX10_told 149 = .ok (.getfield 227, 3) := by decide +kernel
theorem dX10_told_152 : decode cX10_told 152 = .ok (.ireturn, 1) := by decide +kernel
theorem dX10_told_153 : decode cX10_told 153 = .ok (.aload_n 0, 1) := by decide +kernel
theorem dX10_told_154 : decode cX10_told 154 = .ok (.getfield 19, 3) := by decide +kernel
theorem dX10_told_157 : decode cX10_told 157 = .ok (.getfield 150, 3) := by decide +kernel
theorem dX10_told_160 : decode cX10_told 160 = .ok (.ireturn, 1) := by decide +kernel
theorem dX10_told_161 : decode cX10_told 161 = .ok (.aload_n 0, 1) := by decide +kernel
theorem dX10_told_162 : decode cX10_told 162 = .ok (.getfield 40, 3) := by decide +kernel
theorem dX10_told_165 : decode cX10_told 165 = .ok (.getfield 230, 3) := by decide +kernel
theorem dX10_told_168 : decode cX10_told 168 = .ok (.ireturn, 1) := by decide +kernel
theorem dX10_told_169 : decode cX10_told 169 = .ok (.aload_n 0, 1) := by decide +kernel
theorem dX10_told_170 : decode cX10_told 170 = .ok (.getfield 40, 3) := by decide +kernel
theorem dX10_told_173 : decode cX10_told 173 = .ok (.getfield 231, 3) := by decide +kernel
theorem dX10_told_176 : decode cX10_told 176 = .ok (.ireturn, 1) := by decide +kernel
theorem dX10_told_177 : decode cX10_told 177 = .ok (.iload_n 2, 1) := by decide +kernel
theorem dX10_told_178 : decode cX10_told 178 = .ok (.ifCond .eq 13, 3) := by decide +kernel
theorem dX10_told_181 : decode cX10_told 181 = .ok (.aload_n 0, 1) := by decide +kernel
theorem dX10_told_182 : decode cX10_told 182 = .ok (.getfield 33, 3) := by decide +kernel
theorem dX10_told_185 : decode cX10_told 185 = .ok (.invokevirtual 234, 3) := by decide +kernel
theorem dX10_told_188 : decode cX10_told 188 = .ok (.goto 4, 3) := by decide +kernel
theorem dX10_told_191 : decode cX10_told 191 = .ok (.iconst (-1), 1) := by decide +kernel
theorem dX10_told_192 : decode cX10_told 192 = .ok (.ireturn, 1) := by decide +kernel
theorem dX10_told_193 : decode cX10_told 193 = .ok (.aload_n 0, 1) := by decide +kernel
theorem dX10_told_194 : decode cX10_told 194 = .ok (.getfield 12, 3) := by decide +kernel
theorem dX10_told_197 : decode cX10_told 197 = .ok (.invokevirtual 237, 3) := by decide +kernel
theorem dX10_told_200 : decode cX10_told 200 = .ok (.ireturn, 1) := by decide +kernel
theorem dX10_told_201 : decode cX10_told 201 = .ok (.aload_n 0, 1) := by decide +kernel
theorem dX10_told_202 : decode cX10_told 202 = .ok (.getfield 47, 3) := by decide +kernel
theorem dX10_told_205 : decode cX10_told 205 = .ok (.getfield 213, 3) := by decide +kernel
theorem dX10_told_208 : decode cX10_told 208 = .ok (.ifCond .eq 7, 3) := by decide +kernel
theorem dX10_told_211 : decode cX10_told 211 = .ok (.iconst 1, 1) := by decide +kernel
theorem dX10_told_212 : decode cX10_told 212 = .ok (.goto 4, 3) := by decide +kernel
theorem dX10_told_215 : decode cX10_told 215 = .ok (.iconst 0, 1) := by decide +kernel
theorem dX10_told_216 : decode cX10_told 216 = .ok (.ireturn, 1) := by decide +kernel
theorem dX10_of_0 : decode cX10_of 0 = .ok (.iload_n 1, 1) := by decide +kernel
theorem dX10_of_1 : decode cX10_of 1 = .ok (.aload_n 0, 1) := by decide +kernel
theorem dX10_of_2 : decode cX10_of 2 = .ok (.getfield 12, 3) := by decide +kernel
theorem dX10_of_5 : decode cX10_of 5 = .ok (.getfield 79, 3) := by decide +kernel
theorem dX10_of_8 : decode cX10_of 8 = .ok (.invokestatic 104, 3) := by decide +kernel
theorem dX10_of_11 : decode cX10_of 11 = .ok (.iload_n 2, 1) := by decide +kernel
theorem dX10_of_12 : decode cX10_of 12 = .ok (.iconst 4, 1) := by decide +kernel
theorem dX10_of_13 : decode cX10_of 13 = .ok (.invokestatic 104, 3) := by decide +kernel
theorem dX10_of_16 : decode cX10_of 16 = .ok (.iload_n 2, 1) := by decide +kernel
theorem dX10_of_17 : decode cX10_of 17 = .ok (.tableswitch 72 0 2 #[27, 37, 62], 27) := by decide +kernel
theorem dX10_of_44 : decode cX10_of 44 = .ok (.aload_n 0, 1) := by decide +kernel
theorem dX10_of_45 : decode cX10_of 45 = .ok (.getfield 12, 3) := by decide +kernel
theorem dX10_of_48 : decode cX10_of 48 = .ok (.getfield 240, 3) := by decide +kernel
theorem dX10_of_51 : decode cX10_of 51 = .ok (.iload_n 1, 1) := by decide +kernel
theorem dX10_of_52 : decode cX10_of 52 = .ok (.iaload, 1) := by decide +kernel
theorem dX10_of_53 : decode cX10_of 53 = .ok (.ireturn, 1) := by decide +kernel
theorem dX10_of_54 : decode cX10_of 54 = .ok (.aload_n 0, 1) := by decide +kernel
theorem dX10_of_55 : decode cX10_of 55 = .ok (.getfield 67, 3) := by decide +kernel
theorem dX10_of_58 : decode cX10_of 58 = .ok (.ifCond .eq 19, 3) := by decide +kernel
theorem dX10_of_61 : decode cX10_of 61 = .ok (.aload_n 0, 1) := by decide +kernel
theorem dX10_of_62 : decode cX10_of 62 = .ok (.getfield 12, 3) := by decide +kernel
theorem dX10_of_65 : decode cX10_of 65 = .ok (.getfield 244, 3) := by decide +kernel
theorem dX10_of_68 : decode cX10_of 68 = .ok (.iload_n 1, 1) := by decide +kernel
theorem dX10_of_69 : decode cX10_of 69 = .ok (.baload, 1) := by decide +kernel
theorem dX10_of_70 : decode cX10_of 70 = .ok (.ifCond .eq 7, 3) := by decide +kernel
theorem dX10_of_73 : decode cX10_of 73 = .ok (.iconst 1, 1) := by decide +kernel
theorem dX10_of_74 : decode cX10_of 74 = .ok (.goto 4, 3) := by decide +kernel
theorem dX10_of_77 : decode cX10_of 77 = .ok (.iconst 0, 1) := by decide +kernel
theorem dX10_of_78 : decode cX10_of 78 = .ok (.ireturn, 1) := by decide +kernel
theorem dX10_of_79 : decode cX10_of 79 = .ok (.aload_n 0, 1) := by decide +kernel
theorem dX10_of_80 : decode cX10_of 80 = .ok (.getfield 33, 3) := by decide +kernel
theorem dX10_of_83 : decode cX10_of 83 = .ok (.getfield 248, 3) := by decide +kernel
theorem dX10_of_86 : decode cX10_of 86 = .ok (.iload_n 1, 1) := by decide +kernel
theorem dX10_of_87 : decode cX10_of 87 = .ok (.iaload, 1) := by decide +kernel
theorem dX10_of_88 : decode cX10_of 88 = .ok (.ireturn, 1) := by decide +kernel
theorem dX10_of_89 : decode cX10_of 89 = .ok (.aload_n 0, 1) := by decide +kernel
theorem dX10_of_90 : decode cX10_of 90 = .ok (.getfield 47, 3) := by decide +kernel
theorem dX10_of_93 : decode cX10_of 93 = .ok (.iload_n 1, 1) := by decide +kernel
theorem dX10_of_94 : decode cX10_of 94 = .ok (.invokevirtual 251, 3) := by decide +kernel
theorem dX10_of_97 : decode cX10_of 97 = .ok (.ireturn, 1) := by decide +kernel
theorem dX10_pair_0 : decode cX10_pair 0 = .ok (.iload_n 1, 1) := by decide +kernel
theorem dX10_pair_1 : decode cX10_pair 1 = .ok (.aload_n 0, 1) := by decide +kernel
theorem dX10_pair_2 : decode cX10_pair 2 = .ok (.getfield 40, 3) := by decide +kernel
theorem dX10_pair_5 : decode cX10_pair 5 = .ok (.getfield 230, 3) := by decide +kernel
theorem dX10_pair_8 : decode cX10_pair 8 = .ok (.invokestatic 104, 3) := by decide +kernel
theorem dX10_pair_11 : decode cX10_pair 11 = .ok (.iload_n 2, 1) := by decide +kernel
theorem dX10_pair_12 : decode cX10_pair 12 = .ok (.iconst 3, 1) := by decide +kernel
theorem dX10_pair_13 : decode cX10_pair 13 = .ok (.invokestatic 104, 3) := by decide +kernel
theorem dX10_pair_16 : decode cX10_pair 16 = .ok (.aload_n 0, 1) := by decide +kernel
theorem dX10_pair_17 : decode cX10_pair 17 = .ok (.getfield 40, 3) := by decide +kernel
theorem dX10_pair_20 : decode cX10_pair 20 = .ok (.getfield 254, 3) := by decide +kernel
theorem dX10_pair_23 : decode cX10_pair 23 = .ok (.iload_n 1, 1) := by decide +kernel
theorem dX10_pair_24 : decode cX10_pair 24 = .ok (.aaload, 1) := by decide +kernel
theorem dX10_pair_25 : decode cX10_pair 25 = .ok (.astore_n 3, 1) := by decide +kernel
theorem dX10_pair_26 : decode cX10_pair 26 = .ok (.iload_n 2, 1) := by decide +kernel
theorem dX10_pair_27 : decode cX10_pair 27 = .ok (.lookupswitch 35 #[(0, 25), (1, 30)], 25) := by decide +kernel
theorem dX10_pair_52 : decode cX10_pair 52 = .ok (.aload_n 3, 1) := by decide +kernel
theorem dX10_pair_53 : decode cX10_pair 53 = .ok (.getfield 258, 3) := by decide +kernel
theorem dX10_pair_56 : decode cX10_pair 56 = .ok (.ireturn, 1) := by decide +kernel
theorem dX10_pair_57 : decode cX10_pair 57 = .ok (.aload_n 3, 1) := by decide +kernel
theorem dX10_pair_58 : decode cX10_pair 58 = .ok (.getfield 263, 3) := by decide +kernel
theorem dX10_pair_61 : decode cX10_pair 61 = .ok (.ireturn, 1) := by decide +kernel
theorem dX10_pair_62 : decode cX10_pair 62 = .ok (.aload_n 3, 1) := by decide +kernel
theorem dX10_pair_63 : decode cX10_pair 63 = .ok (.getfield 266, 3) := by decide +kernel
theorem dX10_pair_66 : decode cX10_pair 66 = .ok (.ireturn, 1) := by decide +kernel
theorem dX10_ballot_0 : decode cX10_ballot 0 = .ok (.iload_n 1, 1) := by decide +kernel
theorem dX10_ballot_1 : decode cX10_ballot 1 = .ok (.aload_n 0, 1) := by decide +kernel
theorem dX10_ballot_2 : decode cX10_ballot 2 = .ok (.getfield 12, 3) := by decide +kernel
theorem dX10_ballot_5 : decode cX10_ballot 5 = .ok (.getfield 96, 3) := by decide +kernel
theorem dX10_ballot_8 : decode cX10_ballot 8 = .ok (.invokestatic 104, 3) := by decide +kernel
theorem dX10_ballot_11 : decode cX10_ballot 11 = .ok (.iload_n 2, 1) := by decide +kernel
theorem dX10_ballot_12 : decode cX10_ballot 12 = .ok (.iconst 4, 1) := by decide +kernel
theorem dX10_ballot_13 : decode cX10_ballot 13 = .ok (.invokestatic 104, 3) := by decide +kernel
theorem dX10_ballot_16 : decode cX10_ballot 16 = .ok (.iload_n 2, 1) := by decide +kernel
theorem dX10_ballot_17 : decode cX10_ballot 17 = .ok (.tableswitch 61 0 2 #[27, 36, 45], 27) := by decide +kernel
theorem dX10_ballot_44 : decode cX10_ballot 44 = .ok (.aload_n 0, 1) := by decide +kernel
theorem dX10_ballot_45 : decode cX10_ballot 45 = .ok (.getfield 12, 3) := by decide +kernel
theorem dX10_ballot_48 : decode cX10_ballot 48 = .ok (.iload_n 1, 1) := by decide +kernel
theorem dX10_ballot_49 : decode cX10_ballot 49 = .ok (.invokevirtual 269, 3) := by decide +kernel
theorem dX10_ballot_52 : decode cX10_ballot 52 = .ok (.ireturn, 1) := by decide +kernel
theorem dX10_ballot_53 : decode cX10_ballot 53 = .ok (.aload_n 0, 1) := by decide +kernel
theorem dX10_ballot_54 : decode cX10_ballot 54 = .ok (.getfield 12, 3) := by decide +kernel
theorem dX10_ballot_57 : decode cX10_ballot 57 = .ok (.iload_n 1, 1) := by decide +kernel
theorem dX10_ballot_58 : decode cX10_ballot 58 = .ok (.invokevirtual 272, 3) := by decide +kernel
theorem dX10_ballot_61 : decode cX10_ballot 61 = .ok (.ireturn, 1) := by decide +kernel
theorem dX10_ballot_62 : decode cX10_ballot 62 = .ok (.aload_n 0, 1) := by decide +kernel
theorem dX10_ballot_63 : decode cX10_ballot 63 = .ok (.getfield 33, 3) := by decide +kernel
theorem dX10_ballot_66 : decode cX10_ballot 66 = .ok (.aload_n 0, 1) := by decide +kernel
theorem dX10_ballot_67 : decode cX10_ballot 67 = .ok (.getfield 33, 3) := by decide +kernel
theorem dX10_ballot_70 : decode cX10_ballot 70 = .ok (.iload_n 1, 1) := by decide +kernel
theorem dX10_ballot_71 : decode cX10_ballot 71 = .ok (.invokevirtual 275, 3) := by decide +kernel
theorem dX10_ballot_74 : decode cX10_ballot 74 = .ok (.invokevirtual 199, 3) := by decide +kernel
theorem dX10_ballot_77 : decode cX10_ballot 77 = .ok (.ireturn, 1) := by decide +kernel
theorem dX10_ballot_78 : decode cX10_ballot 78 = .ok (.aload_n 0, 1) := by decide +kernel
theorem dX10_ballot_79 : decode cX10_ballot 79 = .ok (.getfield 33, 3) := by decide +kernel
theorem dX10_ballot_82 : decode cX10_ballot 82 = .ok (.aload_n 0, 1) := by decide +kernel
theorem dX10_ballot_83 : decode cX10_ballot 83 = .ok (.getfield 33, 3) := by decide +kernel
theorem dX10_ballot_86 : decode cX10_ballot 86 = .ok (.iload_n 1, 1) := by decide +kernel
theorem dX10_ballot_87 : decode cX10_ballot 87 = .ok (.invokevirtual 275, 3) := by decide +kernel
theorem dX10_ballot_90 : decode cX10_ballot 90 = .ok (.invokevirtual 278, 3) := by decide +kernel
theorem dX10_ballot_93 : decode cX10_ballot 93 = .ok (.ireturn, 1) := by decide +kernel
theorem dX10_digest_0 : decode cX10_digest 0 = .ok (.iload_n 2, 1) := by decide +kernel
theorem dX10_digest_1 : decode cX10_digest 1 = .ok (.bipush 32, 2) := by decide +kernel
theorem dX10_digest_3 : decode cX10_digest 3 = .ok (.invokestatic 104, 3) := by decide +kernel
theorem dX10_digest_6 : decode cX10_digest 6 = .ok (.iload_n 1, 1) := by decide +kernel
theorem dX10_digest_7 : decode cX10_digest 7 = .ok (.iconst 1, 1) := by decide +kernel
theorem dX10_digest_8 : decode cX10_digest 8 = .ok (.if_icmp .ge 14, 3) := by decide +kernel
theorem dX10_digest_11 : decode cX10_digest 11 = .ok (.new 114, 3) := by decide +kernel
theorem dX10_digest_14 : decode cX10_digest 14 = .ok (.dup, 1) := by decide +kernel
theorem dX10_digest_15 : decode cX10_digest 15 = .ok (.ldc_w 281, 3) := by decide +kernel
theorem dX10_digest_18 : decode cX10_digest 18 = .ok (.invokespecial 118, 3) := by decide +kernel
theorem dX10_digest_21 : decode cX10_digest 21 = .ok (.athrow, 1) := by decide +kernel
theorem dX10_digest_22 : decode cX10_digest 22 = .ok (.aload_n 0, 1) := by decide +kernel
theorem dX10_digest_23 : decode cX10_digest 23 = .ok (.getfield 26, 3) := by decide +kernel
theorem dX10_digest_26 : decode cX10_digest 26 = .ok (.iload_n 1, 1) := by decide +kernel
theorem dX10_digest_27 : decode cX10_digest 27 = .ok (.invokevirtual 283, 3) := by decide +kernel
theorem dX10_digest_30 : decode cX10_digest 30 = .ok (.aload_n 0, 1) := by decide +kernel
theorem dX10_digest_31 : decode cX10_digest 31 = .ok (.getfield 26, 3) := by decide +kernel
theorem dX10_digest_34 : decode cX10_digest 34 = .ok (.iload_n 2, 1) := by decide +kernel
theorem dX10_digest_35 : decode cX10_digest 35 = .ok (.invokevirtual 286, 3) := by decide +kernel
theorem dX10_digest_38 : decode cX10_digest 38 = .ok (.ireturn, 1) := by decide +kernel
theorem dX10_risk_0 : decode cX10_risk 0 = .ok (.aload_n 0, 1) := by decide +kernel
theorem dX10_risk_1 : decode cX10_risk 1 = .ok (.invokevirtual 289, 3) := by decide +kernel
theorem dX10_risk_4 : decode cX10_risk 4 = .ok (.iload_n 1, 1) := by decide +kernel
theorem dX10_risk_5 : decode cX10_risk 5 = .ok (.aload_n 0, 1) := by decide +kernel
theorem dX10_risk_6 : decode cX10_risk 6 = .ok (.getfield 40, 3) := by decide +kernel
theorem dX10_risk_9 : decode cX10_risk 9 = .ok (.getfield 230, 3) := by decide +kernel
theorem dX10_risk_12 : decode cX10_risk 12 = .ok (.invokestatic 104, 3) := by decide +kernel
theorem dX10_risk_15 : decode cX10_risk 15 = .ok (.iload_n 2, 1) := by decide +kernel
theorem dX10_risk_16 : decode cX10_risk 16 = .ok (.iconst 0, 1) := by decide +kernel
theorem dX10_risk_17 : decode cX10_risk 17 = .ok (.bipush 30, 2) := by decide +kernel
theorem dX10_risk_19 : decode cX10_risk 19 = .ok (.invokestatic 72, 3) := by decide +kernel
theorem dX10_risk_22 : decode cX10_risk 22 = .ok (.iload 5, 2) := by decide +kernel
theorem dX10_risk_24 : decode cX10_risk 24 = .ok (.iconst 1, 1) := by decide +kernel
theorem dX10_risk_25 : decode cX10_risk 25 = .ok (.sipush 20000, 3) := by decide +kernel
theorem dX10_risk_28 : decode cX10_risk 28 = .ok (.invokestatic 72, 3) := by decide +kernel
theorem dX10_risk_31 : decode cX10_risk 31 = .ok (.iload_n 3, 1) := by decide +kernel
theorem dX10_risk_32 : decode cX10_risk 32 = .ok (.iconst 0, 1) := by decide +kernel
theorem dX10_risk_33 : decode cX10_risk 33 = .ok (.iload 5, 2) := by decide +kernel
theorem dX10_risk_35 : decode cX10_risk 35 = .ok (.invokestatic 72, 3) := by decide +kernel
theorem dX10_risk_38 : decode cX10_risk 38 = .ok (.iload 4, 2) := by decide +kernel
theorem dX10_risk_40 : decode cX10_risk 40 = .ok (.iconst 0, 1) := by decide +kernel
theorem dX10_risk_41 : decode cX10_risk 41 = .ok (.iload 5, 2) := by decide +kernel
theorem dX10_risk_43 : decode cX10_risk 43 = .ok (.iload_n 3, 1) := by decide +kernel
theorem dX10_risk_44 : decode cX10_risk 44 = .ok (.isub, 1) := by decide +kernel
theorem dX10_risk_45 : decode cX10_risk 45 = .ok (.invokestatic 72, 3) := by decide +kernel
theorem dX10_risk_48 : decode cX10_risk 48 = .ok (.aload_n 0, 1) := by decide +kernel
theorem dX10_risk_49 : decode cX10_risk 49 = .ok (.getfield 54, 3) := by decide +kernel
theorem dX10_risk_52 : decode cX10_risk 52 = .ok (.aload_n 0, 1) := by decide +kernel
theorem dX10_risk_53 : decode cX10_risk 53 = .ok (.getfield 40, 3) := by decide +kernel
theorem dX10_risk_56 : decode cX10_risk 56 = .ok (.getfield 254, 3) := by decide +kernel
theorem dX10_risk_59 : decode cX10_risk 59 = .ok (.iload_n 1, 1) := by decide +kernel
theorem dX10_risk_60 : decode cX10_risk 60 = .ok (.aaload, 1) := by decide +kernel
theorem dX10_risk_61 : decode cX10_risk 61 = .ok (.iload_n 2, 1) := by decide +kernel
theorem dX10_risk_62 : decode cX10_risk 62 = .ok (.aload_n 0, 1) := by decide +kernel
theorem dX10_risk_63 : decode cX10_risk 63 = .ok (.getfield 12, 3) := by decide +kernel
theorem dX10_risk_66 : decode cX10_risk 66 = .ok (.invokevirtual 292, 3) := by decide +kernel
theorem dX10_risk_69 : decode cX10_risk 69 = .ok (.aload_n 0, 1) := by decide +kernel
theorem dX10_risk_70 : decode cX10_risk 70 = .ok (.getfield 54, 3) := by decide +kernel
theorem dX10_risk_73 : decode cX10_risk 73 = .ok (.iload_n 2, 1) := by decide +kernel
theorem dX10_risk_74 : decode cX10_risk 74 = .ok (.iload_n 3, 1) := by decide +kernel
theorem dX10_risk_75 : decode cX10_risk 75 = .ok (.iload 4, 2) := by decide +kernel
theorem dX10_risk_77 : decode cX10_risk 77 = .ok (.iload 5, 2) := by decide +kernel
theorem dX10_risk_79 : decode cX10_risk 79 = .ok (.invokevirtual 296, 3) := by decide +kernel
theorem dX10_risk_82 : decode cX10_risk 82 = .ok (.aload_n 0, 1) := by decide +kernel
theorem dX10_risk_83 : decode cX10_risk 83 = .ok (.getfield 63, 3) := by decide +kernel
theorem dX10_risk_86 : decode cX10_risk 86 = .ok (.aload_n 0, 1) := by decide +kernel
theorem dX10_risk_87 : decode cX10_risk 87 = .ok (.getfield 54, 3) := by decide +kernel
theorem dX10_risk_90 : decode cX10_risk 90 = .ok (.getfield 300, 3) := by decide +kernel
theorem dX10_risk_93 : decode cX10_risk 93 = .ok (.invokevirtual 304, 3) := by decide +kernel
theorem dX10_risk_96 : decode cX10_risk 96 = .ok (.iconst 0, 1) := by decide +kernel
theorem dX10_risk_97 : decode cX10_risk 97 = .ok (.istore 6, 2) := by decide +kernel
theorem dX10_risk_99 : decode cX10_risk 99 = .ok (.iload 6, 2) := by decide +kernel
theorem dX10_risk_101 : decode cX10_risk 101 = .ok (.iload_n 2, 1) := by decide +kernel
theorem dX10_risk_102 : decode cX10_risk 102 = .ok (.if_icmp .ge 20, 3) := by decide +kernel
theorem dX10_risk_105 : decode cX10_risk 105 = .ok (.aload_n 0, 1) := by decide +kernel
theorem dX10_risk_106 : decode cX10_risk 106 = .ok (.getfield 63, 3) := by decide +kernel
theorem dX10_risk_109 : decode cX10_risk 109 = .ok (.lconst 1, 1) := by decide +kernel
theorem dX10_risk_110 : decode cX10_risk 110 = .ok (.iload 5, 2) := by decide +kernel
theorem dX10_risk_112 : decode cX10_risk 112 = .ok (.i2l, 1) := by decide +kernel
theorem dX10_risk_113 : decode cX10_risk 113 = .ok (.invokevirtual 308, 3) := by decide +kernel
theorem dX10_risk_116 : decode cX10_risk 116 = .ok (.iinc 6 1, 3) := by decide +kernel
theorem dX10_risk_119 : decode cX10_risk 119 = .ok (.goto (-20), 3) := by decide +kernel
theorem dX10_risk_122 : decode cX10_risk 122 = .ok (.aload_n 0, 1) := by decide +kernel
theorem dX10_risk_123 : decode cX10_risk 123 = .ok (.getfield 63, 3) := by decide +kernel
theorem dX10_risk_126 : decode cX10_risk 126 = .ok (.aload_n 0, 1) := by decide +kernel
theorem dX10_risk_127 : decode cX10_risk 127 = .ok (.getfield 12, 3) := by decide +kernel
theorem dX10_risk_130 : decode cX10_risk 130 = .ok (.getfield 119, 3) := by decide +kernel
theorem dX10_risk_133 : decode cX10_risk 133 = .ok (.aload_n 0, 1) := by decide +kernel
theorem dX10_risk_134 : decode cX10_risk 134 = .ok (.getfield 12, 3) := by decide +kernel
theorem dX10_risk_137 : decode cX10_risk 137 = .ok (.getfield 122, 3) := by decide +kernel
theorem dX10_risk_140 : decode cX10_risk 140 = .ok (.invokevirtual 311, 3) := by decide +kernel
theorem dX10_risk_143 : decode cX10_risk 143 = .ok (.ifCond .le 7, 3) := by decide +kernel
theorem dX10_risk_146 : decode cX10_risk 146 = .ok (.iconst 1, 1) := by decide +kernel
theorem dX10_risk_147 : decode cX10_risk 147 = .ok (.goto 4, 3) := by decide +kernel
theorem dX10_risk_150 : decode cX10_risk 150 = .ok (.iconst 0, 1) := by decide +kernel
theorem dX10_risk_151 : decode cX10_risk 151 = .ok (.ireturn, 1) := by decide +kernel
theorem dX10_show_0 : decode cX10_show 0 = .ok (.iload_n 1, 1) := by decide +kernel
theorem dX10_show_1 : decode cX10_show 1 = .ok (.iconst 5, 1) := by decide +kernel
theorem dX10_show_2 : decode cX10_show 2 = .ok (.invokestatic 104, 3) := by decide +kernel
theorem dX10_show_5 : decode cX10_show 5 = .ok (.iload_n 1, 1) := by decide +kernel
theorem dX10_show_6 : decode cX10_show 6 = .ok (.iconst 4, 1) := by decide +kernel
theorem dX10_show_7 : decode cX10_show 7 = .ok (.if_icmp .eq 7, 3) := by decide +kernel
theorem dX10_show_10 : decode cX10_show 10 = .ok (.aload_n 0, 1) := by decide +kernel
theorem dX10_show_11 : decode cX10_show 11 = .ok (.invokevirtual 289, 3) := by decide +kernel
theorem dX10_show_14 : decode cX10_show 14 = .ok (.iload_n 1, 1) := by decide +kernel
theorem dX10_show_15 : decode cX10_show 15 = .ok (.ifCond .eq 8, 3) := by decide +kernel
theorem dX10_show_18 : decode cX10_show 18 = .ok (.iload_n 1, 1) := by decide +kernel
theorem dX10_show_19 : decode cX10_show 19 = .ok (.iconst 2, 1) := by decide +kernel
theorem dX10_show_20 : decode cX10_show 20 = .ok (.if_icmp .ne 14, 3) := by decide +kernel
theorem dX10_show_23 : decode cX10_show 23 = .ok (.iload_n 2, 1) := by decide +kernel
theorem dX10_show_24 : decode cX10_show 24 = .ok (.aload_n 0, 1) := by decide +kernel
theorem dX10_show_25 : decode cX10_show 25 = .ok (.getfield 40, 3) := by decide +kernel
theorem dX10_show_28 : decode cX10_show 28 = .ok (.getfield 230, 3) := by decide +kernel
theorem dX10_show_31 : decode cX10_show 31 = .ok (.invokestatic 104, 3) := by decide +kernel
theorem dX10_show_34 : decode cX10_show 34 = .ok (.iload_n 1, 1) := by decide +kernel
theorem dX10_show_35 : decode cX10_show 35 = .ok (.tableswitch 130 0 3 #[29, 51, 68, 104], 29) := by decide +kernel
theorem dX10_show_64 : decode cX10_show 64 = .ok (.aload_n 0, 1) := by decide +kernel
theorem dX10_show_65 : decode cX10_show 65 = .ok (.getfield 63, 3) := by decide +kernel
theorem dX10_show_68 : decode cX10_show 68 = .ok (.aload_n 0, 1) := by decide +kernel
theorem dX10_show_69 : decode cX10_show 69 = .ok (.getfield 40, 3) := by decide +kernel
theorem dX10_show_72 : decode cX10_show 72 = .ok (.getfield 254, 3) := by decide +kernel
theorem dX10_show_75 : decode cX10_show 75 = .ok (.iload_n 2, 1) := by decide +kernel
theorem dX10_show_76 : decode cX10_show 76 = .ok (.aaload, 1) := by decide +kernel
theorem dX10_show_77 : decode cX10_show 77 = .ok (.getfield 314, 3) := by decide +kernel
theorem dX10_show_80 : decode cX10_show 80 = .ok (.invokevirtual 317, 3) := by decide +kernel
theorem dX10_show_83 : decode cX10_show 83 = .ok (.goto 105, 3) := by decide +kernel
theorem dX10_show_86 : decode cX10_show 86 = .ok (.aload_n 0, 1) := by decide +kernel
theorem dX10_show_87 : decode cX10_show 87 = .ok (.getfield 63, 3) := by decide +kernel
theorem dX10_show_90 : decode cX10_show 90 = .ok (.aload_n 0, 1) := by decide +kernel
theorem dX10_show_91 : decode cX10_show 91 = .ok (.getfield 40, 3) := by decide +kernel
theorem dX10_show_94 : decode cX10_show 94 = .ok (.getfield 321, 3) := by decide +kernel
theorem dX10_show_97 : decode cX10_show 97 = .ok (.invokevirtual 317, 3) := by decide +kernel
theorem dX10_show_100 : decode cX10_show 100 = .ok (.goto 88, 3) := by decide +kernel
theorem dX10_show_103 : decode cX10_show 103 = .ok (.aload_n 0, 1) := by decide +kernel
theorem dX10_show_104 : decode cX10_show 104 = .ok (.getfield 63, 3) := by decide +kernel
theorem dX10_show_107 : decode cX10_show 107 = .ok (.aload_n 0, 1) := by decide +kernel
theorem dX10_show_108 : decode cX10_show 108 = .ok (.getfield 40, 3) := by decide +kernel
theorem dX10_show_111 : decode cX10_show 111 = .ok (.getfield 254, 3) := by decide +kernel
theorem dX10_show_114 : decode cX10_show 114 = .ok (.iload_n 2, 1) := by decide +kernel
theorem dX10_show_115 : decode cX10_show 115 = .ok (.aaload, 1) := by decide +kernel
theorem dX10_show_116 : decode cX10_show 116 = .ok (.getfield 324, 3) := by decide +kernel
theorem dX10_show_119 : decode cX10_show 119 = .ok (.i2l, 1) := by decide +kernel
theorem dX10_show_120 : decode cX10_show 120 = .ok (.aload_n 0, 1) := by decide +kernel
theorem dX10_show_121 : decode cX10_show 121 = .ok (.getfield 40, 3) := by decide +kernel
theorem dX10_show_124 : decode cX10_show 124 = .ok (.getfield 254, 3) := by decide +kernel
theorem dX10_show_127 : decode cX10_show 127 = .ok (.iload_n 2, 1) := by decide +kernel
theorem dX10_show_128 : decode cX10_show 128 = .ok (.aaload, 1) := by decide +kernel
theorem dX10_show_129 : decode cX10_show 129 = .ok (.invokevirtual 327, 3) := by decide +kernel
theorem dX10_show_132 : decode cX10_show 132 = .ok (.i2l, 1) := by decide +kernel
theorem dX10_show_133 : decode cX10_show 133 = .ok (.invokevirtual 330, 3) := by decide +kernel
theorem dX10_show_136 : decode cX10_show 136 = .ok (.goto 52, 3) := by decide +kernel
theorem dX10_show_139 : decode cX10_show 139 = .ok (.aload_n 0, 1) := by decide +kernel
theorem dX10_show_140 : decode cX10_show 140 = .ok (.getfield 63, 3) := by decide +kernel
theorem dX10_show_143 : decode cX10_show 143 = .ok (.aload_n 0, 1) := by decide +kernel
theorem dX10_show_144 : decode cX10_show 144 = .ok (.getfield 40, 3) := by decide +kernel
theorem dX10_show_147 : decode cX10_show 147 = .ok (.getfield 333, 3) := by decide +kernel
theorem dX10_show_150 : decode cX10_show 150 = .ok (.i2l, 1) := by decide +kernel
theorem dX10_show_151 : decode cX10_show 151 = .ok (.aload_n 0, 1) := by decide +kernel
theorem dX10_show_152 : decode cX10_show 152 = .ok (.getfield 12, 3) := by decide +kernel
theorem dX10_show_155 : decode cX10_show 155 = .ok (.getfield 96, 3) := by decide +kernel
theorem dX10_show_158 : decode cX10_show 158 = .ok (.i2l, 1) := by decide +kernel
theorem dX10_show_159 : decode cX10_show 159 = .ok (.invokevirtual 330, 3) := by decide +kernel
theorem dX10_show_162 : decode cX10_show 162 = .ok (.goto 26, 3) := by decide +kernel
theorem dX10_show_165 : decode cX10_show 165 = .ok (.aload_n 0, 1) := by decide +kernel
theorem dX10_show_166 : decode cX10_show 166 = .ok (.getfield 63, 3) := by decide +kernel
theorem dX10_show_169 : decode cX10_show 169 = .ok (.aload_n 0, 1) := by decide +kernel
theorem dX10_show_170 : decode cX10_show 170 = .ok (.getfield 12, 3) := by decide +kernel
theorem dX10_show_173 : decode cX10_show 173 = .ok (.getfield 119, 3) := by decide +kernel
theorem dX10_show_176 : decode cX10_show 176 = .ok (.i2l, 1) := by decide +kernel
theorem dX10_show_177 : decode cX10_show 177 = .ok (.aload_n 0, 1) := by decide +kernel
theorem dX10_show_178 : decode cX10_show 178 = .ok (.getfield 12, 3) := by decide +kernel
theorem dX10_show_181 : decode cX10_show 181 = .ok (.getfield 122, 3) := by decide +kernel
theorem dX10_show_184 : decode cX10_show 184 = .ok (.i2l, 1) := by decide +kernel
theorem dX10_show_185 : decode cX10_show 185 = .ok (.invokevirtual 330, 3) := by decide +kernel
theorem dX10_show_188 : decode cX10_show 188 = .ok (.aload_n 0, 1) := by decide +kernel
theorem dX10_show_189 : decode cX10_show 189 = .ok (.getfield 63, 3) := by decide +kernel
theorem dX10_show_192 : decode cX10_show 192 = .ok (.iconst 1, 1) := by decide +kernel
theorem dX10_show_193 : decode cX10_show 193 = .ok (.iconst 1, 1) := by decide +kernel
theorem dX10_show_194 : decode cX10_show 194 = .ok (.invokevirtual 311, 3) := by decide +kernel
theorem dX10_show_197 : decode cX10_show 197 = .ok (.ifCond .lt 7, 3) := by decide +kernel
theorem dX10_show_200 : decode cX10_show 200 = .ok (.iconst 1, 1) := by decide +kernel
theorem dX10_show_201 : decode cX10_show 201 = .ok (.goto 4, 3) := by decide +kernel
theorem dX10_show_204 : decode cX10_show 204 = .ok (.iconst 0, 1) := by decide +kernel
theorem dX10_show_205 : decode cX10_show 205 = .ok (.ireturn, 1) := by decide +kernel
theorem dX10_size_0 : decode cX10_size 0 = .ok (.iload_n 1, 1) := by decide +kernel
theorem dX10_size_1 : decode cX10_size 1 = .ok (.iconst 2, 1) := by decide +kernel
theorem dX10_size_2 : decode cX10_size 2 = .ok (.invokestatic 104, 3) := by decide +kernel
theorem dX10_size_5 : decode cX10_size 5 = .ok (.aload_n 0, 1) := by decide +kernel
theorem dX10_size_6 : decode cX10_size 6 = .ok (.iload_n 1, 1) := by decide +kernel
theorem dX10_size_7 : decode cX10_size 7 = .ok (.invokevirtual 336, 3) := by decide +kernel
theorem dX10_size_10 : decode cX10_size 10 = .ok (.getfield 340, 3) := by decide +kernel
theorem dX10_size_13 : decode cX10_size 13 = .ok (.ireturn, 1) := by decide +kernel
theorem dX10_limb_0 : decode cX10_limb 0 = .ok (.iload_n 1, 1) := by decide +kernel
theorem dX10_limb_1 : decode cX10_limb 1 = .ok (.iconst 2, 1) := by decide +kernel
theorem dX10_limb_2 : decode cX10_limb 2 = .ok (.invokestatic 104, 3) := by decide +kernel
theorem dX10_limb_5 : decode cX10_limb 5 = .ok (.aload_n 0, 1) := by decide +kernel
theorem dX10_limb_6 : decode cX10_limb 6 = .ok (.iload_n 1, 1) := by decide +kernel
theorem dX10_limb_7 : decode cX10_limb 7 = .ok (.invokevirtual 336, 3) := by decide +kernel
theorem dX10_limb_10 : decode cX10_limb 10 = .ok (.astore_n 3, 1) := by decide +kernel
theorem dX10_limb_11 : decode cX10_limb 11 = .ok (.iload_n 2, 1) := by decide +kernel
theorem dX10_limb_12 : decode cX10_limb 12 = .ok (.aload_n 3, 1) := by decide +kernel
theorem dX10_limb_13 : decode cX10_limb 13 = .ok (.getfield 340, 3) := by decide +kernel
theorem dX10_limb_16 : decode cX10_limb 16 = .ok (.invokestatic 104, 3) := by decide +kernel
theorem dX10_limb_19 : decode cX10_limb 19 = .ok (.aload_n 3, 1) := by decide +kernel
theorem dX10_limb_20 : decode cX10_limb 20 = .ok (.getfield 345, 3) := by decide +kernel
theorem dX10_limb_23 : decode cX10_limb 23 = .ok (.iload_n 2, 1) := by decide +kernel
theorem dX10_limb_24 : decode cX10_limb 24 = .ok (.iaload, 1) := by decide +kernel
theorem dX10_limb_25 : decode cX10_limb 25 = .ok (.ireturn, 1) := by decide +kernel
theorem dX10_needIndex_0 : decode cX10_needIndex 0 = .ok (.iload_n 0, 1) := by decide +kernel
theorem dX10_needIndex_1 : decode cX10_needIndex 1 = .ok (.ifCond .lt 8, 3) := by decide +kernel
theorem dX10_needIndex_4 : decode cX10_needIndex 4 = .ok (.iload_n 0, 1) := by decide +kernel
theorem dX10_needIndex_5 : decode cX10_needIndex 5 = .ok (.iload_n 1, 1) := by decide +kernel
theorem dX10_needIndex_6 : decode cX10_needIndex 6 = .ok (.if_icmp .lt 14, 3) := by decide +kernel
theorem dX10_needIndex_9 : decode cX10_needIndex 9 = .ok (.new 131, 3) := by decide +kernel
theorem dX10_needIndex_12 : decode cX10_needIndex 12 = .ok (.dup, 1) := by decide +kernel
theorem dX10_needIndex_13 : decode cX10_needIndex 13 = .ok (.ldc_w 348, 3) := by decide +kernel
theorem dX10_needIndex_16 : decode cX10_needIndex 16 = .ok (.invokespecial 135, 3) := by decide +kernel
theorem dX10_needIndex_19 : decode cX10_needIndex 19 = .ok (.athrow, 1) := by decide +kernel
theorem dX10_needIndex_20 : decode cX10_needIndex 20 = .ok (.return_, 1) := by decide +kernel
theorem dX10_needNumber_0 : decode cX10_needNumber 0 = .ok (.iload_n 0, 1) := by decide +kernel
theorem dX10_needNumber_1 : decode cX10_needNumber 1 = .ok (.iload_n 1, 1) := by decide +kernel
theorem dX10_needNumber_2 : decode cX10_needNumber 2 = .ok (.if_icmp .lt 8, 3) := by decide +kernel
theorem dX10_needNumber_5 : decode cX10_needNumber 5 = .ok (.iload_n 0, 1) := by decide +kernel
theorem dX10_needNumber_6 : decode cX10_needNumber 6 = .ok (.iload_n 2, 1) := by decide +kernel
theorem dX10_needNumber_7 : decode cX10_needNumber 7 = .ok (.if_icmp .le 14, 3) := by decide +kernel
theorem dX10_needNumber_10 : decode cX10_needNumber 10 = .ok (.new 114, 3) := by decide +kernel
theorem dX10_needNumber_13 : decode cX10_needNumber 13 = .ok (.dup, 1) := by decide +kernel
theorem dX10_needNumber_14 : decode cX10_needNumber 14 = .ok (.ldc_w 350, 3) := by decide +kernel
theorem dX10_needNumber_17 : decode cX10_needNumber 17 = .ok (.invokespecial 118, 3) := by decide +kernel
theorem dX10_needNumber_20 : decode cX10_needNumber 20 = .ok (.athrow, 1) := by decide +kernel
theorem dX10_needNumber_21 : decode cX10_needNumber 21 = .ok (.return_, 1) := by decide +kernel
theorem dX10_needCandidateOrNone_0 : decode cX10_needCandidateOrNone 0 = .ok (.iload_n 1, 1) := by decide +kernel
theorem dX10_needCandidateOrNone_1 : decode cX10_needCandidateOrNone 1 = .ok (.iconst (-1), 1) := by decide +kernel
theorem dX10_needCandidateOrNone_2 : decode cX10_needCandidateOrNone 2 = .ok (.if_icmp .eq 14, 3) := by decide +kernel
theorem dX10_needCandidateOrNone_5 : decode cX10_needCandidateOrNone 5 = .ok (.iload_n 1, 1) := by decide +kernel
theorem dX10_needCandidateOrNone_6 : decode cX10_needCandidateOrNone 6 = .ok (.aload_n 0, 1) := by decide +kernel
theorem dX10_needCandidateOrNone_7 : decode cX10_needCandidateOrNone 7 = .ok (.getfield 12, 3) := by decide +kernel
theorem dX10_needCandidateOrNone_10 : decode cX10_needCandidateOrNone 10 = .ok (.getfield 79, 3) := by decide +kernel
theorem dX10_needCandidateOrNone_13 : decode cX10_needCandidateOrNone 13 = .ok (.invokestatic 104, 3) := by decide +kernel
theorem dX10_needCandidateOrNone_16 : decode cX10_needCandidateOrNone 16 = .ok (.return_, 1) := by decide +kernel
theorem dX10_needStage_0 : decode cX10_needStage 0 = .ok (.aload_n 0, 1) := by decide +kernel
theorem dX10_needStage_1 : decode cX10_needStage 1 = .ok (.getfield 67, 3) := by decide +kernel
theorem dX10_needStage_4 : decode cX10_needStage 4 = .ok (.iload_n 1, 1) := by decide +kernel
theorem dX10_needStage_5 : decode cX10_needStage 5 = .ok (.if_icmp .eq 14, 3) := by decide +kernel
theorem dX10_needStage_8 : decode cX10_needStage 8 = .ok (.new 161, 3) := by decide +kernel
theorem dX10_needStage_11 : decode cX10_needStage 11 = .ok (.dup, 1) := by decide +kernel
theorem dX10_needStage_12 : decode cX10_needStage 12 = .ok (.ldc_w 352, 3) := by decide +kernel
theorem dX10_needStage_15 : decode cX10_needStage 15 = .ok (.invokespecial 165, 3) := by decide +kernel
theorem dX10_needStage_18 : decode cX10_needStage 18 = .ok (.athrow, 1) := by decide +kernel
theorem dX10_needStage_19 : decode cX10_needStage 19 = .ok (.return_, 1) := by decide +kernel
theorem dX10_needNotSetting_0 : decode cX10_needNotSetting 0 = .ok (.aload_n 0, 1) := by decide +kernel
theorem dX10_needNotSetting_1 : decode cX10_needNotSetting 1 = .ok (.getfield 67, 3) := by decide +kernel
theorem dX10_needNotSetting_4 : decode cX10_needNotSetting 4 = .ok (.ifCond .ne 14, 3) := by decide +kernel
theorem dX10_needNotSetting_7 : decode cX10_needNotSetting 7 = .ok (.new 161, 3) := by decide +kernel
theorem dX10_needNotSetting_10 : decode cX10_needNotSetting 10 = .ok (.dup, 1) := by decide +kernel
theorem dX10_needNotSetting_11 : decode cX10_needNotSetting 11 = .ok (.ldc_w 354, 3) := by decide +kernel
theorem dX10_needNotSetting_14 : decode cX10_needNotSetting 14 = .ok (.invokespecial 165, 3) := by decide +kernel
theorem dX10_needNotSetting_17 : decode cX10_needNotSetting 17 = .ok (.athrow, 1) := by decide +kernel
theorem dX10_needNotSetting_18 : decode cX10_needNotSetting 18 = .ok (.return_, 1) := by decide +kernel
theorem dX10_shownPart_0 : decode cX10_shownPart 0 = .ok (.iload_n 1, 1) := by decide +kernel
theorem dX10_shownPart_1 : decode cX10_shownPart 1 = .ok (.ifCond .ne 13, 3) := by decide +kernel
theorem dX10_shownPart_4 : decode cX10_shownPart 4 = .ok (.aload_n 0, 1) := by decide +kernel
theorem dX10_shownPart_5 : decode cX10_shownPart 5 = .ok (.getfield 63, 3) := by decide +kernel
theorem dX10_shownPart_8 : decode cX10_shownPart 8 = .ok (.getfield 356, 3) := by decide +kernel
theorem dX10_shownPart_11 : decode cX10_shownPart 11 = .ok (.goto 10, 3) := by decide +kernel
theorem dX10_shownPart_14 : decode cX10_shownPart 14 = .ok (.aload_n 0, 1) := by decide +kernel
theorem dX10_shownPart_15 : decode cX10_shownPart 15 = .ok (.getfield 63, 3) := by decide +kernel
theorem dX10_shownPart_18 : decode cX10_shownPart 18 = .ok (.getfield 359, 3) := by decide +kernel
theorem dX10_shownPart_21 : decode cX10_shownPart 21 = .ok (.areturn, 1) := by decide +kernel
theorem dX10_coinDraw_0 : decode cX10_coinDraw 0 = .ok (.aload_n 0, 1) := by decide +kernel
theorem dX10_coinDraw_1 : decode cX10_coinDraw 1 = .ok (.getfield 12, 3) := by decide +kernel
theorem dX10_coinDraw_4 : decode cX10_coinDraw 4 = .ok (.invokevirtual 237, 3) := by decide +kernel
theorem dX10_coinDraw_7 : decode cX10_coinDraw 7 = .ok (.istore_n 1, 1) := by decide +kernel
theorem dX10_coinDraw_8 : decode cX10_coinDraw 8 = .ok (.aload_n 0, 1) := by decide +kernel
theorem dX10_coinDraw_9 : decode cX10_coinDraw 9 = .ok (.getfield 19, 3) := by decide +kernel
theorem dX10_coinDraw_12 : decode cX10_coinDraw 12 = .ok (.getfield 150, 3) := by decide +kernel
theorem dX10_coinDraw_15 : decode cX10_coinDraw 15 = .ok (.iload_n 1, 1) := by decide +kernel
theorem dX10_coinDraw_16 : decode cX10_coinDraw 16 = .ok (.if_icmp .ge 5, 3) := by decide +kernel
theorem dX10_coinDraw_19 : decode cX10_coinDraw 19 = .ok (.iconst (-1), 1) := by decide +kernel
theorem dX10_coinDraw_20 : decode cX10_coinDraw 20 = .ok (.ireturn, 1) := by decide +kernel
theorem dX10_coinDraw_21 : decode cX10_coinDraw 21 = .ok (.aload_n 0, 1) := by decide +kernel
theorem dX10_coinDraw_22 : decode cX10_coinDraw 22 = .ok (.getfield 19, 3) := by decide +kernel
theorem dX10_coinDraw_25 : decode cX10_coinDraw 25 = .ok (.iload_n 1, 1) := by decide +kernel
theorem dX10_coinDraw_26 : decode cX10_coinDraw 26 = .ok (.invokevirtual 362, 3) := by decide +kernel
theorem dX10_coinDraw_29 : decode cX10_coinDraw 29 = .ok (.istore_n 2, 1) := by decide +kernel
theorem dX10_coinDraw_30 : decode cX10_coinDraw 30 = .ok (.iload_n 2, 1) := by decide +kernel
theorem dX10_coinDraw_31 : decode cX10_coinDraw 31 = .ok (.aload_n 0, 1) := by decide +kernel
theorem dX10_coinDraw_32 : decode cX10_coinDraw 32 = .ok (.getfield 12, 3) := by decide +kernel
theorem dX10_coinDraw_35 : decode cX10_coinDraw 35 = .ok (.getfield 96, 3) := by decide +kernel
theorem dX10_coinDraw_38 : decode cX10_coinDraw 38 = .ok (.if_icmp .ge 7, 3) := by decide +kernel
theorem dX10_coinDraw_41 : decode cX10_coinDraw 41 = .ok (.iload_n 2, 1) := by decide +kernel
theorem dX10_coinDraw_42 : decode cX10_coinDraw 42 = .ok (.goto 5, 3) := by decide +kernel
theorem dX10_coinDraw_45 : decode cX10_coinDraw 45 = .ok (.bipush (-2), 2) := by decide +kernel
theorem dX10_coinDraw_47 : decode cX10_coinDraw 47 = .ok (.ireturn, 1) := by decide +kernel
theorem dX10_countDraw_0 : decode cX10_countDraw 0 = .ok (.aload_n 0, 1) := by decide +kernel
theorem dX10_countDraw_1 : decode cX10_countDraw 1 = .ok (.getfield 33, 3) := by decide +kernel
theorem dX10_countDraw_4 : decode cX10_countDraw 4 = .ok (.iload_n 1, 1) := by decide +kernel
theorem dX10_countDraw_5 : decode cX10_countDraw 5 = .ok (.invokevirtual 365, 3) := by decide +kernel
theorem dX10_countDraw_8 : decode cX10_countDraw 8 = .ok (.istore_n 2, 1) := by decide +kernel
theorem dX10_countDraw_9 : decode cX10_countDraw 9 = .ok (.iload_n 1, 1) := by decide +kernel
theorem dX10_countDraw_10 : decode cX10_countDraw 10 = .ok (.iconst (-1), 1) := by decide +kernel
theorem dX10_countDraw_11 : decode cX10_countDraw 11 = .ok (.if_icmp .ne 7, 3) := by decide +kernel
theorem dX10_countDraw_14 : decode cX10_countDraw 14 = .ok (.iconst (-1), 1) := by decide +kernel
theorem dX10_countDraw_15 : decode cX10_countDraw 15 = .ok (.goto 18, 3) := by decide +kernel
theorem dX10_countDraw_18 : decode cX10_countDraw 18 = .ok (.aload_n 0, 1) := by decide +kernel
theorem dX10_countDraw_19 : decode cX10_countDraw 19 = .ok (.getfield 12, 3) := by decide +kernel
theorem dX10_countDraw_22 : decode cX10_countDraw 22 = .ok (.aload_n 0, 1) := by decide +kernel
theorem dX10_countDraw_23 : decode cX10_countDraw 23 = .ok (.getfield 33, 3) := by decide +kernel
theorem dX10_countDraw_26 : decode cX10_countDraw 26 = .ok (.iload_n 1, 1) := by decide +kernel
theorem dX10_countDraw_27 : decode cX10_countDraw 27 = .ok (.invokevirtual 368, 3) := by decide +kernel
theorem dX10_countDraw_30 : decode cX10_countDraw 30 = .ok (.invokevirtual 272, 3) := by decide +kernel
theorem dX10_countDraw_33 : decode cX10_countDraw 33 = .ok (.istore_n 3, 1) := by decide +kernel
theorem dX10_countDraw_34 : decode cX10_countDraw 34 = .ok (.aload_n 0, 1) := by decide +kernel
theorem dX10_countDraw_35 : decode cX10_countDraw 35 = .ok (.getfield 173, 3) := by decide +kernel
theorem dX10_countDraw_38 : decode cX10_countDraw 38 = .ok (.ifCond .eq 19, 3) := by decide +kernel
theorem dX10_countDraw_41 : decode cX10_countDraw 41 = .ok (.aload_n 0, 1) := by decide +kernel
theorem dX10_countDraw_42 : decode cX10_countDraw 42 = .ok (.getfield 40, 3) := by decide +kernel
theorem dX10_countDraw_45 : decode cX10_countDraw 45 = .ok (.aload_n 0, 1) := by decide +kernel
theorem dX10_countDraw_46 : decode cX10_countDraw 46 = .ok (.getfield 12, 3) := by decide +kernel
theorem dX10_countDraw_49 : decode cX10_countDraw 49 = .ok (.iload_n 3, 1) := by decide +kernel
theorem dX10_countDraw_50 : decode cX10_countDraw 50 = .ok (.iload_n 2, 1) := by decide +kernel
theorem dX10_countDraw_51 : decode cX10_countDraw 51 = .ok (.invokevirtual 371, 3) := by decide +kernel
theorem dX10_countDraw_54 : decode cX10_countDraw 54 = .ok (.goto 22, 3) := by decide +kernel
theorem dX10_countDraw_57 : decode cX10_countDraw 57 = .ok (.aload_n 0, 1) := by decide +kernel
theorem dX10_countDraw_58 : decode cX10_countDraw 58 = .ok (.getfield 40, 3) := by decide +kernel
theorem dX10_countDraw_61 : decode cX10_countDraw 61 = .ok (.aload_n 0, 1) := by decide +kernel
theorem dX10_countDraw_62 : decode cX10_countDraw 62 = .ok (.getfield 12, 3) := by decide +kernel
theorem dX10_countDraw_65 : decode cX10_countDraw 65 = .ok (.iload_n 2, 1) := by decide +kernel
theorem dX10_countDraw_66 : decode cX10_countDraw 66 = .ok (.aload_n 0, 1) := by decide +kernel
theorem dX10_countDraw_67 : decode cX10_countDraw 67 = .ok (.getfield 33, 3) := by decide +kernel
theorem dX10_countDraw_70 : decode cX10_countDraw 70 = .ok (.getfield 180, 3) := by decide +kernel
theorem dX10_countDraw_73 : decode cX10_countDraw 73 = .ok (.invokevirtual 375, 3) := by decide +kernel
theorem dX10_countDraw_76 : decode cX10_countDraw 76 = .ok (.istore 4, 2) := by decide +kernel
theorem dX10_countDraw_78 : decode cX10_countDraw 78 = .ok (.iload 4, 2) := by decide +kernel
theorem dX10_countDraw_80 : decode cX10_countDraw 80 = .ok (.ifCond .eq 11, 3) := by decide +kernel
theorem dX10_countDraw_83 : decode cX10_countDraw 83 = .ok (.aload_n 0, 1) := by decide +kernel
theorem dX10_countDraw_84 : decode cX10_countDraw 84 = .ok (.iconst 3, 1) := by decide +kernel
theorem dX10_countDraw_85 : decode cX10_countDraw 85 = .ok (.putfield 67, 3) := by decide +kernel
theorem dX10_countDraw_88 : decode cX10_countDraw 88 = .ok (.goto 29, 3) := by decide +kernel
theorem dX10_countDraw_91 : decode cX10_countDraw 91 = .ok (.aload_n 0, 1) := by decide +kernel
theorem dX10_countDraw_92 : decode cX10_countDraw 92 = .ok (.aload_n 0, 1) := by decide +kernel
theorem dX10_countDraw_93 : decode cX10_countDraw 93 = .ok (.getfield 33, 3) := by decide +kernel
theorem dX10_countDraw_96 : decode cX10_countDraw 96 = .ok (.getfield 180, 3) := by decide +kernel
theorem dX10_countDraw_99 : decode cX10_countDraw 99 = .ok (.aload_n 0, 1) := by decide +kernel
theorem dX10_countDraw_100 : decode cX10_countDraw 100 = .ok (.getfield 12, 3) := by decide +kernel
theorem dX10_countDraw_103 : decode cX10_countDraw 103 = .ok (.getfield 111, 3) := by decide +kernel
theorem dX10_countDraw_106 : decode cX10_countDraw 106 = .ok (.if_icmp .lt 7, 3) := by decide +kernel
theorem dX10_countDraw_109 : decode cX10_countDraw 109 = .ok (.iconst 4, 1) := by decide +kernel
theorem dX10_countDraw_110 : decode cX10_countDraw 110 = .ok (.goto 4, 3) := by decide +kernel
theorem dX10_countDraw_113 : decode cX10_countDraw 113 = .ok (.iconst 1, 1) := by decide +kernel
theorem dX10_countDraw_114 : decode cX10_countDraw 114 = .ok (.putfield 67, 3) := by decide +kernel
theorem dX10_countDraw_117 : decode cX10_countDraw 117 = .ok (.return_, 1) := by decide +kernel
