theorem dX9_init_0 : decode cX9_init 0 = .ok (.aload_n 0, 1) := by decide +kernel
theorem dX9_init_1 : decode cX9_init 1 = .ok (.invokespecial 1, 3) := by decide +kernel
theorem dX9_init_4 : decode cX9_init 4 = .ok (.aload_n 0, 1) := by decide +kernel
theorem dX9_init_5 : decode cX9_init 5 = .ok (.bipush 40, 2) := by decide +kernel
theorem dX9_init_7 : decode cX9_init 7 = .ok (.anewarray 9, 3) := by decide +kernel
theorem dX9_init_10 : decode cX9_init 10 = .ok (.putfield 11, 3) := by decide +kernel
theorem dX9_init_13 : decode cX9_init 13 = .ok (.aload_n 0, 1) := by decide +kernel
theorem dX9_init_14 : decode cX9_init 14 = .ok (.bipush 8, 2) := by decide +kernel
theorem dX9_init_16 : decode cX9_init 16 = .ok (.anewarray 15, 3) := by decide +kernel
theorem dX9_init_19 : decode cX9_init 19 = .ok (.putfield 17, 3) := by decide +kernel
theorem dX9_init_22 : decode cX9_init 22 = .ok (.aload_n 0, 1) := by decide +kernel
theorem dX9_init_23 : decode cX9_init 23 = .ok (.new 21, 3) := by decide +kernel
theorem dX9_init_26 : decode cX9_init 26 = .ok (.dup, 1) := by decide +kernel
theorem dX9_init_27 : decode cX9_init 27 = .ok (.invokespecial 23, 3) := by decide +kernel
theorem dX9_init_30 : decode cX9_init 30 = .ok (.putfield 24, 3) := by decide +kernel
theorem dX9_init_33 : decode cX9_init 33 = .ok (.aload_n 0, 1) := by decide +kernel
theorem dX9_init_34 : decode cX9_init 34 = .ok (.new 28, 3) := by decide +kernel
theorem dX9_init_37 : decode cX9_init 37 = .ok (.dup, 1) := by decide +kernel
theorem dX9_init_38 : decode cX9_init 38 = .ok (.invokespecial 30, 3) := by decide +kernel
theorem dX9_init_41 : decode cX9_init 41 = .ok (.putfield 31, 3) := by decide +kernel
theorem dX9_init_44 : decode cX9_init 44 = .ok (.aload_n 0, 1) := by decide +kernel
theorem dX9_init_45 : decode cX9_init 45 = .ok (.new 35, 3) := by decide +kernel
theorem dX9_init_48 : decode cX9_init 48 = .ok (.dup, 1) := by decide +kernel
theorem dX9_init_49 : decode cX9_init 49 = .ok (.invokespecial 37, 3) := by decide +kernel
theorem dX9_init_52 : decode cX9_init 52 = .ok (.putfield 38, 3) := by decide +kernel
theorem dX9_init_55 : decode cX9_init 55 = .ok (.aload_n 0, 1) := by decide +kernel
theorem dX9_init_56 : decode cX9_init 56 = .ok (.new 42, 3) := by decide +kernel
theorem dX9_init_59 : decode cX9_init 59 = .ok (.dup, 1) := by decide +kernel
theorem dX9_init_60 : decode cX9_init 60 = .ok (.invokespecial 44, 3) := by decide +kernel
theorem dX9_init_63 : decode cX9_init 63 = .ok (.putfield 45, 3) := by decide +kernel
theorem dX9_init_66 : decode cX9_init 66 = .ok (.aload_n 0, 1) := by decide +kernel
theorem dX9_init_67 : decode cX9_init 67 = .ok (.new 49, 3) := by decide +kernel
theorem dX9_init_70 : decode cX9_init 70 = .ok (.dup, 1) := by decide +kernel
theorem dX9_init_71 : decode cX9_init 71 = .ok (.invokespecial 51, 3) := by decide +kernel
theorem dX9_init_74 : decode cX9_init 74 = .ok (.putfield 52, 3) := by decide +kernel
theorem dX9_init_77 : decode cX9_init 77 = .ok (.aload_n 0, 1) := by decide +kernel
theorem dX9_init_78 : decode cX9_init 78 = .ok (.bipush 7, 2) := by decide +kernel
theorem dX9_init_80 : decode cX9_init 80 = .ok (.newarray .int, 2) := by decide +kernel
theorem dX9_init_82 : decode cX9_init 82 = .ok (.putfield 56, 3) := by decide +kernel
theorem dX9_init_85 : decode cX9_init 85 = .ok (.aload_n 0, 1) := by decide +kernel
theorem dX9_init_86 : decode cX9_init 86 = .ok (.new 60, 3) := by decide +kernel
theorem dX9_init_89 : decode cX9_init 89 = .ok (.dup, 1) := by decide +kernel
theorem dX9_init_90 : decode cX9_init 90 = .ok (.invokespecial 62, 3) := by decide +kernel
theorem dX9_init_93 : decode cX9_init 93 = .ok (.putfield 63, 3) := by decide +kernel
theorem dX9_init_96 : decode cX9_init 96 = .ok (.return_, 1) := by decide +kernel
theorem dX9_days_0 : decode cX9_days 0 = .ok (.iload_n 1, 1) := by decide +kernel
theorem dX9_days_1 : decode cX9_days 1 = .ok (.iconst 0, 1) := by decide +kernel
theorem dX9_days_2 : decode cX9_days 2 = .ok (.sipush 1000, 3) := by decide +kernel
theorem dX9_days_5 : decode cX9_days 5 = .ok (.invokestatic 67, 3) := by decide +kernel
theorem dX9_days_8 : decode cX9_days 8 = .ok (.ifCond .eq 15, 3) := by decide +kernel
theorem dX9_days_11 : decode cX9_days 11 = .ok (.aload_n 0, 1) := by decide +kernel
theorem dX9_days_12 : decode cX9_days 12 = .ok (.getfield 71, 3) := by decide +kernel
theorem dX9_days_15 : decode cX9_days 15 = .ok (.iload_n 1, 1) := by decide +kernel
theorem dX9_days_16 : decode cX9_days 16 = .ok (.iadd, 1) := by decide +kernel
theorem dX9_days_17 : decode cX9_days 17 = .ok (.sipush 9999, 3) := by decide +kernel
theorem dX9_days_20 : decode cX9_days 20 = .ok (.if_icmp .le 5, 3) := by decide +kernel
theorem dX9_days_23 : decode cX9_days 23 = .ok (.iconst (-1), 1) := by decide +kernel
theorem dX9_days_24 : decode cX9_days 24 = .ok (.ireturn, 1) := by decide +kernel
theorem dX9_days_25 : decode cX9_days 25 = .ok (.aload_n 0, 1) := by decide +kernel
theorem dX9_days_26 : decode cX9_days 26 = .ok (.dup, 1) := by decide +kernel
theorem dX9_days_27 : decode cX9_days 27 = .ok (.getfield 71, 3) := by decide +kernel
theorem dX9_days_30 : decode cX9_days 30 = .ok (.iload_n 1, 1) := by decide +kernel
theorem dX9_days_31 : decode cX9_days 31 = .ok (.iadd, 1) := by decide +kernel
theorem dX9_days_32 : decode cX9_days 32 = .ok (.putfield 71, 3) := by decide +kernel
theorem dX9_days_35 : decode cX9_days 35 = .ok (.aload_n 0, 1) := by decide +kernel
theorem dX9_days_36 : decode cX9_days 36 = .ok (.getfield 71, 3) := by decide +kernel
theorem dX9_days_39 : decode cX9_days 39 = .ok (.ireturn, 1) := by decide +kernel
theorem dX9_wild_0 : decode cX9_wild 0 = .ok (.iload_n 1, 1) := by decide +kernel
theorem dX9_wild_1 : decode cX9_wild 1 = .ok (.iconst 0, 1) := by decide +kernel
theorem dX9_wild_2 : decode cX9_wild 2 = .ok (.bipush 99, 2) := by decide +kernel
theorem dX9_wild_4 : decode cX9_wild 4 = .ok (.invokestatic 67, 3) := by decide +kernel
theorem dX9_wild_7 : decode cX9_wild 7 = .ok (.ifCond .eq 11, 3) := by decide +kernel
theorem dX9_wild_10 : decode cX9_wild 10 = .ok (.aload_n 0, 1) := by decide +kernel
theorem dX9_wild_11 : decode cX9_wild 11 = .ok (.iload_n 2, 1) := by decide +kernel
theorem dX9_wild_12 : decode cX9_wild 12 = .ok (.invokevirtual 75, 3) := by decide +kernel
theorem dX9_wild_15 : decode cX9_wild 15 = .ok (.ifCond .ne 5, 3) := by decide +kernel
theorem dX9_wild_18 : decode cX9_wild 18 = .ok (.iconst (-1), 1) := by decide +kernel
theorem dX9_wild_19 : decode cX9_wild 19 = .ok (.ireturn, 1) := by decide +kernel
theorem dX9_wild_20 : decode cX9_wild 20 = .ok (.aload_n 0, 1) := by decide +kernel
theorem dX9_wild_21 : decode cX9_wild 21 = .ok (.new 9, 3) := by decide +kernel
theorem dX9_wild_24 : decode cX9_wild 24 = .ok (.dup, 1) := by decide +kernel
theorem dX9_wild_25 : decode cX9_wild 25 = .ok (.aload_n 0, 1) := by decide +kernel
theorem dX9_wild_26 : decode cX9_wild 26 = .ok (.getfield 79, 3) := by decide +kernel
theorem dX9_wild_29 : decode cX9_wild 29 = .ok (.iload_n 1, 1) := by decide +kernel
theorem dX9_wild_30 : decode cX9_wild 30 = .ok (.iload_n 2, 1) := by decide +kernel
theorem dX9_wild_31 : decode cX9_wild 31 = .ok (.invokespecial 82, 3) := by decide +kernel
theorem dX9_wild_34 : decode cX9_wild 34 = .ok (.invokevirtual 85, 3) := by decide +kernel
theorem dX9_wild_37 : decode cX9_wild 37 = .ok (.ireturn, 1) := by decide +kernel
theorem dX9_seed_0 : decode cX9_seed 0 = .ok (.aload_n 0, 1) := by decide +kernel
theorem dX9_seed_1 : decode cX9_seed 1 = .ok (.iload_n 1, 1) := by decide +kernel
theorem dX9_seed_2 : decode cX9_seed 2 = .ok (.invokevirtual 89, 3) := by decide +kernel
theorem dX9_seed_5 : decode cX9_seed 5 = .ok (.astore 4, 2) := by decide +kernel
theorem dX9_seed_7 : decode cX9_seed 7 = .ok (.aload_n 0, 1) := by decide +kernel
theorem dX9_seed_8 : decode cX9_seed 8 = .ok (.iload_n 2, 1) := by decide +kernel
theorem dX9_seed_9 : decode cX9_seed 9 = .ok (.invokevirtual 89, 3) := by decide +kernel
theorem dX9_seed_12 : decode cX9_seed 12 = .ok (.astore 5, 2) := by decide +kernel
theorem dX9_seed_14 : decode cX9_seed 14 = .ok (.aload 4, 2) := by decide +kernel
theorem dX9_seed_16 : decode cX9_seed 16 = .ok (.ifnull 21, 3) := by decide +kernel
theorem dX9_seed_19 : decode cX9_seed 19 = .ok (.aload 5, 2) := by decide +kernel
theorem dX9_seed_21 : decode cX9_seed 21 = .ok (.ifnonnull 8, 3) := by decide +kernel
theorem dX9_seed_24 : decode cX9_seed 24 = .ok (.iload_n 2, 1) := by decide +kernel
theorem dX9_seed_25 : decode cX9_seed 25 = .ok (.iconst (-1), 1) := by decide +kernel
theorem dX9_seed_26 : decode cX9_seed 26 = .ok (.if_icmp .ne 11, 3) := by decide +kernel
theorem dX9_seed_29 : decode cX9_seed 29 = .ok (.aload_n 0, 1) := by decide +kernel
theorem dX9_seed_30 : decode cX9_seed 30 = .ok (.iload_n 3, 1) := by decide +kernel
theorem dX9_seed_31 : decode cX9_seed 31 = .ok (.invokevirtual 75, 3) := by decide +kernel
theorem dX9_seed_34 : decode cX9_seed 34 = .ok (.ifCond .ne 5, 3) := by decide +kernel
theorem dX9_seed_37 : decode cX9_seed 37 = .ok (.iconst (-1), 1) := by decide +kernel
theorem dX9_seed_38 : decode cX9_seed 38 = .ok (.ireturn, 1) := by decide +kernel
theorem dX9_seed_39 : decode cX9_seed 39 = .ok (.aload_n 0, 1) := by decide +kernel
theorem dX9_seed_40 : decode cX9_seed 40 = .ok (.new 9, 3) := by decide +kernel
theorem dX9_seed_43 : decode cX9_seed 43 = .ok (.dup, 1) := by decide +kernel
theorem dX9_seed_44 : decode cX9_seed 44 = .ok (.aload_n 0, 1) := by decide +kernel
theorem dX9_seed_45 : decode cX9_seed 45 = .ok (.getfield 79, 3) := by decide +kernel
theorem dX9_seed_48 : decode cX9_seed 48 = .ok (.iconst 1, 1) := by decide +kernel
theorem dX9_seed_49 : decode cX9_seed 49 = .ok (.aload 4, 2) := by decide +kernel
theorem dX9_seed_51 : decode cX9_seed 51 = .ok (.aload 5, 2) := by decide +kernel
theorem dX9_seed_53 : decode cX9_seed 53 = .ok (.iload_n 3, 1) := by decide +kernel
theorem dX9_seed_54 : decode cX9_seed 54 = .ok (.invokespecial 93, 3) := by decide +kernel
theorem dX9_seed_57 : decode cX9_seed 57 = .ok (.invokevirtual 85, 3) := by decide +kernel
theorem dX9_seed_60 : decode cX9_seed 60 = .ok (.ireturn, 1) := by decide +kernel
theorem dX9_cut_0 : decode cX9_cut 0 = .ok (.aload_n 0, 1) := by decide +kernel
theorem dX9_cut_1 : decode cX9_cut 1 = .ok (.iload_n 1, 1) := by decide +kernel
theorem dX9_cut_2 : decode cX9_cut 2 = .ok (.invokevirtual 89, 3) := by decide +kernel
theorem dX9_cut_5 : decode cX9_cut 5 = .ok (.astore_n 3, 1) := by decide +kernel
theorem dX9_cut_6 : decode cX9_cut 6 = .ok (.aload_n 3, 1) := by decide +kernel
theorem dX9_cut_7 : decode cX9_cut 7 = .ok (.ifnull 11, 3) := by decide +kernel
theorem dX9_cut_10 : decode cX9_cut 10 = .ok (.aload_n 0, 1) := by decide +kernel
theorem dX9_cut_11 : decode cX9_cut 11 = .ok (.iload_n 2, 1) := by decide +kernel
theorem dX9_cut_12 : decode cX9_cut 12 = .ok (.invokevirtual 75, 3) := by decide +kernel
theorem dX9_cut_15 : decode cX9_cut 15 = .ok (.ifCond .ne 5, 3) := by decide +kernel
theorem dX9_cut_18 : decode cX9_cut 18 = .ok (.iconst (-1), 1) := by decide +kernel
theorem dX9_cut_19 : decode cX9_cut 19 = .ok (.ireturn, 1) := by decide +kernel
theorem dX9_cut_20 : decode cX9_cut 20 = .ok (.aload_n 0, 1) := by decide +kernel
theorem dX9_cut_21 : decode cX9_cut 21 = .ok (.new 9, 3) := by decide +kernel
theorem dX9_cut_24 : decode cX9_cut 24 = .ok (.dup, 1) := by decide +kernel
theorem dX9_cut_25 : decode cX9_cut 25 = .ok (.aload_n 0, 1) := by decide +kernel
theorem dX9_cut_26 : decode cX9_cut 26 = .ok (.getfield 79, 3) := by decide +kernel
theorem dX9_cut_29 : decode cX9_cut 29 = .ok (.iconst 2, 1) := by decide +kernel
theorem dX9_cut_30 : decode cX9_cut 30 = .ok (.aload_n 3, 1) := by decide +kernel
theorem dX9_cut_31 : decode cX9_cut 31 = .ok (.aconst_null, 1) := by decide +kernel
theorem dX9_cut_32 : decode cX9_cut 32 = .ok (.iload_n 2, 1) := by decide +kernel
theorem dX9_cut_33 : decode cX9_cut 33 = .ok (.invokespecial 93, 3) := by decide +kernel
theorem dX9_cut_36 : decode cX9_cut 36 = .ok (.invokevirtual 85, 3) := by decide +kernel
theorem dX9_cut_39 : decode cX9_cut 39 = .ok (.ireturn, 1) := by decide +kernel
theorem dX9_split_0 : decode cX9_split 0 = .ok (.aload_n 0, 1) := by decide +kernel
theorem dX9_split_1 : decode cX9_split 1 = .ok (.iload_n 1, 1) := by decide +kernel
theorem dX9_split_2 : decode cX9_split 2 = .ok (.invokevirtual 89, 3) := by decide +kernel
theorem dX9_split_5 : decode cX9_split 5 = .ok (.astore_n 3, 1) := by decide +kernel
theorem dX9_split_6 : decode cX9_split 6 = .ok (.aload_n 3, 1) := by decide +kernel
theorem dX9_split_7 : decode cX9_split 7 = .ok (.ifnull 19, 3) := by decide +kernel
theorem dX9_split_10 : decode cX9_split 10 = .ok (.aload_n 0, 1) := by decide +kernel
theorem dX9_split_11 : decode cX9_split 11 = .ok (.iload_n 2, 1) := by decide +kernel
theorem dX9_split_12 : decode cX9_split 12 = .ok (.invokevirtual 75, 3) := by decide +kernel
theorem dX9_split_15 : decode cX9_split 15 = .ok (.ifCond .eq 11, 3) := by decide +kernel
theorem dX9_split_18 : decode cX9_split 18 = .ok (.iload_n 2, 1) := by decide +kernel
theorem dX9_split_19 : decode cX9_split 19 = .ok (.aload_n 3, 1) := by decide +kernel
theorem dX9_split_20 : decode cX9_split 20 = .ok (.getfield 96, 3) := by decide +kernel
theorem dX9_split_23 : decode cX9_split 23 = .ok (.if_icmp .lt 5, 3) := by decide +kernel
theorem dX9_split_26 : decode cX9_split 26 = .ok (.iconst (-1), 1) := by decide +kernel
theorem dX9_split_27 : decode cX9_split 27 = .ok (.ireturn, 1) := by decide +kernel
theorem dX9_split_28 : decode cX9_split 28 = .ok (.aload_n 3, 1) := by decide +kernel
theorem dX9_split_29 : decode cX9_split 29 = .ok (.dup, 1) := by decide +kernel
theorem dX9_split_30 : decode cX9_split 30 = .ok (.getfield 96, 3) := by decide +kernel
theorem dX9_split_33 : decode cX9_split 33 = .ok (.iload_n 2, 1) := by decide +kernel
theorem dX9_split_34 : decode cX9_split 34 = .ok (.isub, 1) := by decide +kernel
theorem dX9_split_35 : decode cX9_split 35 = .ok (.putfield 96, 3) := by decide +kernel
theorem dX9_split_38 : decode cX9_split 38 = .ok (.aload_n 0, 1) := by decide +kernel
theorem dX9_split_39 : decode cX9_split 39 = .ok (.new 9, 3) := by decide +kernel
theorem dX9_split_42 : decode cX9_split 42 = .ok (.dup, 1) := by decide +kernel
theorem dX9_split_43 : decode cX9_split 43 = .ok (.aload_n 0, 1) := by decide +kernel
theorem dX9_split_44 : decode cX9_split 44 = .ok (.getfield 79, 3) := by decide +kernel
theorem dX9_split_47 : decode cX9_split 47 = .ok (.iconst 3, 1) := by decide +kernel
theorem dX9_split_48 : decode cX9_split 48 = .ok (.aload_n 3, 1) := by decide +kernel
theorem dX9_split_49 : decode cX9_split 49 = .ok (.aconst_null, 1) := by decide +kernel
theorem dX9_split_50 : decode cX9_split 50 = .ok (.iload_n 2, 1) := by decide +kernel
theorem dX9_split_51 : decode cX9_split 51 = .ok (.invokespecial 93, 3) := by decide +kernel
theorem dX9_split_54 : decode cX9_split 54 = .ok (.invokevirtual 85, 3) := by decide +kernel
theorem dX9_split_57 : decode cX9_split 57 = .ok (.ireturn, 1) := by decide +kernel
theorem dX9_mark_0 : decode cX9_mark 0 = .ok (.aload_n 0, 1) := by decide +kernel
theorem dX9_mark_1 : decode cX9_mark 1 = .ok (.iload_n 1, 1) := by decide +kernel
theorem dX9_mark_2 : decode cX9_mark 2 = .ok (.invokevirtual 89, 3) := by decide +kernel
theorem dX9_mark_5 : decode cX9_mark 5 = .ok (.astore 5, 2) := by decide +kernel
theorem dX9_mark_7 : decode cX9_mark 7 = .ok (.aload 5, 2) := by decide +kernel
theorem dX9_mark_9 : decode cX9_mark 9 = .ok (.ifnull 27, 3) := by decide +kernel
theorem dX9_mark_12 : decode cX9_mark 12 = .ok (.iload_n 2, 1) := by decide +kernel
theorem dX9_mark_13 : decode cX9_mark 13 = .ok (.iconst 0, 1) := by decide +kernel
theorem dX9_mark_14 : decode cX9_mark 14 = .ok (.iconst 3, 1) := by decide +kernel
theorem dX9_mark_15 : decode cX9_mark 15 = .ok (.invokestatic 67, 3) := by decide +kernel
theorem dX9_mark_18 : decode cX9_mark 18 = .ok (.ifCond .eq 18, 3) := by decide +kernel
theorem dX9_mark_21 : decode cX9_mark 21 = .ok (.iload_n 3, 1) := by decide +kernel
theorem dX9_mark_22 : decode cX9_mark 22 = .ok (.invokestatic 99, 3) := by decide +kernel
theorem dX9_mark_25 : decode cX9_mark 25 = .ok (.ifCond .eq 11, 3) := by decide +kernel
theorem dX9_mark_28 : decode cX9_mark 28 = .ok (.iload 4, 2) := by decide +kernel
theorem dX9_mark_30 : decode cX9_mark 30 = .ok (.invokestatic 99, 3) := by decide +kernel
theorem dX9_mark_33 : decode cX9_mark 33 = .ok (.ifCond .ne 5, 3) := by decide +kernel
theorem dX9_mark_36 : decode cX9_mark 36 = .ok (.iconst 0, 1) := by decide +kernel
theorem dX9_mark_37 : decode cX9_mark 37 = .ok (.ireturn, 1) := by decide +kernel
theorem dX9_mark_38 : decode cX9_mark 38 = .ok (.aload 5, 2) := by decide +kernel
theorem dX9_mark_40 : decode cX9_mark 40 = .ok (.iload_n 2, 1) := by decide +kernel
theorem dX9_mark_41 : decode cX9_mark 41 = .ok (.iload_n 3, 1) := by decide +kernel
theorem dX9_mark_42 : decode cX9_mark 42 = .ok (.iload 4, 2) := by decide +kernel
theorem dX9_mark_44 : decode cX9_mark 44 = .ok (.invokestatic 102, 3) := by decide +kernel
theorem dX9_mark_47 : decode cX9_mark 47 = .ok (.iload_n 3, 1) := by decide +kernel
theorem dX9_mark_48 : decode cX9_mark 48 = .ok (.iload 4, 2) := by decide +kernel
theorem dX9_mark_50 : decode cX9_mark 50 = .ok (.invokestatic 108, 3) := by decide +kernel
theorem dX9_mark_53 : decode cX9_mark 53 = .ok (.invokevirtual 111, 3) := by decide +kernel
theorem dX9_mark_56 : decode cX9_mark 56 = .ok (.iconst 1, 1) := by decide +kernel
theorem dX9_mark_57 : decode cX9_mark 57 = .ok (.ireturn, 1) := by decide +kernel
theorem dX9_name_0 : decode cX9_name 0 = .ok (.aload_n 0, 1) := by decide +kernel
theorem dX9_name_1 : decode cX9_name 1 = .ok (.iload_n 1, 1) := by decide +kernel
theorem dX9_name_2 : decode cX9_name 2 = .ok (.invokevirtual 89, 3) := by decide +kernel
theorem dX9_name_5 : decode cX9_name 5 = .ok (.ifnull 13, 3) := by decide +kernel
theorem dX9_name_8 : decode cX9_name 8 = .ok (.iload_n 2, 1) := by decide +kernel
theorem dX9_name_9 : decode cX9_name 9 = .ok (.iconst 1, 1) := by decide +kernel
theorem dX9_name_10 : decode cX9_name 10 = .ok (.bipush 50, 2) := by decide +kernel
theorem dX9_name_12 : decode cX9_name 12 = .ok (.invokestatic 67, 3) := by decide +kernel
theorem dX9_name_15 : decode cX9_name 15 = .ok (.ifCond .ne 5, 3) := by decide +kernel
theorem dX9_name_18 : decode cX9_name 18 = .ok (.iconst 0, 1) := by decide +kernel
theorem dX9_name_19 : decode cX9_name 19 = .ok (.ireturn, 1) := by decide +kernel
theorem dX9_name_20 : decode cX9_name 20 = .ok (.aload_n 0, 1) := by decide +kernel
theorem dX9_name_21 : decode cX9_name 21 = .ok (.getfield 24, 3) := by decide +kernel
theorem dX9_name_24 : decode cX9_name 24 = .ok (.iload_n 1, 1) := by decide +kernel
theorem dX9_name_25 : decode cX9_name 25 = .ok (.iload_n 2, 1) := by decide +kernel
theorem dX9_name_26 : decode cX9_name 26 = .ok (.aload_n 0, 1) := by decide +kernel
theorem dX9_name_27 : decode cX9_name 27 = .ok (.getfield 71, 3) := by decide +kernel
theorem dX9_name_30 : decode cX9_name 30 = .ok (.invokevirtual 114, 3) := by decide +kernel
theorem dX9_name_33 : decode cX9_name 33 = .ok (.ireturn, 1) := by decide +kernel
theorem dX9_join_0 : decode cX9_join 0 = .ok (.iload_n 1, 1) := by decide +kernel
theorem dX9_join_1 : decode cX9_join 1 = .ok (.iconst 1, 1) := by decide +kernel
theorem dX9_join_2 : decode cX9_join 2 = .ok (.bipush 50, 2) := by decide +kernel
theorem dX9_join_4 : decode cX9_join 4 = .ok (.invokestatic 67, 3) := by decide +kernel
theorem dX9_join_7 : decode cX9_join 7 = .ok (.ifCond .eq 13, 3) := by decide +kernel
theorem dX9_join_10 : decode cX9_join 10 = .ok (.iload_n 2, 1) := by decide +kernel
theorem dX9_join_11 : decode cX9_join 11 = .ok (.iconst 0, 1) := by decide +kernel
theorem dX9_join_12 : decode cX9_join 12 = .ok (.bipush 50, 2) := by decide +kernel
theorem dX9_join_14 : decode cX9_join 14 = .ok (.invokestatic 67, 3) := by decide +kernel
theorem dX9_join_17 : decode cX9_join 17 = .ok (.ifCond .ne 5, 3) := by decide +kernel
theorem dX9_join_20 : decode cX9_join 20 = .ok (.iconst 0, 1) := by decide +kernel
theorem dX9_join_21 : decode cX9_join 21 = .ok (.ireturn, 1) := by decide +kernel
theorem dX9_join_22 : decode cX9_join 22 = .ok (.aload_n 0, 1) := by decide +kernel
theorem dX9_join_23 : decode cX9_join 23 = .ok (.getfield 24, 3) := by decide +kernel
theorem dX9_join_26 : decode cX9_join 26 = .ok (.iload_n 1, 1) := by decide +kernel
theorem dX9_join_27 : decode cX9_join 27 = .ok (.iload_n 2, 1) := by decide +kernel
theorem dX9_join_28 : decode cX9_join 28 = .ok (.aload_n 0, 1) := by decide +kernel
theorem dX9_join_29 : decode cX9_join 29 = .ok (.getfield 71, 3) := by decide +kernel
theorem dX9_join_32 : decode cX9_join 32 = .ok (.invokevirtual 117, 3) := by decide +kernel
theorem dX9_join_35 : decode cX9_join 35 = .ok (.ireturn, 1) := by decide +kernel
theorem dX9_named_0 : decode cX9_named 0 = .ok (.aload_n 0, 1) := by decide +kernel
theorem dX9_named_1 : decode cX9_named 1 = .ok (.iload_n 1, 1) := by decide +kernel
theorem dX9_named_2 : decode cX9_named 2 = .ok (.invokevirtual 89, 3) := by decide +kernel
theorem dX9_named_5 : decode cX9_named 5 = .ok (.ifnull 24, 3) := by decide +kernel
theorem dX9_named_8 : decode cX9_named 8 = .ok (.iload_n 2, 1) := by decide +kernel
theorem dX9_named_9 : decode cX9_named 9 = .ok (.iconst 0, 1) := by decide +kernel
theorem dX9_named_10 : decode cX9_named 10 = .ok (.aload_n 0, 1) := by decide +kernel
theorem dX9_named_11 : decode cX9_named 11 = .ok (.getfield 71, 3) := by decide +kernel
theorem dX9_named_14 : decode cX9_named 14 = .ok (.invokestatic 67, 3) := by decide +kernel
theorem dX9_named_17 : decode cX9_named 17 = .ok (.ifCond .eq 12, 3) := by decide +kernel
theorem dX9_named_20 : decode cX9_named 20 = .ok (.iload_n 3, 1) := by decide +kernel
theorem dX9_named_21 : decode cX9_named 21 = .ok (.iconst 0, 1) := by decide +kernel
theorem dX9_named_22 : decode cX9_named 22 = .ok (.iconst 1, 1) := by decide +kernel
theorem dX9_named_23 : decode cX9_named 23 = .ok (.invokestatic 67, 3) := by decide +kernel
theorem dX9_named_26 : decode cX9_named 26 = .ok (.ifCond .ne 13, 3) := by decide +kernel
theorem dX9_named_29 : decode cX9_named 29 = .ok (.new 120, 3) := by decide +kernel
theorem dX9_named_32 : decode cX9_named 32 = .ok (.dup, 1) := by decide +kernel
theorem dX9_named_33 : decode cX9_named 33 = .ok (.ldc 122, 2) := by decide +kernel
theorem dX9_named_35 : decode cX9_named 35 = .ok (.invokespecial 124, 3) := by decide +kernel
theorem dX9_named_38 : decode cX9_named 38 = .ok (.athrow, 1) := by decide +kernel
theorem dX9_named_39 : decode cX9_named 39 = .ok (.aload_n 0, 1) := by decide +kernel
theorem dX9_named_40 : decode cX9_named 40 = .ok (.getfield 24, 3) := by decide +kernel
theorem dX9_named_43 : decode cX9_named 43 = .ok (.iload_n 1, 1) := by decide +kernel
theorem dX9_named_44 : decode cX9_named 44 = .ok (.iload_n 2, 1) := by decide +kernel
theorem dX9_named_45 : decode cX9_named 45 = .ok (.iload_n 3, 1) := by decide +kernel
theorem dX9_named_46 : decode cX9_named 46 = .ok (.ifCond .ne 7, 3) := by decide +kernel
theorem dX9_named_49 : decode cX9_named 49 = .ok (.iload_n 2, 1) := by decide +kernel
theorem dX9_named_50 : decode cX9_named 50 = .ok (.goto 7, 3) := by decide +kernel
theorem dX9_named_53 : decode cX9_named 53 = .ok (.aload_n 0, 1) := by decide +kernel
theorem dX9_named_54 : decode cX9_named 54 = .ok (.getfield 71, 3) := by decide +kernel
theorem dX9_named_57 : decode cX9_named 57 = .ok (.invokevirtual 127, 3) := by decide +kernel
theorem dX9_named_60 : decode cX9_named 60 = .ok (.ireturn, 1) := by decide +kernel
theorem dX9_bed_0 : decode cX9_bed 0 = .ok (.iload_n 1, 1) := by decide +kernel
theorem dX9_bed_1 : decode cX9_bed 1 = .ok (.invokestatic 99, 3) := by decide +kernel
theorem dX9_bed_4 : decode cX9_bed 4 = .ok (.ifCond .eq 29, 3) := by decide +kernel
theorem dX9_bed_7 : decode cX9_bed 7 = .ok (.iload_n 2, 1) := by decide +kernel
theorem dX9_bed_8 : decode cX9_bed 8 = .ok (.invokestatic 99, 3) := by decide +kernel
theorem dX9_bed_11 : decode cX9_bed 11 = .ok (.ifCond .eq 22, 3) := by decide +kernel
theorem dX9_bed_14 : decode cX9_bed 14 = .ok (.iload_n 3, 1) := by decide +kernel
theorem dX9_bed_15 : decode cX9_bed 15 = .ok (.iconst 1, 1) := by decide +kernel
theorem dX9_bed_16 : decode cX9_bed 16 = .ok (.bipush 40, 2) := by decide +kernel
theorem dX9_bed_18 : decode cX9_bed 18 = .ok (.invokestatic 67, 3) := by decide +kernel
theorem dX9_bed_21 : decode cX9_bed 21 = .ok (.ifCond .eq 12, 3) := by decide +kernel
theorem dX9_bed_24 : decode cX9_bed 24 = .ok (.aload_n 0, 1) := by decide +kernel
theorem dX9_bed_25 : decode cX9_bed 25 = .ok (.getfield 131, 3) := by decide +kernel
theorem dX9_bed_28 : decode cX9_bed 28 = .ok (.bipush 8, 2) := by decide +kernel
theorem dX9_bed_30 : decode cX9_bed 30 = .ok (.if_icmp .lt 5, 3) := by decide +kernel
theorem dX9_bed_33 : decode cX9_bed 33 = .ok (.iconst (-1), 1) := by decide +kernel
theorem dX9_bed_34 : decode cX9_bed 34 = .ok (.ireturn, 1) := by decide +kernel
theorem dX9_bed_35 : decode cX9_bed 35 = .ok (.aload_n 0, 1) := by decide +kernel
theorem dX9_bed_36 : decode cX9_bed 36 = .ok (.getfield 17, 3) := by decide +kernel
theorem dX9_bed_39 : decode cX9_bed 39 = .ok (.aload_n 0, 1) := by decide +kernel
theorem dX9_bed_40 : decode cX9_bed 40 = .ok (.getfield 131, 3) := by decide +kernel
theorem dX9_bed_43 : decode cX9_bed 43 = .ok (.new 15, 3) := by decide +kernel
theorem dX9_bed_46 : decode cX9_bed 46 = .ok (.dup, 1) := by decide +kernel
theorem dX9_bed_47 : decode cX9_bed 47 = .ok (.iload_n 1, 1) := by decide +kernel
theorem dX9_bed_48 : decode cX9_bed 48 = .ok (.iload_n 2, 1) := by decide +kernel
theorem dX9_bed_49 : decode cX9_bed 49 = .ok (.iload_n 3, 1) := by decide +kernel
theorem dX9_bed_50 : decode cX9_bed 50 = .ok (.invokespecial 134, 3) := by decide +kernel
theorem dX9_bed_53 : decode cX9_bed 53 = .ok (.aastore, 1) := by decide +kernel
theorem dX9_bed_54 : decode cX9_bed 54 = .ok (.aload_n 0, 1) := by decide +kernel
theorem dX9_bed_55 : decode cX9_bed 55 = .ok (.dup, 1) := by decide +kernel
theorem dX9_bed_56 : decode cX9_bed 56 = .ok (.getfield 131, 3) := by decide +kernel
theorem dX9_bed_59 : decode cX9_bed 59 = .ok (.iconst 1, 1) := by decide +kernel
theorem dX9_bed_60 : decode cX9_bed 60 = .ok (.iadd, 1) := by decide +kernel
theorem dX9_bed_61 : decode cX9_bed 61 = .ok (.putfield 131, 3) := by decide +kernel
theorem dX9_bed_64 : decode cX9_bed 64 = .ok (.aload_n 0, 1) := by decide +kernel
theorem dX9_bed_65 : decode cX9_bed 65 = .ok (.getfield 131, 3) := by decide +kernel
theorem dX9_bed_68 : decode cX9_bed 68 = .ok (.iconst 1, 1) := by decide +kernel
theorem dX9_bed_69 : decode cX9_bed 69 = .ok (.isub, 1) := by decide +kernel
theorem dX9_bed_70 : decode cX9_bed 70 = .ok (.ireturn, 1) := by decide +kernel
theorem dX9_change_0 : decode cX9_change 0 = .ok (.aload_n 0, 1) := by decide +kernel
theorem dX9_change_1 : decode cX9_change 1 = .ok (.iload_n 1, 1) := by decide +kernel
theorem dX9_change_2 : decode cX9_change 2 = .ok (.invokevirtual 135, 3) := by decide +kernel
theorem dX9_change_5 : decode cX9_change 5 = .ok (.astore 4, 2) := by decide +kernel
theorem dX9_change_7 : decode cX9_change 7 = .ok (.aload 4, 2) := by decide +kernel
theorem dX9_change_9 : decode cX9_change 9 = .ok (.ifnull 17, 3) := by decide +kernel
theorem dX9_change_12 : decode cX9_change 12 = .ok (.iload_n 2, 1) := by decide +kernel
theorem dX9_change_13 : decode cX9_change 13 = .ok (.invokestatic 99, 3) := by decide +kernel
theorem dX9_change_16 : decode cX9_change 16 = .ok (.ifCond .eq 10, 3) := by decide +kernel
theorem dX9_change_19 : decode cX9_change 19 = .ok (.iload_n 3, 1) := by decide +kernel
theorem dX9_change_20 : decode cX9_change 20 = .ok (.invokestatic 99, 3) := by decide +kernel
theorem dX9_change_23 : decode cX9_change 23 = .ok (.ifCond .ne 5, 3) := by decide +kernel
theorem dX9_change_26 : decode cX9_change 26 = .ok (.iconst 0, 1) := by decide +kernel
theorem dX9_change_27 : decode cX9_change 27 = .ok (.ireturn, 1) := by decide +kernel
theorem dX9_change_28 : decode cX9_change 28 = .ok (.aload 4, 2) := by decide +kernel
theorem dX9_change_30 : decode cX9_change 30 = .ok (.iload_n 2, 1) := by decide +kernel
theorem dX9_change_31 : decode cX9_change 31 = .ok (.putfield 139, 3) := by decide +kernel
theorem dX9_change_34 : decode cX9_change 34 = .ok (.aload 4, 2) := by decide +kernel
theorem dX9_change_36 : decode cX9_change 36 = .ok (.iload_n 3, 1) := by decide +kernel
theorem dX9_change_37 : decode cX9_change 37 = .ok (.putfield 142, 3) := by decide +kernel
theorem dX9_change_40 : decode cX9_change 40 = .ok (.iconst 1, 1) := by decide +kernel
theorem dX9_change_41 : decode cX9_change 41 = .ok (.ireturn, 1) := by decide +kernel
theorem dX9_needs_0 : decode cX9_needs 0 = .ok (.aload_n 0, 1) := by decide +kernel
theorem dX9_needs_1 : decode cX9_needs 1 = .ok (.iload_n 1, 1) := by decide +kernel
theorem dX9_needs_2 : decode cX9_needs 2 = .ok (.invokevirtual 89, 3) := by decide +kernel
theorem dX9_needs_5 : decode cX9_needs 5 = .ok (.astore 6, 2) := by decide +kernel
theorem dX9_needs_7 : decode cX9_needs 7 = .ok (.aload 6, 2) := by decide +kernel
theorem dX9_needs_9 : decode cX9_needs 9 = .ok (.ifnull 21, 3) := by decide +kernel
theorem dX9_needs_12 : decode cX9_needs 12 = .ok (.iload_n 2, 1) := by decide +kernel
theorem dX9_needs_13 : decode cX9_needs 13 = .ok (.iload_n 3, 1) := by decide +kernel
theorem dX9_needs_14 : decode cX9_needs 14 = .ok (.invokestatic 145, 3) := by decide +kernel
theorem dX9_needs_17 : decode cX9_needs 17 = .ok (.ifCond .eq 13, 3) := by decide +kernel
theorem dX9_needs_20 : decode cX9_needs 20 = .ok (.iload 4, 2) := by decide +kernel
theorem dX9_needs_22 : decode cX9_needs 22 = .ok (.iload 5, 2) := by decide +kernel
theorem dX9_needs_24 : decode cX9_needs 24 = .ok (.invokestatic 145, 3) := by decide +kernel
theorem dX9_needs_27 : decode cX9_needs 27 = .ok (.ifCond .ne 5, 3) := by decide +kernel
theorem dX9_needs_30 : decode cX9_needs 30 = .ok (.iconst 0, 1) := by decide +kernel
theorem dX9_needs_31 : decode cX9_needs 31 = .ok (.ireturn, 1) := by decide +kernel
theorem dX9_needs_32 : decode cX9_needs 32 = .ok (.aload 6, 2) := by decide +kernel
theorem dX9_needs_34 : decode cX9_needs 34 = .ok (.iload_n 2, 1) := by decide +kernel
theorem dX9_needs_35 : decode cX9_needs 35 = .ok (.putfield 149, 3) := by decide +kernel
theorem dX9_needs_38 : decode cX9_needs 38 = .ok (.aload 6, 2) := by decide +kernel
theorem dX9_needs_40 : decode cX9_needs 40 = .ok (.iload_n 3, 1) := by decide +kernel
theorem dX9_needs_41 : decode cX9_needs 41 = .ok (.putfield 152, 3) := by decide +kernel
theorem dX9_needs_44 : decode cX9_needs 44 = .ok (.aload 6, 2) := by decide +kernel
theorem dX9_needs_46 : decode cX9_needs 46 = .ok (.iload 4, 2) := by decide +kernel
theorem dX9_needs_48 : decode cX9_needs 48 = .ok (.putfield 155, 3) := by decide +kernel
theorem dX9_needs_51 : decode cX9_needs 51 = .ok (.aload 6, 2) := by decide +kernel
theorem dX9_needs_53 : decode cX9_needs 53 = .ok (.iload 5, 2) := by decide +kernel
theorem dX9_needs_55 : decode cX9_needs 55 = .ok (.putfield 158, 3) := by decide +kernel
theorem dX9_needs_58 : decode cX9_needs 58 = .ok (.iconst 1, 1) := by decide +kernel
theorem dX9_needs_59 : decode cX9_needs 59 = .ok (.ireturn, 1) := by decide +kernel
theorem dX9_lay_0 : decode cX9_lay 0 = .ok (.aload_n 0, 1) := by decide +kernel
theorem dX9_lay_1 : decode cX9_lay 1 = .ok (.iload_n 1, 1) := by decide +kernel
theorem dX9_lay_2 : decode cX9_lay 2 = .ok (.invokevirtual 89, 3) := by decide +kernel
theorem dX9_lay_5 : decode cX9_lay 5 = .ok (.astore_n 3, 1) := by decide +kernel
theorem dX9_lay_6 : decode cX9_lay 6 = .ok (.aload_n 3, 1) := by decide +kernel
theorem dX9_lay_7 : decode cX9_lay 7 = .ok (.ifnull 17, 3) := by decide +kernel
theorem dX9_lay_10 : decode cX9_lay 10 = .ok (.iload_n 2, 1) := by decide +kernel
theorem dX9_lay_11 : decode cX9_lay 11 = .ok (.iconst (-1), 1) := by decide +kernel
theorem dX9_lay_12 : decode cX9_lay 12 = .ok (.if_icmp .eq 14, 3) := by decide +kernel
theorem dX9_lay_15 : decode cX9_lay 15 = .ok (.aload_n 0, 1) := by decide +kernel
theorem dX9_lay_16 : decode cX9_lay 16 = .ok (.aload_n 3, 1) := by decide +kernel
theorem dX9_lay_17 : decode cX9_lay 17 = .ok (.iload_n 2, 1) := by decide +kernel
theorem dX9_lay_18 : decode cX9_lay 18 = .ok (.invokevirtual 161, 3) := by decide +kernel
theorem dX9_lay_21 : decode cX9_lay 21 = .ok (.ifCond .ne 5, 3) := by decide +kernel
theorem dX9_lay_24 : decode cX9_lay 24 = .ok (.iconst 0, 1) := by decide +kernel
theorem dX9_lay_25 : decode cX9_lay 25 = .ok (.ireturn, 1) := by decide +kernel
theorem dX9_lay_26 : decode cX9_lay 26 = .ok (.aload_n 3, 1) := by decide +kernel
theorem dX9_lay_27 : decode cX9_lay 27 = .ok (.iload_n 2, 1) := by decide +kernel
theorem dX9_lay_28 : decode cX9_lay 28 = .ok (.putfield 165, 3) := by decide +kernel
theorem dX9_lay_31 : decode cX9_lay 31 = .ok (.aload_n 3, 1) := by decide +kernel
theorem dX9_lay_32 : decode cX9_lay 32 = .ok (.iconst 0, 1) := by decide +kernel
theorem dX9_lay_33 : decode cX9_lay 33 = .ok (.putfield 168, 3) := by decide +kernel
theorem dX9_lay_36 : decode cX9_lay 36 = .ok (.iconst 1, 1) := by decide +kernel
theorem dX9_lay_37 : decode cX9_lay 37 = .ok (.ireturn, 1) := by decide +kernel
theorem dX9_moves_0 : decode cX9_moves 0 = .ok (.aload_n 0, 1) := by decide +kernel
theorem dX9_moves_1 : decode cX9_moves 1 = .ok (.getfield 31, 3) := by decide +kernel
theorem dX9_moves_4 : decode cX9_moves 4 = .ok (.invokevirtual 171, 3) := by decide +kernel
theorem dX9_moves_7 : decode cX9_moves 7 = .ok (.iconst 0, 1) := by decide +kernel
theorem dX9_moves_8 : decode cX9_moves 8 = .ok (.istore_n 1, 1) := by decide +kernel
theorem dX9_moves_9 : decode cX9_moves 9 = .ok (.iload_n 1, 1) := by decide +kernel
theorem dX9_moves_10 : decode cX9_moves 10 = .ok (.aload_n 0, 1) := by decide +kernel
theorem dX9_moves_11 : decode cX9_moves 11 = .ok (.getfield 131, 3) := by decide +kernel
theorem dX9_moves_14 : decode cX9_moves 14 = .ok (.if_icmp .ge 25, 3) := by decide +kernel
theorem dX9_moves_17 : decode cX9_moves 17 = .ok (.aload_n 0, 1) := by decide +kernel
theorem dX9_moves_18 : decode cX9_moves 18 = .ok (.getfield 31, 3) := by decide +kernel
theorem dX9_moves_21 : decode cX9_moves 21 = .ok (.aload_n 0, 1) := by decide +kernel
theorem dX9_moves_22 : decode cX9_moves 22 = .ok (.getfield 17, 3) := by decide +kernel
theorem dX9_moves_25 : decode cX9_moves 25 = .ok (.iload_n 1, 1) := by decide +kernel
theorem dX9_moves_26 : decode cX9_moves 26 = .ok (.aaload, 1) := by decide +kernel
theorem dX9_moves_27 : decode cX9_moves 27 = .ok (.getfield 174, 3) := by decide +kernel
theorem dX9_moves_30 : decode cX9_moves 30 = .ok (.invokevirtual 177, 3) := by decide +kernel
theorem dX9_moves_33 : decode cX9_moves 33 = .ok (.iinc 1 1, 3) := by decide +kernel
theorem dX9_moves_36 : decode cX9_moves 36 = .ok (.goto (-27), 3) := by decide +kernel
theorem dX9_moves_39 : decode cX9_moves 39 = .ok (.iconst 0, 1) := by decide +kernel
theorem dX9_moves_40 : decode cX9_moves 40 = .ok (.istore_n 1, 1) := by decide +kernel
theorem dX9_moves_41 : decode cX9_moves 41 = .ok (.iload_n 1, 1) := by decide +kernel
theorem dX9_moves_42 : decode cX9_moves 42 = .ok (.aload_n 0, 1) := by decide +kernel
theorem dX9_moves_43 : decode cX9_moves 43 = .ok (.getfield 79, 3) := by decide +kernel
theorem dX9_moves_46 : decode cX9_moves 46 = .ok (.if_icmp .ge 39, 3) := by decide +kernel
theorem dX9_moves_49 : decode cX9_moves 49 = .ok (.aload_n 0, 1) := by decide +kernel
theorem dX9_moves_50 : decode cX9_moves 50 = .ok (.getfield 11, 3) := by decide +kernel
theorem dX9_moves_53 : decode cX9_moves 53 = .ok (.iload_n 1, 1) := by decide +kernel
theorem dX9_moves_54 : decode cX9_moves 54 = .ok (.aaload, 1) := by decide +kernel
theorem dX9_moves_55 : decode cX9_moves 55 = .ok (.getfield 165, 3) := by decide +kernel
theorem dX9_moves_58 : decode cX9_moves 58 = .ok (.iconst (-1), 1) := by decide +kernel
theorem dX9_moves_59 : decode cX9_moves 59 = .ok (.if_icmp .eq 20, 3) := by decide +kernel
theorem dX9_moves_62 : decode cX9_moves 62 = .ok (.aload_n 0, 1) := by decide +kernel
theorem dX9_moves_63 : decode cX9_moves 63 = .ok (.getfield 31, 3) := by decide +kernel
theorem dX9_moves_66 : decode cX9_moves 66 = .ok (.aload_n 0, 1) := by decide +kernel
theorem dX9_moves_67 : decode cX9_moves 67 = .ok (.getfield 11, 3) := by decide +kernel
theorem dX9_moves_70 : decode cX9_moves 70 = .ok (.iload_n 1, 1) := by decide +kernel
theorem dX9_moves_71 : decode cX9_moves 71 = .ok (.aaload, 1) := by decide +kernel
theorem dX9_moves_72 : decode cX9_moves 72 = .ok (.aload_n 0, 1) := by decide +kernel
theorem dX9_moves_73 : decode cX9_moves 73 = .ok (.getfield 17, 3) := by decide +kernel
theorem dX9_moves_76 : decode cX9_moves 76 = .ok (.invokevirtual 181, 3) := by decide +kernel
theorem dX9_moves_79 : decode cX9_moves 79 = .ok (.iinc 1 1, 3) := by decide +kernel
theorem dX9_moves_82 : decode cX9_moves 82 = .ok (.goto (-41), 3) := by decide +kernel
theorem dX9_moves_85 : decode cX9_moves 85 = .ok (.aload_n 0, 1) := by decide +kernel
theorem dX9_moves_86 : decode cX9_moves 86 = .ok (.getfield 31, 3) := by decide +kernel
theorem dX9_moves_89 : decode cX9_moves 89 = .ok (.invokevirtual 185, 3) := by decide +kernel
theorem dX9_moves_92 : decode cX9_moves 92 = .ok (.ireturn, 1) := by decide +kernel
theorem dX9_feed_0 : decode cX9_feed 0 = .ok (.aload_n 0, 1) := by decide +kernel
theorem dX9_feed_1 : decode cX9_feed 1 = .ok (.getfield 38, 3) := by decide +kernel
theorem dX9_feed_4 : decode cX9_feed 4 = .ok (.lload_n 1, 1) := by decide +kernel
theorem dX9_feed_5 : decode cX9_feed 5 = .ok (.invokevirtual 189, 3) := by decide +kernel
theorem dX9_feed_8 : decode cX9_feed 8 = .ok (.aload_n 0, 1) := by decide +kernel
theorem dX9_feed_9 : decode cX9_feed 9 = .ok (.getfield 38, 3) := by decide +kernel
theorem dX9_feed_12 : decode cX9_feed 12 = .ok (.lload_n 3, 1) := by decide +kernel
theorem dX9_feed_13 : decode cX9_feed 13 = .ok (.invokevirtual 189, 3) := by decide +kernel
theorem dX9_feed_16 : decode cX9_feed 16 = .ok (.aload_n 0, 1) := by decide +kernel
theorem dX9_feed_17 : decode cX9_feed 17 = .ok (.getfield 38, 3) := by decide +kernel
theorem dX9_feed_20 : decode cX9_feed 20 = .ok (.lload 5, 2) := by decide +kernel
theorem dX9_feed_22 : decode cX9_feed 22 = .ok (.invokevirtual 189, 3) := by decide +kernel
theorem dX9_feed_25 : decode cX9_feed 25 = .ok (.aload_n 0, 1) := by decide +kernel
theorem dX9_feed_26 : decode cX9_feed 26 = .ok (.getfield 38, 3) := by decide +kernel
theorem dX9_feed_29 : decode cX9_feed 29 = .ok (.getfield 193, 3) := by decide +kernel
theorem dX9_feed_32 : decode cX9_feed 32 = .ok (.ireturn, 1) := by decide +kernel
theorem dX9_text_0 : decode cX9_text 0 = .ok (.aload_n 0, 1) := by decide +kernel
theorem dX9_text_1 : decode cX9_text 1 = .ok (.getfield 45, 3) := by decide +kernel
theorem dX9_text_4 : decode cX9_text 4 = .ok (.aload_n 0, 1) := by decide +kernel
theorem dX9_text_5 : decode cX9_text 5 = .ok (.getfield 38, 3) := by decide +kernel
theorem dX9_text_8 : decode cX9_text 8 = .ok (.invokevirtual 196, 3) := by decide +kernel
theorem dX9_text_11 : decode cX9_text 11 = .ok (.istore_n 1, 1) := by decide +kernel
theorem dX9_text_12 : decode cX9_text 12 = .ok (.aload_n 0, 1) := by decide +kernel
theorem dX9_text_13 : decode cX9_text 13 = .ok (.getfield 38, 3) := by decide +kernel
theorem dX9_text_16 : decode cX9_text 16 = .ok (.iconst 0, 1) := by decide +kernel
theorem dX9_text_17 : decode cX9_text 17 = .ok (.putfield 193, 3) := by decide +kernel
theorem dX9_text_20 : decode cX9_text 20 = .ok (.iload_n 1, 1) := by decide +kernel
theorem dX9_text_21 : decode cX9_text 21 = .ok (.ifCond .ne 18, 3) := by decide +kernel
theorem dX9_text_24 : decode cX9_text 24 = .ok (.aload_n 0, 1) := by decide +kernel
theorem dX9_text_25 : decode cX9_text 25 = .ok (.aload_n 0, 1) := by decide +kernel
theorem dX9_text_26 : decode cX9_text 26 = .ok (.getfield 45, 3) := by decide +kernel
theorem dX9_text_29 : decode cX9_text 29 = .ok (.aload_n 0, 1) := by decide +kernel
theorem dX9_text_30 : decode cX9_text 30 = .ok (.getfield 63, 3) := by decide +kernel
theorem dX9_text_33 : decode cX9_text 33 = .ok (.invokevirtual 200, 3) := by decide +kernel
theorem dX9_text_36 : decode cX9_text 36 = .ok (.putfield 63, 3) := by decide +kernel
theorem dX9_text_39 : decode cX9_text 39 = .ok (.iload_n 1, 1) := by decide +kernel
theorem dX9_text_40 : decode cX9_text 40 = .ok (.ireturn, 1) := by decide +kernel
theorem dX9_may_0 : decode cX9_may 0 = .ok (.aload_n 0, 1) := by decide +kernel
theorem dX9_may_1 : decode cX9_may 1 = .ok (.iload_n 1, 1) := by decide +kernel
theorem dX9_may_2 : decode cX9_may 2 = .ok (.invokevirtual 89, 3) := by decide +kernel
theorem dX9_may_5 : decode cX9_may 5 = .ok (.astore 4, 2) := by decide +kernel
theorem dX9_may_7 : decode cX9_may 7 = .ok (.aload 4, 2) := by decide +kernel
theorem dX9_may_9 : decode cX9_may 9 = .ok (.ifnull 23, 3) := by decide +kernel
theorem dX9_may_12 : decode cX9_may 12 = .ok (.iload_n 2, 1) := by decide +kernel
theorem dX9_may_13 : decode cX9_may 13 = .ok (.iconst 0, 1) := by decide +kernel
theorem dX9_may_14 : decode cX9_may 14 = .ok (.bipush 99, 2) := by decide +kernel
theorem dX9_may_16 : decode cX9_may 16 = .ok (.invokestatic 67, 3) := by decide +kernel
theorem dX9_may_19 : decode cX9_may 19 = .ok (.ifCond .eq 13, 3) := by decide +kernel
theorem dX9_may_22 : decode cX9_may 22 = .ok (.iload_n 3, 1) := by decide +kernel
theorem dX9_may_23 : decode cX9_may 23 = .ok (.iconst 0, 1) := by decide +kernel
theorem dX9_may_24 : decode cX9_may 24 = .ok (.bipush 9, 2) := by decide +kernel
theorem dX9_may_26 : decode cX9_may 26 = .ok (.invokestatic 67, 3) := by decide +kernel
theorem dX9_may_29 : decode cX9_may 29 = .ok (.ifCond .ne 5, 3) := by decide +kernel
theorem dX9_may_32 : decode cX9_may 32 = .ok (.iconst (-1), 1) := by decide +kernel
theorem dX9_may_33 : decode cX9_may 33 = .ok (.ireturn, 1) := by decide +kernel
theorem dX9_may_34 : decode cX9_may 34 = .ok (.aload_n 0, 1) := by decide +kernel
theorem dX9_may_35 : decode cX9_may 35 = .ok (.getfield 56, 3) := by decide +kernel
theorem dX9_may_38 : decode cX9_may 38 = .ok (.iconst 0, 1) := by decide +kernel
theorem dX9_may_39 : decode cX9_may 39 = .ok (.aload 4, 2) := by decide +kernel
theorem dX9_may_41 : decode cX9_may 41 = .ok (.getfield 204, 3) := by decide +kernel
theorem dX9_may_44 : decode cX9_may 44 = .ok (.iastore, 1) := by decide +kernel
theorem dX9_may_45 : decode cX9_may 45 = .ok (.aload_n 0, 1) := by decide +kernel
theorem dX9_may_46 : decode cX9_may 46 = .ok (.getfield 56, 3) := by decide +kernel
theorem dX9_may_49 : decode cX9_may 49 = .ok (.iconst 1, 1) := by decide +kernel
theorem dX9_may_50 : decode cX9_may 50 = .ok (.aload_n 0, 1) := by decide +kernel
theorem dX9_may_51 : decode cX9_may 51 = .ok (.getfield 24, 3) := by decide +kernel
theorem dX9_may_54 : decode cX9_may 54 = .ok (.iload_n 1, 1) := by decide +kernel
theorem dX9_may_55 : decode cX9_may 55 = .ok (.aload_n 0, 1) := by decide +kernel
theorem dX9_may_56 : decode cX9_may 56 = .ok (.getfield 71, 3) := by decide +kernel
theorem dX9_may_59 : decode cX9_may 59 = .ok (.aload_n 0, 1) := by decide +kernel
theorem dX9_may_60 : decode cX9_may 60 = .ok (.getfield 71, 3) := by decide +kernel
theorem dX9_may_63 : decode cX9_may 63 = .ok (.invokevirtual 127, 3) := by decide +kernel
theorem dX9_may_66 : decode cX9_may 66 = .ok (.iastore, 1) := by decide +kernel
theorem dX9_may_67 : decode cX9_may 67 = .ok (.aload_n 0, 1) := by decide +kernel
theorem dX9_may_68 : decode cX9_may 68 = .ok (.getfield 56, 3) := by decide +kernel
theorem dX9_may_71 : decode cX9_may 71 = .ok (.iconst 2, 1) := by decide +kernel
theorem dX9_may_72 : decode cX9_may 72 = .ok (.iload_n 2, 1) := by decide +kernel
theorem dX9_may_73 : decode cX9_may 73 = .ok (.iastore, 1) := by decide +kernel
theorem dX9_may_74 : decode cX9_may 74 = .ok (.aload_n 0, 1) := by decide +kernel
theorem dX9_may_75 : decode cX9_may 75 = .ok (.getfield 56, 3) := by decide +kernel
theorem dX9_may_78 : decode cX9_may 78 = .ok (.iconst 3, 1) := by decide +kernel
theorem dX9_may_79 : decode cX9_may 79 = .ok (.iload_n 3, 1) := by decide +kernel
theorem dX9_may_80 : decode cX9_may 80 = .ok (.iastore, 1) := by decide +kernel
theorem dX9_may_81 : decode cX9_may 81 = .ok (.aload_n 0, 1) := by decide +kernel
theorem dX9_may_82 : decode cX9_may 82 = .ok (.getfield 56, 3) := by decide +kernel
theorem dX9_may_85 : decode cX9_may 85 = .ok (.iconst 4, 1) := by decide +kernel
theorem dX9_may_86 : decode cX9_may 86 = .ok (.aload 4, 2) := by decide +kernel
theorem dX9_may_88 : decode cX9_may 88 = .ok (.getfield 207, 3) := by decide +kernel
theorem dX9_may_91 : decode cX9_may 91 = .ok (.ifCond .eq 7, 3) := by decide +kernel
theorem dX9_may_94 : decode cX9_may 94 = .ok (.iconst 1, 1) := by decide +kernel
theorem dX9_may_95 : decode cX9_may 95 = .ok (.goto 4, 3) := by decide +kernel
theorem dX9_may_98 : decode cX9_may 98 = .ok (.iconst 0, 1) := by decide +kernel
theorem dX9_may_99 : decode cX9_may 99 = .ok (.iastore, 1) := by decide +kernel
theorem dX9_may_100 : decode cX9_may 100 = .ok (.aload_n 0, 1) := by decide +kernel
theorem dX9_may_101 : decode cX9_may 101 = .ok (.getfield 56, 3) := by decide +kernel
theorem dX9_may_104 : decode cX9_may 104 = .ok (.iconst 5, 1) := by decide +kernel
theorem dX9_may_105 : decode cX9_may 105 = .ok (.aload 4, 2) := by decide +kernel
theorem dX9_may_107 : decode cX9_may 107 = .ok (.getfield 96, 3) := by decide +kernel
theorem dX9_may_110 : decode cX9_may 110 = .ok (.iastore, 1) := by decide +kernel
theorem dX9_may_111 : decode cX9_may 111 = .ok (.aload_n 0, 1) := by decide +kernel
theorem dX9_may_112 : decode cX9_may 112 = .ok (.getfield 56, 3) := by decide +kernel
theorem dX9_may_115 : decode cX9_may 115 = .ok (.bipush 6, 2) := by decide +kernel
theorem dX9_may_117 : decode cX9_may 117 = .ok (.aload_n 0, 1) := by decide +kernel
theorem dX9_may_118 : decode cX9_may 118 = .ok (.getfield 71, 3) := by decide +kernel
theorem dX9_may_121 : decode cX9_may 121 = .ok (.iastore, 1) := by decide +kernel
theorem dX9_may_122 : decode cX9_may 122 = .ok (.aload_n 0, 1) := by decide +kernel
theorem dX9_may_123 : decode cX9_may 123 = .ok (.getfield 63, 3) := by decide +kernel
theorem dX9_may_126 : decode cX9_may 126 = .ok (.aload_n 0, 1) := by decide +kernel
theorem dX9_may_127 : decode cX9_may 127 = .ok (.getfield 56, 3) := by decide +kernel
theorem dX9_may_130 : decode cX9_may 130 = .ok (.invokevirtual 211, 3) := by decide +kernel
theorem dX9_may_133 : decode cX9_may 133 = .ok (.ifCond .eq 7, 3) := by decide +kernel
theorem dX9_may_136 : decode cX9_may 136 = .ok (.iconst 1, 1) := by decide +kernel
theorem dX9_may_137 : decode cX9_may 137 = .ok (.goto 4, 3) := by decide +kernel
theorem dX9_may_140 : decode cX9_may 140 = .ok (.iconst 0, 1) := by decide +kernel
theorem dX9_may_141 : decode cX9_may 141 = .ok (.ireturn, 1) := by decide +kernel
theorem dX9_send_0 : decode cX9_send 0 = .ok (.aload_n 0, 1) := by decide +kernel
theorem dX9_send_1 : decode cX9_send 1 = .ok (.iload_n 1, 1) := by decide +kernel
theorem dX9_send_2 : decode cX9_send 2 = .ok (.invokevirtual 89, 3) := by decide +kernel
theorem dX9_send_5 : decode cX9_send 5 = .ok (.astore 4, 2) := by decide +kernel
theorem dX9_send_7 : decode cX9_send 7 = .ok (.aload 4, 2) := by decide +kernel
theorem dX9_send_9 : decode cX9_send 9 = .ok (.ifnull 23, 3) := by decide +kernel
theorem dX9_send_12 : decode cX9_send 12 = .ok (.aload 4, 2) := by decide +kernel
theorem dX9_send_14 : decode cX9_send 14 = .ok (.getfield 96, 3) := by decide +kernel
theorem dX9_send_17 : decode cX9_send 17 = .ok (.iconst 1, 1) := by decide +kernel
theorem dX9_send_18 : decode cX9_send 18 = .ok (.if_icmp .lt 14, 3) := by decide +kernel
theorem dX9_send_21 : decode cX9_send 21 = .ok (.aload_n 0, 1) := by decide +kernel
theorem dX9_send_22 : decode cX9_send 22 = .ok (.iload_n 1, 1) := by decide +kernel
theorem dX9_send_23 : decode cX9_send 23 = .ok (.iload_n 2, 1) := by decide +kernel
theorem dX9_send_24 : decode cX9_send 24 = .ok (.iload_n 3, 1) := by decide +kernel
theorem dX9_send_25 : decode cX9_send 25 = .ok (.invokevirtual 215, 3) := by decide +kernel
theorem dX9_send_28 : decode cX9_send 28 = .ok (.iconst 1, 1) := by decide +kernel
theorem dX9_send_29 : decode cX9_send 29 = .ok (.if_icmp .eq 5, 3) := by decide +kernel
theorem dX9_send_32 : decode cX9_send 32 = .ok (.iconst 0, 1) := by decide +kernel
theorem dX9_send_33 : decode cX9_send 33 = .ok (.ireturn, 1) := by decide +kernel
theorem dX9_send_34 : decode cX9_send 34 = .ok (.aload_n 0, 1) := by decide +kernel
theorem dX9_send_35 : decode cX9_send 35 = .ok (.getfield 52, 3) := by decide +kernel
theorem dX9_send_38 : decode cX9_send 38 = .ok (.iload_n 1, 1) := by decide +kernel
theorem dX9_send_39 : decode cX9_send 39 = .ok (.iload_n 2, 1) := by decide +kernel
theorem dX9_send_40 : decode cX9_send 40 = .ok (.iload_n 3, 1) := by decide +kernel
theorem dX9_send_41 : decode cX9_send 41 = .ok (.aload_n 0, 1) := by decide +kernel
theorem dX9_send_42 : decode cX9_send 42 = .ok (.getfield 71, 3) := by decide +kernel
theorem dX9_send_45 : decode cX9_send 45 = .ok (.invokevirtual 218, 3) := by decide +kernel
theorem dX9_send_48 : decode cX9_send 48 = .ok (.ifCond .ne 5, 3) := by decide +kernel
theorem dX9_send_51 : decode cX9_send 51 = .ok (.iconst 0, 1) := by decide +kernel
theorem dX9_send_52 : decode cX9_send 52 = .ok (.ireturn, 1) := by decide +kernel
theorem dX9_send_53 : decode cX9_send 53 = .ok (.aload 4, 2) := by decide +kernel
theorem dX9_send_55 : decode cX9_send 55 = .ok (.dup, 1) := by decide +kernel
theorem dX9_send_56 : decode cX9_send 56 = .ok (.getfield 96, 3) := by decide +kernel
theorem dX9_send_59 : decode cX9_send 59 = .ok (.iconst 1, 1) := by decide +kernel
theorem dX9_send_60 : decode cX9_send 60 = .ok (.isub, 1) := by decide +kernel
theorem dX9_send_61 : decode cX9_send 61 = .ok (.putfield 96, 3) := by decide +kernel
theorem dX9_send_64 : decode cX9_send 64 = .ok (.iconst 1, 1) := by decide +kernel
theorem dX9_send_65 : decode cX9_send 65 = .ok (.ireturn, 1) := by decide +kernel
theorem dX9_sent_0 : decode cX9_sent 0 = .ok (.aload_n 0, 1) := by decide +kernel
theorem dX9_sent_1 : decode cX9_sent 1 = .ok (.getfield 52, 3) := by decide +kernel
theorem dX9_sent_4 : decode cX9_sent 4 = .ok (.iload_n 1, 1) := by decide +kernel
theorem dX9_sent_5 : decode cX9_sent 5 = .ok (.iload_n 2, 1) := by decide +kernel
theorem dX9_sent_6 : decode cX9_sent 6 = .ok (.invokevirtual 222, 3) := by decide +kernel
theorem dX9_sent_9 : decode cX9_sent 9 = .ok (.ireturn, 1) := by decide +kernel
theorem dX9_seen_0 : decode cX9_seen 0 = .ok (.aload_n 0, 1) := by decide +kernel
theorem dX9_seen_1 : decode cX9_seen 1 = .ok (.iload_n 1, 1) := by decide +kernel
theorem dX9_seen_2 : decode cX9_seen 2 = .ok (.invokevirtual 89, 3) := by decide +kernel
theorem dX9_seen_5 : decode cX9_seen 5 = .ok (.astore_n 3, 1) := by decide +kernel
theorem dX9_seen_6 : decode cX9_seen 6 = .ok (.aload_n 3, 1) := by decide +kernel
theorem dX9_seen_7 : decode cX9_seen 7 = .ok (.ifnull 21, 3) := by decide +kernel
theorem dX9_seen_10 : decode cX9_seen 10 = .ok (.aload_n 3, 1) := by decide +kernel
theorem dX9_seen_11 : decode cX9_seen 11 = .ok (.getfield 165, 3) := by decide +kernel
theorem dX9_seen_14 : decode cX9_seen 14 = .ok (.iconst (-1), 1) := by decide +kernel
theorem dX9_seen_15 : decode cX9_seen 15 = .ok (.if_icmp .eq 13, 3) := by decide +kernel
theorem dX9_seen_18 : decode cX9_seen 18 = .ok (.iload_n 2, 1) := by decide +kernel
theorem dX9_seen_19 : decode cX9_seen 19 = .ok (.iconst 1, 1) := by decide +kernel
theorem dX9_seen_20 : decode cX9_seen 20 = .ok (.bipush 100, 2) := by decide +kernel
theorem dX9_seen_22 : decode cX9_seen 22 = .ok (.invokestatic 67, 3) := by decide +kernel
theorem dX9_seen_25 : decode cX9_seen 25 = .ok (.ifCond .ne 5, 3) := by decide +kernel
theorem dX9_seen_28 : decode cX9_seen 28 = .ok (.iconst 0, 1) := by decide +kernel
theorem dX9_seen_29 : decode cX9_seen 29 = .ok (.ireturn, 1) := by decide +kernel
theorem dX9_seen_30 : decode cX9_seen 30 = .ok (.aload_n 3, 1) := by decide +kernel
theorem dX9_seen_31 : decode cX9_seen 31 = .ok (.iload_n 2, 1) := by decide +kernel
theorem dX9_seen_32 : decode cX9_seen 32 = .ok (.putfield 168, 3) := by decide +kernel
theorem dX9_seen_35 : decode cX9_seen 35 = .ok (.iconst 1, 1) := by decide +kernel
theorem dX9_seen_36 : decode cX9_seen 36 = .ok (.ireturn, 1) := by decide +kernel
theorem dX9_close_0 : decode cX9_close 0 = .ok (.aload_n 0, 1) := by decide +kernel
theorem dX9_close_1 : decode cX9_close 1 = .ok (.iload_n 1, 1) := by decide +kernel
theorem dX9_close_2 : decode cX9_close 2 = .ok (.invokevirtual 135, 3) := by decide +kernel
theorem dX9_close_5 : decode cX9_close 5 = .ok (.ifnonnull 5, 3) := by decide +kernel
theorem dX9_close_8 : decode cX9_close 8 = .ok (.iconst (-1), 1) := by decide +kernel
theorem dX9_close_9 : decode cX9_close 9 = .ok (.ireturn, 1) := by decide +kernel
theorem dX9_close_10 : decode cX9_close 10 = .ok (.iconst 0, 1) := by decide +kernel
theorem dX9_close_11 : decode cX9_close 11 = .ok (.istore_n 2, 1) := by decide +kernel
theorem dX9_close_12 : decode cX9_close 12 = .ok (.iconst 0, 1) := by decide +kernel
theorem dX9_close_13 : decode cX9_close 13 = .ok (.istore_n 3, 1) := by decide +kernel
theorem dX9_close_14 : decode cX9_close 14 = .ok (.iload_n 3, 1) := by decide +kernel
theorem dX9_close_15 : decode cX9_close 15 = .ok (.aload_n 0, 1) := by decide +kernel
theorem dX9_close_16 : decode cX9_close 16 = .ok (.getfield 79, 3) := by decide +kernel
theorem dX9_close_19 : decode cX9_close 19 = .ok (.if_icmp .ge 37, 3) := by decide +kernel
theorem dX9_close_22 : decode cX9_close 22 = .ok (.aload_n 0, 1) := by decide +kernel
theorem dX9_close_23 : decode cX9_close 23 = .ok (.getfield 11, 3) := by decide +kernel
theorem dX9_close_26 : decode cX9_close 26 = .ok (.iload_n 3, 1) := by decide +kernel
theorem dX9_close_27 : decode cX9_close 27 = .ok (.aaload, 1) := by decide +kernel
theorem dX9_close_28 : decode cX9_close 28 = .ok (.getfield 165, 3) := by decide +kernel
theorem dX9_close_31 : decode cX9_close 31 = .ok (.iload_n 1, 1) := by decide +kernel
theorem dX9_close_32 : decode cX9_close 32 = .ok (.if_icmp .ne 18, 3) := by decide +kernel
theorem dX9_close_35 : decode cX9_close 35 = .ok (.aload_n 0, 1) := by decide +kernel
theorem dX9_close_36 : decode cX9_close 36 = .ok (.getfield 11, 3) := by decide +kernel
theorem dX9_close_39 : decode cX9_close 39 = .ok (.iload_n 3, 1) := by decide +kernel
theorem dX9_close_40 : decode cX9_close 40 = .ok (.aaload, 1) := by decide +kernel
theorem dX9_close_41 : decode cX9_close 41 = .ok (.invokevirtual 225, 3) := by decide +kernel
theorem dX9_close_44 : decode cX9_close 44 = .ok (.ifCond .eq 6, 3) := by decide +kernel
theorem dX9_close_47 : decode cX9_close 47 = .ok (.iinc 2 1, 3) := by decide +kernel
theorem dX9_close_50 : decode cX9_close 50 = .ok (.iinc 3 1, 3) := by decide +kernel
theorem dX9_close_53 : decode cX9_close 53 = .ok (.goto (-39), 3) := by decide +kernel
theorem dX9_close_56 : decode cX9_close 56 = .ok (.iload_n 2, 1) := by decide +kernel
theorem dX9_close_57 : decode cX9_close 57 = .ok (.ireturn, 1) := by decide +kernel
theorem dX9_fits_0 : decode cX9_fits 0 = .ok (.aload_n 0, 1) := by decide +kernel
theorem dX9_fits_1 : decode cX9_fits 1 = .ok (.iload_n 1, 1) := by decide +kernel
theorem dX9_fits_2 : decode cX9_fits 2 = .ok (.invokevirtual 89, 3) := by decide +kernel
theorem dX9_fits_5 : decode cX9_fits 5 = .ok (.astore_n 2, 1) := by decide +kernel
theorem dX9_fits_6 : decode cX9_fits 6 = .ok (.aload_n 2, 1) := by decide +kernel
theorem dX9_fits_7 : decode cX9_fits 7 = .ok (.ifnonnull 5, 3) := by decide +kernel
theorem dX9_fits_10 : decode cX9_fits 10 = .ok (.iconst (-1), 1) := by decide +kernel
theorem dX9_fits_11 : decode cX9_fits 11 = .ok (.ireturn, 1) := by decide +kernel
theorem dX9_fits_12 : decode cX9_fits 12 = .ok (.aload_n 2, 1) := by decide +kernel
theorem dX9_fits_13 : decode cX9_fits 13 = .ok (.aload_n 2, 1) := by decide +kernel
theorem dX9_fits_14 : decode cX9_fits 14 = .ok (.invokevirtual 229, 3) := by decide +kernel
theorem dX9_fits_17 : decode cX9_fits 17 = .ok (.ifCond .eq 7, 3) := by decide +kernel
theorem dX9_fits_20 : decode cX9_fits 20 = .ok (.iconst 1, 1) := by decide +kernel
theorem dX9_fits_21 : decode cX9_fits 21 = .ok (.goto 4, 3) := by decide +kernel
theorem dX9_fits_24 : decode cX9_fits 24 = .ok (.iconst 0, 1) := by decide +kernel
theorem dX9_fits_25 : decode cX9_fits 25 = .ok (.ireturn, 1) := by decide +kernel
theorem dX9_changed_0 : decode cX9_changed 0 = .ok (.aload_n 0, 1) := by decide +kernel
theorem dX9_changed_1 : decode cX9_changed 1 = .ok (.iload_n 1, 1) := by decide +kernel
theorem dX9_changed_2 : decode cX9_changed 2 = .ok (.invokevirtual 89, 3) := by decide +kernel
theorem dX9_changed_5 : decode cX9_changed 5 = .ok (.astore_n 3, 1) := by decide +kernel
theorem dX9_changed_6 : decode cX9_changed 6 = .ok (.aload_n 0, 1) := by decide +kernel
theorem dX9_changed_7 : decode cX9_changed 7 = .ok (.iload_n 2, 1) := by decide +kernel
theorem dX9_changed_8 : decode cX9_changed 8 = .ok (.invokevirtual 89, 3) := by decide +kernel
theorem dX9_changed_11 : decode cX9_changed 11 = .ok (.astore 4, 2) := by decide +kernel
theorem dX9_changed_13 : decode cX9_changed 13 = .ok (.aload_n 3, 1) := by decide +kernel
theorem dX9_changed_14 : decode cX9_changed 14 = .ok (.ifnull 13, 3) := by decide +kernel
theorem dX9_changed_17 : decode cX9_changed 17 = .ok (.aload 4, 2) := by decide +kernel
theorem dX9_changed_19 : decode cX9_changed 19 = .ok (.ifnull 8, 3) := by decide +kernel
theorem dX9_changed_22 : decode cX9_changed 22 = .ok (.iload_n 1, 1) := by decide +kernel
theorem dX9_changed_23 : decode cX9_changed 23 = .ok (.iload_n 2, 1) := by decide +kernel
theorem dX9_changed_24 : decode cX9_changed 24 = .ok (.if_icmp .ne 5, 3) := by decide +kernel
theorem dX9_changed_27 : decode cX9_changed 27 = .ok (.iconst (-1), 1) := by decide +kernel
theorem dX9_changed_28 : decode cX9_changed 28 = .ok (.ireturn, 1) := by decide +kernel
theorem dX9_changed_29 : decode cX9_changed 29 = .ok (.aload_n 3, 1) := by decide +kernel
theorem dX9_changed_30 : decode cX9_changed 30 = .ok (.aload_n 3, 1) := by decide +kernel
theorem dX9_changed_31 : decode cX9_changed 31 = .ok (.invokevirtual 229, 3) := by decide +kernel
theorem dX9_changed_34 : decode cX9_changed 34 = .ok (.ifCond .ne 17, 3) := by decide +kernel
theorem dX9_changed_37 : decode cX9_changed 37 = .ok (.aload 4, 2) := by decide +kernel
theorem dX9_changed_39 : decode cX9_changed 39 = .ok (.aload 4, 2) := by decide +kernel
theorem dX9_changed_41 : decode cX9_changed 41 = .ok (.invokevirtual 229, 3) := by decide +kernel
theorem dX9_changed_44 : decode cX9_changed 44 = .ok (.ifCond .ne 7, 3) := by decide +kernel
theorem dX9_changed_47 : decode cX9_changed 47 = .ok (.iconst 1, 1) := by decide +kernel
theorem dX9_changed_48 : decode cX9_changed 48 = .ok (.goto 4, 3) := by decide +kernel
theorem dX9_changed_51 : decode cX9_changed 51 = .ok (.iconst 0, 1) := by decide +kernel
theorem dX9_changed_52 : decode cX9_changed 52 = .ok (.istore 5, 2) := by decide +kernel
theorem dX9_changed_54 : decode cX9_changed 54 = .ok (.iload 5, 2) := by decide +kernel
theorem dX9_changed_56 : decode cX9_changed 56 = .ok (.ifCond .eq 25, 3) := by decide +kernel
theorem dX9_changed_59 : decode cX9_changed 59 = .ok (.aload_n 3, 1) := by decide +kernel
theorem dX9_changed_60 : decode cX9_changed 60 = .ok (.aload 4, 2) := by decide +kernel
theorem dX9_changed_62 : decode cX9_changed 62 = .ok (.invokevirtual 229, 3) := by decide +kernel
theorem dX9_changed_65 : decode cX9_changed 65 = .ok (.ifCond .eq 16, 3) := by decide +kernel
theorem dX9_changed_68 : decode cX9_changed 68 = .ok (.aload 4, 2) := by decide +kernel
theorem dX9_changed_70 : decode cX9_changed 70 = .ok (.aload_n 3, 1) := by decide +kernel
theorem dX9_changed_71 : decode cX9_changed 71 = .ok (.invokevirtual 229, 3) := by decide +kernel
theorem dX9_changed_74 : decode cX9_changed 74 = .ok (.ifCond .eq 7, 3) := by decide +kernel
theorem dX9_changed_77 : decode cX9_changed 77 = .ok (.iconst 1, 1) := by decide +kernel
theorem dX9_changed_78 : decode cX9_changed 78 = .ok (.goto 4, 3) := by decide +kernel
theorem dX9_changed_81 : decode cX9_changed 81 = .ok (.iconst 0, 1) := by decide +kernel
theorem dX9_changed_82 : decode cX9_changed 82 = .ok (.ireturn, 1) := by decide +kernel
theorem dX9_look_0 : decode cX9_look 0 = .ok (.aload_n 0, 1) := by decide +kernel
theorem dX9_look_1 : decode cX9_look 1 = .ok (.iload_n 1, 1) := by decide +kernel
theorem dX9_look_2 : decode cX9_look 2 = .ok (.invokevirtual 89, 3) := by decide +kernel
theorem dX9_look_5 : decode cX9_look 5 = .ok (.astore_n 3, 1) := by decide +kernel
theorem dX9_look_6 : decode cX9_look 6 = .ok (.aload_n 3, 1) := by decide +kernel
theorem dX9_look_7 : decode cX9_look 7 = .ok (.ifnull 13, 3) := by decide +kernel
theorem dX9_look_10 : decode cX9_look 10 = .ok (.iload_n 2, 1) := by decide +kernel
theorem dX9_look_11 : decode cX9_look 11 = .ok (.iconst 0, 1) := by decide +kernel
theorem dX9_look_12 : decode cX9_look 12 = .ok (.bipush 17, 2) := by decide +kernel
theorem dX9_look_14 : decode cX9_look 14 = .ok (.invokestatic 67, 3) := by decide +kernel
theorem dX9_look_17 : decode cX9_look 17 = .ok (.ifCond .ne 13, 3) := by decide +kernel
theorem dX9_look_20 : decode cX9_look 20 = .ok (.new 120, 3) := by decide +kernel
theorem dX9_look_23 : decode cX9_look 23 = .ok (.dup, 1) := by decide +kernel
theorem dX9_look_24 : decode cX9_look 24 = .ok (.ldc 233, 2) := by decide +kernel
theorem dX9_look_26 : decode cX9_look 26 = .ok (.invokespecial 124, 3) := by decide +kernel
theorem dX9_look_29 : decode cX9_look 29 = .ok (.athrow, 1) := by decide +kernel
theorem dX9_look_30 : decode cX9_look 30 = .ok (.iload_n 2, 1) := by decide +kernel
theorem dX9_look_31 : decode cX9_look 31 = .ok (.bipush 10, 2) := by decide +kernel
theorem dX9_look_33 : decode cX9_look 33 = .ok (.if_icmp .lt 13, 3) := by decide +kernel
theorem dX9_look_36 : decode cX9_look 36 = .ok (.aload_n 3, 1) := by decide +kernel
theorem dX9_look_37 : decode cX9_look 37 = .ok (.getfield 235, 3) := by decide +kernel
theorem dX9_look_40 : decode cX9_look 40 = .ok (.iload_n 2, 1) := by decide +kernel
theorem dX9_look_41 : decode cX9_look 41 = .ok (.bipush 10, 2) := by decide +kernel
theorem dX9_look_43 : decode cX9_look 43 = .ok (.isub, 1) := by decide +kernel
theorem dX9_look_44 : decode cX9_look 44 = .ok (.iaload, 1) := by decide +kernel
theorem dX9_look_45 : decode cX9_look 45 = .ok (.ireturn, 1) := by decide +kernel
theorem dX9_look_46 : decode cX9_look 46 = .ok (.iload_n 2, 1) := by decide +kernel
theorem dX9_look_47 : decode cX9_look 47 = .ok (.iconst 4, 1) := by decide +kernel
theorem dX9_look_48 : decode cX9_look 48 = .ok (.if_icmp .gt 11, 3) := by decide +kernel
theorem dX9_look_51 : decode cX9_look 51 = .ok (.aload_n 3, 1) := by decide +kernel
theorem dX9_look_52 : decode cX9_look 52 = .ok (.iload_n 2, 1) := by decide +kernel
theorem dX9_look_53 : decode cX9_look 53 = .ok (.invokestatic 238, 3) := by decide +kernel
theorem dX9_look_56 : decode cX9_look 56 = .ok (.goto 8, 3) := by decide +kernel
theorem dX9_look_59 : decode cX9_look 59 = .ok (.aload_n 3, 1) := by decide +kernel
theorem dX9_look_60 : decode cX9_look 60 = .ok (.iload_n 2, 1) := by decide +kernel
theorem dX9_look_61 : decode cX9_look 61 = .ok (.invokestatic 242, 3) := by decide +kernel
theorem dX9_look_64 : decode cX9_look 64 = .ok (.ireturn, 1) := by decide +kernel
theorem dX9_count_0 : decode cX9_count 0 = .ok (.iload_n 1, 1) := by decide +kernel
theorem dX9_count_1 : decode cX9_count 1 = .ok (.tableswitch 120 0 9 #[55, 60, 65, 70, 78, 86, 94, 99, 107, 115], 55) := by decide +kernel
theorem dX9_count_56 : decode cX9_count 56 = .ok (.aload_n 0, 1) := by decide +kernel
theorem dX9_count_57 : decode cX9_count 57 = .ok (.getfield 79, 3) := by decide +kernel
theorem dX9_count_60 : decode cX9_count 60 = .ok (.ireturn, 1) := by decide +kernel
theorem dX9_count_61 : decode cX9_count 61 = .ok (.aload_n 0, 1) := by decide +kernel
theorem dX9_count_62 : decode cX9_count 62 = .ok (.getfield 71, 3) := by decide +kernel
theorem dX9_count_65 : decode cX9_count 65 = .ok (.ireturn, 1) := by decide +kernel
theorem dX9_count_66 : decode cX9_count 66 = .ok (.aload_n 0, 1) := by decide +kernel
theorem dX9_count_67 : decode cX9_count 67 = .ok (.getfield 131, 3) := by decide +kernel
theorem dX9_count_70 : decode cX9_count 70 = .ok (.ireturn, 1) := by decide +kernel
theorem dX9_count_71 : decode cX9_count 71 = .ok (.aload_n 0, 1) := by decide +kernel
theorem dX9_count_72 : decode cX9_count 72 = .ok (.getfield 24, 3) := by decide +kernel
theorem dX9_count_75 : decode cX9_count 75 = .ok (.getfield 245, 3) := by decide +kernel
theorem dX9_count_78 : decode cX9_count 78 = .ok (.ireturn, 1) := by decide +kernel
theorem dX9_count_79 : decode cX9_count 79 = .ok (.aload_n 0, 1) := by decide +kernel
theorem dX9_count_80 : decode cX9_count 80 = .ok (.getfield 24, 3) := by decide +kernel
theorem dX9_count_83 : decode cX9_count 83 = .ok (.getfield 248, 3) := by decide +kernel
theorem dX9_count_86 : decode cX9_count 86 = .ok (.ireturn, 1) := by decide +kernel
theorem dX9_count_87 : decode cX9_count 87 = .ok (.aload_n 0, 1) := by decide +kernel
theorem dX9_count_88 : decode cX9_count 88 = .ok (.getfield 52, 3) := by decide +kernel
theorem dX9_count_91 : decode cX9_count 91 = .ok (.getfield 251, 3) := by decide +kernel
theorem dX9_count_94 : decode cX9_count 94 = .ok (.ireturn, 1) := by decide +kernel
theorem dX9_count_95 : decode cX9_count 95 = .ok (.aload_n 0, 1) := by decide +kernel
theorem dX9_count_96 : decode cX9_count 96 = .ok (.invokevirtual 252, 3) := by decide +kernel
theorem dX9_count_99 : decode cX9_count 99 = .ok (.ireturn, 1) := by decide +kernel
theorem dX9_count_100 : decode cX9_count 100 = .ok (.aload_n 0, 1) := by decide +kernel
theorem dX9_count_101 : decode cX9_count 101 = .ok (.getfield 63, 3) := by decide +kernel
theorem dX9_count_104 : decode cX9_count 104 = .ok (.getfield 255, 3) := by decide +kernel
theorem dX9_count_107 : decode cX9_count 107 = .ok (.ireturn, 1) := by decide +kernel
theorem dX9_count_108 : decode cX9_count 108 = .ok (.aload_n 0, 1) := by decide +kernel
theorem dX9_count_109 : decode cX9_count 109 = .ok (.getfield 38, 3) := by decide +kernel
theorem dX9_count_112 : decode cX9_count 112 = .ok (.getfield 193, 3) := by decide +kernel
theorem dX9_count_115 : decode cX9_count 115 = .ok (.ireturn, 1) := by decide +kernel
theorem dX9_count_116 : decode cX9_count 116 = .ok (.aload_n 0, 1) := by decide +kernel
theorem dX9_count_117 : decode cX9_count 117 = .ok (.invokevirtual 258, 3) := by decide +kernel
theorem dX9_count_120 : decode cX9_count 120 = .ok (.ireturn, 1) := by decide +kernel
theorem dX9_count_121 : decode cX9_count 121 = .ok (.iconst (-1), 1) := by decide +kernel
theorem dX9_count_122 : decode cX9_count 122 = .ok (.ireturn, 1) := by decide +kernel
theorem dX9_lookAtOrigin_0 : decode cX9_lookAtOrigin 0 = .ok (.iload_n 1, 1) := by decide +kernel
theorem dX9_lookAtOrigin_1 : decode cX9_lookAtOrigin 1 = .ok (.tableswitch 57 0 3 #[31, 36, 44, 52], 31) := by decide +kernel
theorem dX9_lookAtOrigin_32 : decode cX9_lookAtOrigin 32 = .ok (.aload_n 0, 1) := by decide +kernel
theorem dX9_lookAtOrigin_33 : decode cX9_lookAtOrigin 33 = .ok (.getfield 261, 3) := by decide +kernel
theorem dX9_lookAtOrigin_36 : decode cX9_lookAtOrigin 36 = .ok (.ireturn, 1) := by decide +kernel
theorem dX9_lookAtOrigin_37 : decode cX9_lookAtOrigin 37 = .ok (.aload_n 0, 1) := by decide +kernel
theorem dX9_lookAtOrigin_38 : decode cX9_lookAtOrigin 38 = .ok (.getfield 264, 3) := by decide +kernel
theorem dX9_lookAtOrigin_41 : decode cX9_lookAtOrigin 41 = .ok (.invokestatic 268, 3) := by decide +kernel
theorem dX9_lookAtOrigin_44 : decode cX9_lookAtOrigin 44 = .ok (.ireturn, 1) := by decide +kernel
theorem dX9_lookAtOrigin_45 : decode cX9_lookAtOrigin 45 = .ok (.aload_n 0, 1) := by decide +kernel
theorem dX9_lookAtOrigin_46 : decode cX9_lookAtOrigin 46 = .ok (.getfield 271, 3) := by decide +kernel
theorem dX9_lookAtOrigin_49 : decode cX9_lookAtOrigin 49 = .ok (.invokestatic 268, 3) := by decide +kernel
theorem dX9_lookAtOrigin_52 : decode cX9_lookAtOrigin 52 = .ok (.ireturn, 1) := by decide +kernel
theorem dX9_lookAtOrigin_53 : decode cX9_lookAtOrigin 53 = .ok (.aload_n 0, 1) := by decide +kernel
theorem dX9_lookAtOrigin_54 : decode cX9_lookAtOrigin 54 = .ok (.getfield 96, 3) := by decide +kernel
theorem dX9_lookAtOrigin_57 : decode cX9_lookAtOrigin 57 = .ok (.ireturn, 1) := by decide +kernel
theorem dX9_lookAtOrigin_58 : decode cX9_lookAtOrigin 58 = .ok (.aload_n 0, 1) := by decide +kernel
theorem dX9_lookAtOrigin_59 : decode cX9_lookAtOrigin 59 = .ok (.getfield 204, 3) := by decide +kernel
theorem dX9_lookAtOrigin_62 : decode cX9_lookAtOrigin 62 = .ok (.ireturn, 1) := by decide +kernel
theorem dX9_lookAtState_0 : decode cX9_lookAtState 0 = .ok (.iload_n 1, 1) := by decide +kernel
theorem dX9_lookAtState_1 : decode cX9_lookAtState 1 = .ok (.tableswitch 59 5 8 #[31, 36, 49, 54], 31) := by decide +kernel
theorem dX9_lookAtState_32 : decode cX9_lookAtState 32 = .ok (.aload_n 0, 1) := by decide +kernel
theorem dX9_lookAtState_33 : decode cX9_lookAtState 33 = .ok (.getfield 274, 3) := by decide +kernel
theorem dX9_lookAtState_36 : decode cX9_lookAtState 36 = .ok (.ireturn, 1) := by decide +kernel
theorem dX9_lookAtState_37 : decode cX9_lookAtState 37 = .ok (.aload_n 0, 1) := by decide +kernel
theorem dX9_lookAtState_38 : decode cX9_lookAtState 38 = .ok (.getfield 207, 3) := by decide +kernel
theorem dX9_lookAtState_41 : decode cX9_lookAtState 41 = .ok (.ifCond .eq 7, 3) := by decide +kernel
theorem dX9_lookAtState_44 : decode cX9_lookAtState 44 = .ok (.iconst 1, 1) := by decide +kernel
theorem dX9_lookAtState_45 : decode cX9_lookAtState 45 = .ok (.goto 4, 3) := by decide +kernel
theorem dX9_lookAtState_48 : decode cX9_lookAtState 48 = .ok (.iconst 0, 1) := by decide +kernel
theorem dX9_lookAtState_49 : decode cX9_lookAtState 49 = .ok (.ireturn, 1) := by decide +kernel
theorem dX9_lookAtState_50 : decode cX9_lookAtState 50 = .ok (.aload_n 0, 1) := by decide +kernel
theorem dX9_lookAtState_51 : decode cX9_lookAtState 51 = .ok (.getfield 165, 3) := by decide +kernel
theorem dX9_lookAtState_54 : decode cX9_lookAtState 54 = .ok (.ireturn, 1) := by decide +kernel
theorem dX9_lookAtState_55 : decode cX9_lookAtState 55 = .ok (.aload_n 0, 1) := by decide +kernel
theorem dX9_lookAtState_56 : decode cX9_lookAtState 56 = .ok (.getfield 277, 3) := by decide +kernel
theorem dX9_lookAtState_59 : decode cX9_lookAtState 59 = .ok (.ireturn, 1) := by decide +kernel
theorem dX9_lookAtState_60 : decode cX9_lookAtState 60 = .ok (.aload_n 0, 1) := by decide +kernel
theorem dX9_lookAtState_61 : decode cX9_lookAtState 61 = .ok (.getfield 280, 3) := by decide +kernel
theorem dX9_lookAtState_64 : decode cX9_lookAtState 64 = .ok (.ifCond .eq 7, 3) := by decide +kernel
theorem dX9_lookAtState_67 : decode cX9_lookAtState 67 = .ok (.iconst 1, 1) := by decide +kernel
theorem dX9_lookAtState_68 : decode cX9_lookAtState 68 = .ok (.goto 4, 3) := by decide +kernel
theorem dX9_lookAtState_71 : decode cX9_lookAtState 71 = .ok (.iconst 0, 1) := by decide +kernel
theorem dX9_lookAtState_72 : decode cX9_lookAtState 72 = .ok (.ireturn, 1) := by decide +kernel
theorem dX9_numberOf_0 : decode cX9_numberOf 0 = .ok (.aload_n 0, 1) := by decide +kernel
theorem dX9_numberOf_1 : decode cX9_numberOf 1 = .ok (.ifnonnull 7, 3) := by decide +kernel
theorem dX9_numberOf_4 : decode cX9_numberOf 4 = .ok (.iconst (-1), 1) := by decide +kernel
theorem dX9_numberOf_5 : decode cX9_numberOf 5 = .ok (.goto 7, 3) := by decide +kernel
theorem dX9_numberOf_8 : decode cX9_numberOf 8 = .ok (.aload_n 0, 1) := by decide +kernel
theorem dX9_numberOf_9 : decode cX9_numberOf 9 = .ok (.getfield 283, 3) := by decide +kernel
theorem dX9_numberOf_12 : decode cX9_numberOf 12 = .ok (.ireturn, 1) := by decide +kernel
theorem dX9_countDead_0 : decode cX9_countDead 0 = .ok (.iconst 0, 1) := by decide +kernel
theorem dX9_countDead_1 : decode cX9_countDead 1 = .ok (.istore_n 1, 1) := by decide +kernel
theorem dX9_countDead_2 : decode cX9_countDead 2 = .ok (.iconst 0, 1) := by decide +kernel
theorem dX9_countDead_3 : decode cX9_countDead 3 = .ok (.istore_n 2, 1) := by decide +kernel
theorem dX9_countDead_4 : decode cX9_countDead 4 = .ok (.iload_n 2, 1) := by decide +kernel
theorem dX9_countDead_5 : decode cX9_countDead 5 = .ok (.aload_n 0, 1) := by decide +kernel
theorem dX9_countDead_6 : decode cX9_countDead 6 = .ok (.getfield 79, 3) := by decide +kernel
theorem dX9_countDead_9 : decode cX9_countDead 9 = .ok (.if_icmp .ge 24, 3) := by decide +kernel
theorem dX9_countDead_12 : decode cX9_countDead 12 = .ok (.aload_n 0, 1) := by decide +kernel
theorem dX9_countDead_13 : decode cX9_countDead 13 = .ok (.getfield 11, 3) := by decide +kernel
theorem dX9_countDead_16 : decode cX9_countDead 16 = .ok (.iload_n 2, 1) := by decide +kernel
theorem dX9_countDead_17 : decode cX9_countDead 17 = .ok (.aaload, 1) := by decide +kernel
theorem dX9_countDead_18 : decode cX9_countDead 18 = .ok (.getfield 280, 3) := by decide +kernel
theorem dX9_countDead_21 : decode cX9_countDead 21 = .ok (.ifCond .eq 6, 3) := by decide +kernel
theorem dX9_countDead_24 : decode cX9_countDead 24 = .ok (.iinc 1 1, 3) := by decide +kernel
theorem dX9_countDead_27 : decode cX9_countDead 27 = .ok (.iinc 2 1, 3) := by decide +kernel
theorem dX9_countDead_30 : decode cX9_countDead 30 = .ok (.goto (-26), 3) := by decide +kernel
theorem dX9_countDead_33 : decode cX9_countDead 33 = .ok (.iload_n 1, 1) := by decide +kernel
theorem dX9_countDead_34 : decode cX9_countDead 34 = .ok (.ireturn, 1) := by decide +kernel
theorem dX9_countLying_0 : decode cX9_countLying 0 = .ok (.iconst 0, 1) := by decide +kernel
theorem dX9_countLying_1 : decode cX9_countLying 1 = .ok (.istore_n 1, 1) := by decide +kernel
theorem dX9_countLying_2 : decode cX9_countLying 2 = .ok (.iconst 0, 1) := by decide +kernel
theorem dX9_countLying_3 : decode cX9_countLying 3 = .ok (.istore_n 2, 1) := by decide +kernel
theorem dX9_countLying_4 : decode cX9_countLying 4 = .ok (.iload_n 2, 1) := by decide +kernel
theorem dX9_countLying_5 : decode cX9_countLying 5 = .ok (.aload_n 0, 1) := by decide +kernel
theorem dX9_countLying_6 : decode cX9_countLying 6 = .ok (.getfield 79, 3) := by decide +kernel
theorem dX9_countLying_9 : decode cX9_countLying 9 = .ok (.if_icmp .ge 25, 3) := by decide +kernel
theorem dX9_countLying_12 : decode cX9_countLying 12 = .ok (.aload_n 0, 1) := by decide +kernel
theorem dX9_countLying_13 : decode cX9_countLying 13 = .ok (.getfield 11, 3) := by decide +kernel
theorem dX9_countLying_16 : decode cX9_countLying 16 = .ok (.iload_n 2, 1) := by decide +kernel
theorem dX9_countLying_17 : decode cX9_countLying 17 = .ok (.aaload, 1) := by decide +kernel
theorem dX9_countLying_18 : decode cX9_countLying 18 = .ok (.getfield 165, 3) := by decide +kernel
theorem dX9_countLying_21 : decode cX9_countLying 21 = .ok (.iconst (-1), 1) := by decide +kernel
theorem dX9_countLying_22 : decode cX9_countLying 22 = .ok (.if_icmp .eq 6, 3) := by decide +kernel
theorem dX9_countLying_25 : decode cX9_countLying 25 = .ok (.iinc 1 1, 3) := by decide +kernel
theorem dX9_countLying_28 : decode cX9_countLying 28 = .ok (.iinc 2 1, 3) := by decide +kernel
theorem dX9_countLying_31 : decode cX9_countLying 31 = .ok (.goto (-27), 3) := by decide +kernel
theorem dX9_countLying_34 : decode cX9_countLying 34 = .ok (.iload_n 1, 1) := by decide +kernel
theorem dX9_countLying_35 : decode cX9_countLying 35 = .ok (.ireturn, 1) := by decide +kernel
theorem dX9_within_0 : decode cX9_within 0 = .ok (.iload_n 0, 1) := by decide +kernel
theorem dX9_within_1 : decode cX9_within 1 = .ok (.iload_n 1, 1) := by decide +kernel
theorem dX9_within_2 : decode cX9_within 2 = .ok (.if_icmp .lt 12, 3) := by decide +kernel
theorem dX9_within_5 : decode cX9_within 5 = .ok (.iload_n 0, 1) := by decide +kernel
theorem dX9_within_6 : decode cX9_within 6 = .ok (.iload_n 2, 1) := by decide +kernel
theorem dX9_within_7 : decode cX9_within 7 = .ok (.if_icmp .gt 7, 3) := by decide +kernel
theorem dX9_within_10 : decode cX9_within 10 = .ok (.iconst 1, 1) := by decide +kernel
theorem dX9_within_11 : decode cX9_within 11 = .ok (.goto 4, 3) := by decide +kernel
theorem dX9_within_14 : decode cX9_within 14 = .ok (.iconst 0, 1) := by decide +kernel
theorem dX9_within_15 : decode cX9_within 15 = .ok (.ireturn, 1) := by decide +kernel
theorem dX9_isDigit_0 : decode cX9_isDigit 0 = .ok (.iload_n 0, 1) := by decide +kernel
theorem dX9_isDigit_1 : decode cX9_isDigit 1 = .ok (.iconst 0, 1) := by decide +kernel
theorem dX9_isDigit_2 : decode cX9_isDigit 2 = .ok (.bipush 9, 2) := by decide +kernel
theorem dX9_isDigit_4 : decode cX9_isDigit 4 = .ok (.invokestatic 67, 3) := by decide +kernel
theorem dX9_isDigit_7 : decode cX9_isDigit 7 = .ok (.ireturn, 1) := by decide +kernel
theorem dX9_isSpan_0 : decode cX9_isSpan 0 = .ok (.iload_n 0, 1) := by decide +kernel
theorem dX9_isSpan_1 : decode cX9_isSpan 1 = .ok (.invokestatic 99, 3) := by decide +kernel
theorem dX9_isSpan_4 : decode cX9_isSpan 4 = .ok (.ifCond .eq 19, 3) := by decide +kernel
theorem dX9_isSpan_7 : decode cX9_isSpan 7 = .ok (.iload_n 1, 1) := by decide +kernel
theorem dX9_isSpan_8 : decode cX9_isSpan 8 = .ok (.invokestatic 99, 3) := by decide +kernel
theorem dX9_isSpan_11 : decode cX9_isSpan 11 = .ok (.ifCond .eq 12, 3) := by decide +kernel
theorem dX9_isSpan_14 : decode cX9_isSpan 14 = .ok (.iload_n 0, 1) := by decide +kernel
theorem dX9_isSpan_15 : decode cX9_isSpan 15 = .ok (.iload_n 1, 1) := by decide +kernel
theorem dX9_isSpan_16 : decode cX9_isSpan 16 = .ok (.if_icmp .gt 7, 3) := by decide +kernel
theorem dX9_isSpan_19 : decode cX9_isSpan 19 = .ok (.iconst 1, 1) := by decide +kernel
theorem dX9_isSpan_20 : decode cX9_isSpan 20 = .ok (.goto 4, 3) := by decide +kernel
theorem dX9_isSpan_23 : decode cX9_isSpan 23 = .ok (.iconst 0, 1) := by decide +kernel
theorem dX9_isSpan_24 : decode cX9_isSpan 24 = .ok (.ireturn, 1) := by decide +kernel
theorem dX9_plantAt_0 : decode cX9_plantAt 0 = .ok (.iload_n 1, 1) := by decide +kernel
theorem dX9_plantAt_1 : decode cX9_plantAt 1 = .ok (.iconst 0, 1) := by decide +kernel
theorem dX9_plantAt_2 : decode cX9_plantAt 2 = .ok (.aload_n 0, 1) := by decide +kernel
theorem dX9_plantAt_3 : decode cX9_plantAt 3 = .ok (.getfield 79, 3) := by decide +kernel
theorem dX9_plantAt_6 : decode cX9_plantAt 6 = .ok (.iconst 1, 1) := by decide +kernel
theorem dX9_plantAt_7 : decode cX9_plantAt 7 = .ok (.isub, 1) := by decide +kernel
theorem dX9_plantAt_8 : decode cX9_plantAt 8 = .ok (.invokestatic 67, 3) := by decide +kernel
theorem dX9_plantAt_11 : decode cX9_plantAt 11 = .ok (.ifCond .eq 12, 3) := by decide +kernel
theorem dX9_plantAt_14 : decode cX9_plantAt 14 = .ok (.aload_n 0, 1) := by decide +kernel
theorem dX9_plantAt_15 : decode cX9_plantAt 15 = .ok (.getfield 11, 3) := by decide +kernel
theorem dX9_plantAt_18 : decode cX9_plantAt 18 = .ok (.iload_n 1, 1) := by decide +kernel
theorem dX9_plantAt_19 : decode cX9_plantAt 19 = .ok (.aaload, 1) := by decide +kernel
theorem dX9_plantAt_20 : decode cX9_plantAt 20 = .ok (.goto 4, 3) := by decide +kernel
theorem dX9_plantAt_23 : decode cX9_plantAt 23 = .ok (.aconst_null, 1) := by decide +kernel
theorem dX9_plantAt_24 : decode cX9_plantAt 24 = .ok (.areturn, 1) := by decide +kernel
theorem dX9_bedAt_0 : decode cX9_bedAt 0 = .ok (.iload_n 1, 1) := by decide +kernel
theorem dX9_bedAt_1 : decode cX9_bedAt 1 = .ok (.iconst 0, 1) := by decide +kernel
theorem dX9_bedAt_2 : decode cX9_bedAt 2 = .ok (.aload_n 0, 1) := by decide +kernel
theorem dX9_bedAt_3 : decode cX9_bedAt 3 = .ok (.getfield 131, 3) := by decide +kernel
theorem dX9_bedAt_6 : decode cX9_bedAt 6 = .ok (.iconst 1, 1) := by decide +kernel
theorem dX9_bedAt_7 : decode cX9_bedAt 7 = .ok (.isub, 1) := by decide +kernel
theorem dX9_bedAt_8 : decode cX9_bedAt 8 = .ok (.invokestatic 67, 3) := by decide +kernel
theorem dX9_bedAt_11 : decode cX9_bedAt 11 = .ok (.ifCond .eq 12, 3) := by decide +kernel
theorem dX9_bedAt_14 : decode cX9_bedAt 14 = .ok (.aload_n 0, 1) := by decide +kernel
theorem dX9_bedAt_15 : decode cX9_bedAt 15 = .ok (.getfield 17, 3) := by decide +kernel
theorem dX9_bedAt_18 : decode cX9_bedAt 18 = .ok (.iload_n 1, 1) := by decide +kernel
theorem dX9_bedAt_19 : decode cX9_bedAt 19 = .ok (.aaload, 1) := by decide +kernel
theorem dX9_bedAt_20 : decode cX9_bedAt 20 = .ok (.goto 4, 3) := by decide +kernel
theorem dX9_bedAt_23 : decode cX9_bedAt 23 = .ok (.aconst_null, 1) := by decide +kernel
theorem dX9_bedAt_24 : decode cX9_bedAt 24 = .ok (.areturn, 1) := by decide +kernel
theorem dX9_canEnter_0 : decode cX9_canEnter 0 = .ok (.iload_n 1, 1) := by decide +kernel
theorem dX9_canEnter_1 : decode cX9_canEnter 1 = .ok (.iconst 1, 1) := by decide +kernel
theorem dX9_canEnter_2 : decode cX9_canEnter 2 = .ok (.bipush 100, 2) := by decide +kernel
theorem dX9_canEnter_4 : decode cX9_canEnter 4 = .ok (.invokestatic 67, 3) := by decide +kernel
theorem dX9_canEnter_7 : decode cX9_canEnter 7 = .ok (.ifCond .eq 16, 3) := by decide +kernel
theorem dX9_canEnter_10 : decode cX9_canEnter 10 = .ok (.aload_n 0, 1) := by decide +kernel
theorem dX9_canEnter_11 : decode cX9_canEnter 11 = .ok (.getfield 79, 3) := by decide +kernel
theorem dX9_canEnter_14 : decode cX9_canEnter 14 = .ok (.bipush 40, 2) := by decide +kernel
theorem dX9_canEnter_16 : decode cX9_canEnter 16 = .ok (.if_icmp .ge 7, 3) := by decide +kernel
theorem dX9_canEnter_19 : decode cX9_canEnter 19 = .ok (.iconst 1, 1) := by decide +kernel
theorem dX9_canEnter_20 : decode cX9_canEnter 20 = .ok (.goto 4, 3) := by decide +kernel
theorem dX9_canEnter_23 : decode cX9_canEnter 23 = .ok (.iconst 0, 1) := by decide +kernel
theorem dX9_canEnter_24 : decode cX9_canEnter 24 = .ok (.ireturn, 1) := by decide +kernel
theorem dX9_enter_0 : decode cX9_enter 0 = .ok (.aload_n 0, 1) := by decide +kernel
theorem dX9_enter_1 : decode cX9_enter 1 = .ok (.getfield 11, 3) := by decide +kernel
theorem dX9_enter_4 : decode cX9_enter 4 = .ok (.aload_n 0, 1) := by decide +kernel
theorem dX9_enter_5 : decode cX9_enter 5 = .ok (.getfield 79, 3) := by decide +kernel
theorem dX9_enter_8 : decode cX9_enter 8 = .ok (.aload_n 1, 1) := by decide +kernel
theorem dX9_enter_9 : decode cX9_enter 9 = .ok (.aastore, 1) := by decide +kernel
theorem dX9_enter_10 : decode cX9_enter 10 = .ok (.aload_n 0, 1) := by decide +kernel
theorem dX9_enter_11 : decode cX9_enter 11 = .ok (.dup, 1) := by decide +kernel
theorem dX9_enter_12 : decode cX9_enter 12 = .ok (.getfield 79, 3) := by decide +kernel
theorem dX9_enter_15 : decode cX9_enter 15 = .ok (.iconst 1, 1) := by decide +kernel
theorem dX9_enter_16 : decode cX9_enter 16 = .ok (.iadd, 1) := by decide +kernel
theorem dX9_enter_17 : decode cX9_enter 17 = .ok (.putfield 79, 3) := by decide +kernel
theorem dX9_enter_20 : decode cX9_enter 20 = .ok (.aload_n 1, 1) := by decide +kernel
theorem dX9_enter_21 : decode cX9_enter 21 = .ok (.getfield 283, 3) := by decide +kernel
theorem dX9_enter_24 : decode cX9_enter 24 = .ok (.ireturn, 1) := by decide +kernel
theorem dX9_hasPlaceFor_0 : decode cX9_hasPlaceFor 0 = .ok (.aload_n 0, 1) := by decide +kernel
theorem dX9_hasPlaceFor_1 : decode cX9_hasPlaceFor 1 = .ok (.iload_n 2, 1) := by decide +kernel
theorem dX9_hasPlaceFor_2 : decode cX9_hasPlaceFor 2 = .ok (.invokevirtual 135, 3) := by decide +kernel
theorem dX9_hasPlaceFor_5 : decode cX9_hasPlaceFor 5 = .ok (.astore_n 3, 1) := by decide +kernel
theorem dX9_hasPlaceFor_6 : decode cX9_hasPlaceFor 6 = .ok (.aload_n 3, 1) := by decide +kernel
theorem dX9_hasPlaceFor_7 : decode cX9_hasPlaceFor 7 = .ok (.ifnull 11, 3) := by decide +kernel
theorem dX9_hasPlaceFor_10 : decode cX9_hasPlaceFor 10 = .ok (.aload_n 1, 1) := by decide +kernel
theorem dX9_hasPlaceFor_11 : decode cX9_hasPlaceFor 11 = .ok (.aload_n 3, 1) := by decide +kernel
theorem dX9_hasPlaceFor_12 : decode cX9_hasPlaceFor 12 = .ok (.invokevirtual 286, 3) := by decide +kernel
theorem dX9_hasPlaceFor_15 : decode cX9_hasPlaceFor 15 = .ok (.ifCond .ne 5, 3) := by decide +kernel
theorem dX9_hasPlaceFor_18 : decode cX9_hasPlaceFor 18 = .ok (.iconst 0, 1) := by decide +kernel
theorem dX9_hasPlaceFor_19 : decode cX9_hasPlaceFor 19 = .ok (.ireturn, 1) := by decide +kernel
theorem dX9_hasPlaceFor_20 : decode cX9_hasPlaceFor 20 = .ok (.iconst 0, 1) := by decide +kernel
theorem dX9_hasPlaceFor_21 : decode cX9_hasPlaceFor 21 = .ok (.istore 4, 2) := by decide +kernel
theorem dX9_hasPlaceFor_23 : decode cX9_hasPlaceFor 23 = .ok (.iconst 0, 1) := by decide +kernel
theorem dX9_hasPlaceFor_24 : decode cX9_hasPlaceFor 24 = .ok (.istore 5, 2) := by decide +kernel
theorem dX9_hasPlaceFor_26 : decode cX9_hasPlaceFor 26 = .ok (.iload 5, 2) := by decide +kernel
theorem dX9_hasPlaceFor_28 : decode cX9_hasPlaceFor 28 = .ok (.aload_n 0, 1) := by decide +kernel
theorem dX9_hasPlaceFor_29 : decode cX9_hasPlaceFor 29 = .ok (.getfield 79, 3) := by decide +kernel
theorem dX9_hasPlaceFor_32 : decode cX9_hasPlaceFor 32 = .ok (.if_icmp .ge 35, 3) := by decide +kernel
theorem dX9_hasPlaceFor_35 : decode cX9_hasPlaceFor 35 = .ok (.aload_n 0, 1) := by decide +kernel
theorem dX9_hasPlaceFor_36 : decode cX9_hasPlaceFor 36 = .ok (.getfield 11, 3) := by decide +kernel
theorem dX9_hasPlaceFor_39 : decode cX9_hasPlaceFor 39 = .ok (.iload 5, 2) := by decide +kernel
theorem dX9_hasPlaceFor_41 : decode cX9_hasPlaceFor 41 = .ok (.aaload, 1) := by decide +kernel
theorem dX9_hasPlaceFor_42 : decode cX9_hasPlaceFor 42 = .ok (.getfield 165, 3) := by decide +kernel
theorem dX9_hasPlaceFor_45 : decode cX9_hasPlaceFor 45 = .ok (.iload_n 2, 1) := by decide +kernel
theorem dX9_hasPlaceFor_46 : decode cX9_hasPlaceFor 46 = .ok (.if_icmp .ne 15, 3) := by decide +kernel
theorem dX9_hasPlaceFor_49 : decode cX9_hasPlaceFor 49 = .ok (.iload 5, 2) := by decide +kernel
theorem dX9_hasPlaceFor_51 : decode cX9_hasPlaceFor 51 = .ok (.aload_n 1, 1) := by decide +kernel
theorem dX9_hasPlaceFor_52 : decode cX9_hasPlaceFor 52 = .ok (.getfield 283, 3) := by decide +kernel
theorem dX9_hasPlaceFor_55 : decode cX9_hasPlaceFor 55 = .ok (.if_icmp .eq 6, 3) := by decide +kernel
theorem dX9_hasPlaceFor_58 : decode cX9_hasPlaceFor 58 = .ok (.iinc 4 1, 3) := by decide +kernel
theorem dX9_hasPlaceFor_61 : decode cX9_hasPlaceFor 61 = .ok (.iinc 5 1, 3) := by decide +kernel
theorem dX9_hasPlaceFor_64 : decode cX9_hasPlaceFor 64 = .ok (.goto (-38), 3) := by decide +kernel
theorem dX9_hasPlaceFor_67 : decode cX9_hasPlaceFor 67 = .ok (.iload 4, 2) := by decide +kernel
theorem dX9_hasPlaceFor_69 : decode cX9_hasPlaceFor 69 = .ok (.aload_n 3, 1) := by decide +kernel
theorem dX9_hasPlaceFor_70 : decode cX9_hasPlaceFor 70 = .ok (.getfield 174, 3) := by decide +kernel
theorem dX9_hasPlaceFor_73 : decode cX9_hasPlaceFor 73 = .ok (.if_icmp .ge 7, 3) := by decide +kernel
theorem dX9_hasPlaceFor_76 : decode cX9_hasPlaceFor 76 = .ok (.iconst 1, 1) := by decide +kernel
theorem dX9_hasPlaceFor_77 : decode cX9_hasPlaceFor 77 = .ok (.goto 4, 3) := by decide +kernel
theorem dX9_hasPlaceFor_80 : decode cX9_hasPlaceFor 80 = .ok (.iconst 0, 1) := by decide +kernel
theorem dX9_hasPlaceFor_81 : decode cX9_hasPlaceFor 81 = .ok (.ireturn, 1) := by decide +kernel
