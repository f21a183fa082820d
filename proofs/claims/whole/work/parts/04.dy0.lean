theorem dX3_init_0 : decode cX3_init 0 = .ok (.aload_n 0, 1) := by decide +kernel
theorem dX3_init_1 : decode cX3_init 1 = .ok (.invokespecial 3, 3) := by decide +kernel
theorem dX3_init_4 : decode cX3_init 4 = .ok (.aload_n 0, 1) := by decide +kernel
theorem dX3_init_5 : decode cX3_init 5 = .ok (.new 9, 3) := by decide +kernel
theorem dX3_init_8 : decode cX3_init 8 = .ok (.dup, 1) := by decide +kernel
theorem dX3_init_9 : decode cX3_init 9 = .ok (.invokespecial 11, 3) := by decide +kernel
theorem dX3_init_12 : decode cX3_init 12 = .ok (.putfield 12, 3) := by decide +kernel
theorem dX3_init_15 : decode cX3_init 15 = .ok (.aload_n 0, 1) := by decide +kernel
theorem dX3_init_16 : decode cX3_init 16 = .ok (.new 9, 3) := by decide +kernel
theorem dX3_init_19 : decode cX3_init 19 = .ok (.dup, 1) := by decide +kernel
theorem dX3_init_20 : decode cX3_init 20 = .ok (.invokespecial 11, 3) := by decide +kernel
theorem dX3_init_23 : decode cX3_init 23 = .ok (.putfield 16, 3) := by decide +kernel
theorem dX3_init_26 : decode cX3_init 26 = .ok (.aload_n 0, 1) := by decide +kernel
theorem dX3_init_27 : decode cX3_init 27 = .ok (.new 9, 3) := by decide +kernel
theorem dX3_init_30 : decode cX3_init 30 = .ok (.dup, 1) := by decide +kernel
theorem dX3_init_31 : decode cX3_init 31 = .ok (.invokespecial 11, 3) := by decide +kernel
theorem dX3_init_34 : decode cX3_init 34 = .ok (.putfield 19, 3) := by decide +kernel
theorem dX3_init_37 : decode cX3_init 37 = .ok (.aload_n 0, 1) := by decide +kernel
theorem dX3_init_38 : decode cX3_init 38 = .ok (.new 9, 3) := by decide +kernel
theorem dX3_init_41 : decode cX3_init 41 = .ok (.dup, 1) := by decide +kernel
theorem dX3_init_42 : decode cX3_init 42 = .ok (.invokespecial 11, 3) := by decide +kernel
theorem dX3_init_45 : decode cX3_init 45 = .ok (.putfield 22, 3) := by decide +kernel
theorem dX3_init_48 : decode cX3_init 48 = .ok (.aload_n 0, 1) := by decide +kernel
theorem dX3_init_49 : decode cX3_init 49 = .ok (.new 25, 3) := by decide +kernel
theorem dX3_init_52 : decode cX3_init 52 = .ok (.dup, 1) := by decide +kernel
theorem dX3_init_53 : decode cX3_init 53 = .ok (.invokespecial 27, 3) := by decide +kernel
theorem dX3_init_56 : decode cX3_init 56 = .ok (.putfield 28, 3) := by decide +kernel
theorem dX3_init_59 : decode cX3_init 59 = .ok (.aload_n 0, 1) := by decide +kernel
theorem dX3_init_60 : decode cX3_init 60 = .ok (.new 32, 3) := by decide +kernel
theorem dX3_init_63 : decode cX3_init 63 = .ok (.dup, 1) := by decide +kernel
theorem dX3_init_64 : decode cX3_init 64 = .ok (.invokespecial 34, 3) := by decide +kernel
theorem dX3_init_67 : decode cX3_init 67 = .ok (.putfield 35, 3) := by decide +kernel
theorem dX3_init_70 : decode cX3_init 70 = .ok (.aload_n 0, 1) := by decide +kernel
theorem dX3_init_71 : decode cX3_init 71 = .ok (.lconst 0, 1) := by decide +kernel
theorem dX3_init_72 : decode cX3_init 72 = .ok (.putfield 39, 3) := by decide +kernel
theorem dX3_init_75 : decode cX3_init 75 = .ok (.aload_n 0, 1) := by decide +kernel
theorem dX3_init_76 : decode cX3_init 76 = .ok (.lconst 1, 1) := by decide +kernel
theorem dX3_init_77 : decode cX3_init 77 = .ok (.putfield 43, 3) := by decide +kernel
theorem dX3_init_80 : decode cX3_init 80 = .ok (.aload_n 0, 1) := by decide +kernel
theorem dX3_init_81 : decode cX3_init 81 = .ok (.iconst 0, 1) := by decide +kernel
theorem dX3_init_82 : decode cX3_init 82 = .ok (.putfield 46, 3) := by decide +kernel
theorem dX3_init_85 : decode cX3_init 85 = .ok (.aload_n 0, 1) := by decide +kernel
theorem dX3_init_86 : decode cX3_init 86 = .ok (.iconst 0, 1) := by decide +kernel
theorem dX3_init_87 : decode cX3_init 87 = .ok (.putfield 50, 3) := by decide +kernel
theorem dX3_init_90 : decode cX3_init 90 = .ok (.aload_n 0, 1) := by decide +kernel
theorem dX3_init_91 : decode cX3_init 91 = .ok (.iconst 0, 1) := by decide +kernel
theorem dX3_init_92 : decode cX3_init 92 = .ok (.putfield 53, 3) := by decide +kernel
theorem dX3_init_95 : decode cX3_init 95 = .ok (.aload_n 0, 1) := by decide +kernel
theorem dX3_init_96 : decode cX3_init 96 = .ok (.getfield 12, 3) := by decide +kernel
theorem dX3_init_99 : decode cX3_init 99 = .ok (.iconst 0, 1) := by decide +kernel
theorem dX3_init_100 : decode cX3_init 100 = .ok (.invokevirtual 56, 3) := by decide +kernel
theorem dX3_init_103 : decode cX3_init 103 = .ok (.return_, 1) := by decide +kernel
theorem dX3_jar_0 : decode cX3_jar 0 = .ok (.iload_n 1, 1) := by decide +kernel
theorem dX3_jar_1 : decode cX3_jar 1 = .ok (.iconst 0, 1) := by decide +kernel
theorem dX3_jar_2 : decode cX3_jar 2 = .ok (.iconst 5, 1) := by decide +kernel
theorem dX3_jar_3 : decode cX3_jar 3 = .ok (.invokestatic 60, 3) := by decide +kernel
theorem dX3_jar_6 : decode cX3_jar 6 = .ok (.ifCond .ne 10, 3) := by decide +kernel
theorem dX3_jar_9 : decode cX3_jar 9 = .ok (.aload_n 0, 1) := by decide +kernel
theorem dX3_jar_10 : decode cX3_jar 10 = .ok (.bipush (-2), 2) := by decide +kernel
theorem dX3_jar_12 : decode cX3_jar 12 = .ok (.invokevirtual 64, 3) := by decide +kernel
theorem dX3_jar_15 : decode cX3_jar 15 = .ok (.ireturn, 1) := by decide +kernel
theorem dX3_jar_16 : decode cX3_jar 16 = .ok (.aload_n 0, 1) := by decide +kernel
theorem dX3_jar_17 : decode cX3_jar 17 = .ok (.getfield 12, 3) := by decide +kernel
theorem dX3_jar_20 : decode cX3_jar 20 = .ok (.getfield 68, 3) := by decide +kernel
theorem dX3_jar_23 : decode cX3_jar 23 = .ok (.istore_n 2, 1) := by decide +kernel
theorem dX3_jar_24 : decode cX3_jar 24 = .ok (.aload_n 0, 1) := by decide +kernel
theorem dX3_jar_25 : decode cX3_jar 25 = .ok (.getfield 12, 3) := by decide +kernel
theorem dX3_jar_28 : decode cX3_jar 28 = .ok (.iload_n 1, 1) := by decide +kernel
theorem dX3_jar_29 : decode cX3_jar 29 = .ok (.invokevirtual 56, 3) := by decide +kernel
theorem dX3_jar_32 : decode cX3_jar 32 = .ok (.iload_n 2, 1) := by decide +kernel
theorem dX3_jar_33 : decode cX3_jar 33 = .ok (.ireturn, 1) := by decide +kernel
theorem dX3_mood_0 : decode cX3_mood 0 = .ok (.iload_n 1, 1) := by decide +kernel
theorem dX3_mood_1 : decode cX3_mood 1 = .ok (.iconst 0, 1) := by decide +kernel
theorem dX3_mood_2 : decode cX3_mood 2 = .ok (.bipush 99, 2) := by decide +kernel
theorem dX3_mood_4 : decode cX3_mood 4 = .ok (.invokestatic 60, 3) := by decide +kernel
theorem dX3_mood_7 : decode cX3_mood 7 = .ok (.ifCond .eq 13, 3) := by decide +kernel
theorem dX3_mood_10 : decode cX3_mood 10 = .ok (.iload_n 2, 1) := by decide +kernel
theorem dX3_mood_11 : decode cX3_mood 11 = .ok (.iconst 0, 1) := by decide +kernel
theorem dX3_mood_12 : decode cX3_mood 12 = .ok (.bipush 99, 2) := by decide +kernel
theorem dX3_mood_14 : decode cX3_mood 14 = .ok (.invokestatic 60, 3) := by decide +kernel
theorem dX3_mood_17 : decode cX3_mood 17 = .ok (.ifCond .ne 10, 3) := by decide +kernel
theorem dX3_mood_20 : decode cX3_mood 20 = .ok (.aload_n 0, 1) := by decide +kernel
theorem dX3_mood_21 : decode cX3_mood 21 = .ok (.bipush (-2), 2) := by decide +kernel
theorem dX3_mood_23 : decode cX3_mood 23 = .ok (.invokevirtual 64, 3) := by decide +kernel
theorem dX3_mood_26 : decode cX3_mood 26 = .ok (.ireturn, 1) := by decide +kernel
theorem dX3_mood_27 : decode cX3_mood 27 = .ok (.iload_n 1, 1) := by decide +kernel
theorem dX3_mood_28 : decode cX3_mood 28 = .ok (.aload_n 0, 1) := by decide +kernel
theorem dX3_mood_29 : decode cX3_mood 29 = .ok (.getfield 12, 3) := by decide +kernel
theorem dX3_mood_32 : decode cX3_mood 32 = .ok (.getfield 71, 3) := by decide +kernel
theorem dX3_mood_35 : decode cX3_mood 35 = .ok (.if_icmp .lt 10, 3) := by decide +kernel
theorem dX3_mood_38 : decode cX3_mood 38 = .ok (.aload_n 0, 1) := by decide +kernel
theorem dX3_mood_39 : decode cX3_mood 39 = .ok (.bipush (-3), 2) := by decide +kernel
theorem dX3_mood_41 : decode cX3_mood 41 = .ok (.invokevirtual 64, 3) := by decide +kernel
theorem dX3_mood_44 : decode cX3_mood 44 = .ok (.ireturn, 1) := by decide +kernel
theorem dX3_mood_45 : decode cX3_mood 45 = .ok (.aload_n 0, 1) := by decide +kernel
theorem dX3_mood_46 : decode cX3_mood 46 = .ok (.getfield 12, 3) := by decide +kernel
theorem dX3_mood_49 : decode cX3_mood 49 = .ok (.iload_n 1, 1) := by decide +kernel
theorem dX3_mood_50 : decode cX3_mood 50 = .ok (.iload_n 2, 1) := by decide +kernel
theorem dX3_mood_51 : decode cX3_mood 51 = .ok (.invokevirtual 74, 3) := by decide +kernel
theorem dX3_mood_54 : decode cX3_mood 54 = .ok (.iconst 1, 1) := by decide +kernel
theorem dX3_mood_55 : decode cX3_mood 55 = .ok (.ireturn, 1) := by decide +kernel
theorem dX3_bound_0 : decode cX3_bound 0 = .ok (.iload_n 1, 1) := by decide +kernel
theorem dX3_bound_1 : decode cX3_bound 1 = .ok (.iconst 1, 1) := by decide +kernel
theorem dX3_bound_2 : decode cX3_bound 2 = .ok (.bipush 99, 2) := by decide +kernel
theorem dX3_bound_4 : decode cX3_bound 4 = .ok (.invokestatic 60, 3) := by decide +kernel
theorem dX3_bound_7 : decode cX3_bound 7 = .ok (.ifCond .eq 13, 3) := by decide +kernel
theorem dX3_bound_10 : decode cX3_bound 10 = .ok (.iload_n 2, 1) := by decide +kernel
theorem dX3_bound_11 : decode cX3_bound 11 = .ok (.iconst 1, 1) := by decide +kernel
theorem dX3_bound_12 : decode cX3_bound 12 = .ok (.bipush 99, 2) := by decide +kernel
theorem dX3_bound_14 : decode cX3_bound 14 = .ok (.invokestatic 60, 3) := by decide +kernel
theorem dX3_bound_17 : decode cX3_bound 17 = .ok (.ifCond .ne 10, 3) := by decide +kernel
theorem dX3_bound_20 : decode cX3_bound 20 = .ok (.aload_n 0, 1) := by decide +kernel
theorem dX3_bound_21 : decode cX3_bound 21 = .ok (.bipush (-2), 2) := by decide +kernel
theorem dX3_bound_23 : decode cX3_bound 23 = .ok (.invokevirtual 64, 3) := by decide +kernel
theorem dX3_bound_26 : decode cX3_bound 26 = .ok (.ireturn, 1) := by decide +kernel
theorem dX3_bound_27 : decode cX3_bound 27 = .ok (.aload_n 0, 1) := by decide +kernel
theorem dX3_bound_28 : decode cX3_bound 28 = .ok (.getfield 12, 3) := by decide +kernel
theorem dX3_bound_31 : decode cX3_bound 31 = .ok (.getfield 78, 3) := by decide +kernel
theorem dX3_bound_34 : decode cX3_bound 34 = .ok (.invokestatic 81, 3) := by decide +kernel
theorem dX3_bound_37 : decode cX3_bound 37 = .ok (.iload_n 1, 1) := by decide +kernel
theorem dX3_bound_38 : decode cX3_bound 38 = .ok (.if_icmp .lt 10, 3) := by decide +kernel
theorem dX3_bound_41 : decode cX3_bound 41 = .ok (.aload_n 0, 1) := by decide +kernel
theorem dX3_bound_42 : decode cX3_bound 42 = .ok (.bipush (-3), 2) := by decide +kernel
theorem dX3_bound_44 : decode cX3_bound 44 = .ok (.invokevirtual 64, 3) := by decide +kernel
theorem dX3_bound_47 : decode cX3_bound 47 = .ok (.ireturn, 1) := by decide +kernel
theorem dX3_bound_48 : decode cX3_bound 48 = .ok (.aload_n 0, 1) := by decide +kernel
theorem dX3_bound_49 : decode cX3_bound 49 = .ok (.getfield 12, 3) := by decide +kernel
theorem dX3_bound_52 : decode cX3_bound 52 = .ok (.iload_n 1, 1) := by decide +kernel
theorem dX3_bound_53 : decode cX3_bound 53 = .ok (.putfield 71, 3) := by decide +kernel
theorem dX3_bound_56 : decode cX3_bound 56 = .ok (.aload_n 0, 1) := by decide +kernel
theorem dX3_bound_57 : decode cX3_bound 57 = .ok (.getfield 12, 3) := by decide +kernel
theorem dX3_bound_60 : decode cX3_bound 60 = .ok (.iload_n 2, 1) := by decide +kernel
theorem dX3_bound_61 : decode cX3_bound 61 = .ok (.putfield 84, 3) := by decide +kernel
theorem dX3_bound_64 : decode cX3_bound 64 = .ok (.iconst 1, 1) := by decide +kernel
theorem dX3_bound_65 : decode cX3_bound 65 = .ok (.ireturn, 1) := by decide +kernel
theorem dX3_vow_0 : decode cX3_vow 0 = .ok (.iload_n 1, 1) := by decide +kernel
theorem dX3_vow_1 : decode cX3_vow 1 = .ok (.iconst 0, 1) := by decide +kernel
theorem dX3_vow_2 : decode cX3_vow 2 = .ok (.bipush 7, 2) := by decide +kernel
theorem dX3_vow_4 : decode cX3_vow 4 = .ok (.invokestatic 60, 3) := by decide +kernel
theorem dX3_vow_7 : decode cX3_vow 7 = .ok (.ifCond .eq 12, 3) := by decide +kernel
theorem dX3_vow_10 : decode cX3_vow 10 = .ok (.iload_n 2, 1) := by decide +kernel
theorem dX3_vow_11 : decode cX3_vow 11 = .ok (.iconst 0, 1) := by decide +kernel
theorem dX3_vow_12 : decode cX3_vow 12 = .ok (.iconst 4, 1) := by decide +kernel
theorem dX3_vow_13 : decode cX3_vow 13 = .ok (.invokestatic 60, 3) := by decide +kernel
theorem dX3_vow_16 : decode cX3_vow 16 = .ok (.ifCond .ne 10, 3) := by decide +kernel
theorem dX3_vow_19 : decode cX3_vow 19 = .ok (.aload_n 0, 1) := by decide +kernel
theorem dX3_vow_20 : decode cX3_vow 20 = .ok (.bipush (-2), 2) := by decide +kernel
theorem dX3_vow_22 : decode cX3_vow 22 = .ok (.invokevirtual 64, 3) := by decide +kernel
theorem dX3_vow_25 : decode cX3_vow 25 = .ok (.ireturn, 1) := by decide +kernel
theorem dX3_vow_26 : decode cX3_vow 26 = .ok (.aload_n 0, 1) := by decide +kernel
theorem dX3_vow_27 : decode cX3_vow 27 = .ok (.getfield 12, 3) := by decide +kernel
theorem dX3_vow_30 : decode cX3_vow 30 = .ok (.getfield 87, 3) := by decide +kernel
theorem dX3_vow_33 : decode cX3_vow 33 = .ok (.iload_n 1, 1) := by decide +kernel
theorem dX3_vow_34 : decode cX3_vow 34 = .ok (.invokestatic 91, 3) := by decide +kernel
theorem dX3_vow_37 : decode cX3_vow 37 = .ok (.istore_n 3, 1) := by decide +kernel
theorem dX3_vow_38 : decode cX3_vow 38 = .ok (.aload_n 0, 1) := by decide +kernel
theorem dX3_vow_39 : decode cX3_vow 39 = .ok (.getfield 12, 3) := by decide +kernel
theorem dX3_vow_42 : decode cX3_vow 42 = .ok (.getfield 87, 3) := by decide +kernel
theorem dX3_vow_45 : decode cX3_vow 45 = .ok (.iload_n 1, 1) := by decide +kernel
theorem dX3_vow_46 : decode cX3_vow 46 = .ok (.iload_n 2, 1) := by decide +kernel
theorem dX3_vow_47 : decode cX3_vow 47 = .ok (.invokestatic 95, 3) := by decide +kernel
theorem dX3_vow_50 : decode cX3_vow 50 = .ok (.iload_n 3, 1) := by decide +kernel
theorem dX3_vow_51 : decode cX3_vow 51 = .ok (.ireturn, 1) := by decide +kernel
theorem dX3_type_0 : decode cX3_type 0 = .ok (.iload_n 1, 1) := by decide +kernel
theorem dX3_type_1 : decode cX3_type 1 = .ok (.iconst 0, 1) := by decide +kernel
theorem dX3_type_2 : decode cX3_type 2 = .ok (.bipush 127, 2) := by decide +kernel
theorem dX3_type_4 : decode cX3_type 4 = .ok (.invokestatic 60, 3) := by decide +kernel
theorem dX3_type_7 : decode cX3_type 7 = .ok (.ifCond .ne 10, 3) := by decide +kernel
theorem dX3_type_10 : decode cX3_type 10 = .ok (.aload_n 0, 1) := by decide +kernel
theorem dX3_type_11 : decode cX3_type 11 = .ok (.bipush (-2), 2) := by decide +kernel
theorem dX3_type_13 : decode cX3_type 13 = .ok (.invokevirtual 64, 3) := by decide +kernel
theorem dX3_type_16 : decode cX3_type 16 = .ok (.ireturn, 1) := by decide +kernel
theorem dX3_type_17 : decode cX3_type 17 = .ok (.aload_n 0, 1) := by decide +kernel
theorem dX3_type_18 : decode cX3_type 18 = .ok (.getfield 28, 3) := by decide +kernel
theorem dX3_type_21 : decode cX3_type 21 = .ok (.getfield 99, 3) := by decide +kernel
theorem dX3_type_24 : decode cX3_type 24 = .ok (.sipush 150, 3) := by decide +kernel
theorem dX3_type_27 : decode cX3_type 27 = .ok (.if_icmp .lt 10, 3) := by decide +kernel
theorem dX3_type_30 : decode cX3_type 30 = .ok (.aload_n 0, 1) := by decide +kernel
theorem dX3_type_31 : decode cX3_type 31 = .ok (.bipush (-4), 2) := by decide +kernel
theorem dX3_type_33 : decode cX3_type 33 = .ok (.invokevirtual 64, 3) := by decide +kernel
theorem dX3_type_36 : decode cX3_type 36 = .ok (.ireturn, 1) := by decide +kernel
theorem dX3_type_37 : decode cX3_type 37 = .ok (.aload_n 0, 1) := by decide +kernel
theorem dX3_type_38 : decode cX3_type 38 = .ok (.getfield 28, 3) := by decide +kernel
theorem dX3_type_41 : decode cX3_type 41 = .ok (.getfield 102, 3) := by decide +kernel
theorem dX3_type_44 : decode cX3_type 44 = .ok (.aload_n 0, 1) := by decide +kernel
theorem dX3_type_45 : decode cX3_type 45 = .ok (.getfield 28, 3) := by decide +kernel
theorem dX3_type_48 : decode cX3_type 48 = .ok (.getfield 99, 3) := by decide +kernel
theorem dX3_type_51 : decode cX3_type 51 = .ok (.iload_n 1, 1) := by decide +kernel
theorem dX3_type_52 : decode cX3_type 52 = .ok (.invokestatic 95, 3) := by decide +kernel
theorem dX3_type_55 : decode cX3_type 55 = .ok (.aload_n 0, 1) := by decide +kernel
theorem dX3_type_56 : decode cX3_type 56 = .ok (.getfield 28, 3) := by decide +kernel
theorem dX3_type_59 : decode cX3_type 59 = .ok (.dup, 1) := by decide +kernel
theorem dX3_type_60 : decode cX3_type 60 = .ok (.getfield 99, 3) := by decide +kernel
theorem dX3_type_63 : decode cX3_type 63 = .ok (.iconst 1, 1) := by decide +kernel
theorem dX3_type_64 : decode cX3_type 64 = .ok (.iadd, 1) := by decide +kernel
theorem dX3_type_65 : decode cX3_type 65 = .ok (.putfield 99, 3) := by decide +kernel
theorem dX3_type_68 : decode cX3_type 68 = .ok (.aload_n 0, 1) := by decide +kernel
theorem dX3_type_69 : decode cX3_type 69 = .ok (.getfield 28, 3) := by decide +kernel
theorem dX3_type_72 : decode cX3_type 72 = .ok (.getfield 99, 3) := by decide +kernel
theorem dX3_type_75 : decode cX3_type 75 = .ok (.ireturn, 1) := by decide +kernel
theorem dX3_clear_0 : decode cX3_clear 0 = .ok (.aload_n 0, 1) := by decide +kernel
theorem dX3_clear_1 : decode cX3_clear 1 = .ok (.getfield 28, 3) := by decide +kernel
theorem dX3_clear_4 : decode cX3_clear 4 = .ok (.getfield 99, 3) := by decide +kernel
theorem dX3_clear_7 : decode cX3_clear 7 = .ok (.istore_n 1, 1) := by decide +kernel
theorem dX3_clear_8 : decode cX3_clear 8 = .ok (.aload_n 0, 1) := by decide +kernel
theorem dX3_clear_9 : decode cX3_clear 9 = .ok (.getfield 28, 3) := by decide +kernel
theorem dX3_clear_12 : decode cX3_clear 12 = .ok (.iconst 0, 1) := by decide +kernel
theorem dX3_clear_13 : decode cX3_clear 13 = .ok (.putfield 99, 3) := by decide +kernel
theorem dX3_clear_16 : decode cX3_clear 16 = .ok (.iload_n 1, 1) := by decide +kernel
theorem dX3_clear_17 : decode cX3_clear 17 = .ok (.ireturn, 1) := by decide +kernel
theorem dX3_read_0 : decode cX3_read 0 = .ok (.aload_n 0, 1) := by decide +kernel
theorem dX3_read_1 : decode cX3_read 1 = .ok (.getfield 28, 3) := by decide +kernel
theorem dX3_read_4 : decode cX3_read 4 = .ok (.aload_n 0, 1) := by decide +kernel
theorem dX3_read_5 : decode cX3_read 5 = .ok (.getfield 16, 3) := by decide +kernel
theorem dX3_read_8 : decode cX3_read 8 = .ok (.invokestatic 105, 3) := by decide +kernel
theorem dX3_read_11 : decode cX3_read 11 = .ok (.istore_n 1, 1) := by decide +kernel
theorem dX3_read_12 : decode cX3_read 12 = .ok (.iload_n 1, 1) := by decide +kernel
theorem dX3_read_13 : decode cX3_read 13 = .ok (.iconst (-1), 1) := by decide +kernel
theorem dX3_read_14 : decode cX3_read 14 = .ok (.if_icmp .ne 14, 3) := by decide +kernel
theorem dX3_read_17 : decode cX3_read 17 = .ok (.bipush (-10), 2) := by decide +kernel
theorem dX3_read_19 : decode cX3_read 19 = .ok (.aload_n 0, 1) := by decide +kernel
theorem dX3_read_20 : decode cX3_read 20 = .ok (.getfield 28, 3) := by decide +kernel
theorem dX3_read_23 : decode cX3_read 23 = .ok (.getfield 109, 3) := by decide +kernel
theorem dX3_read_26 : decode cX3_read 26 = .ok (.isub, 1) := by decide +kernel
theorem dX3_read_27 : decode cX3_read 27 = .ok (.ireturn, 1) := by decide +kernel
theorem dX3_read_28 : decode cX3_read 28 = .ok (.aload_n 0, 1) := by decide +kernel
theorem dX3_read_29 : decode cX3_read 29 = .ok (.getfield 12, 3) := by decide +kernel
theorem dX3_read_32 : decode cX3_read 32 = .ok (.aload_n 0, 1) := by decide +kernel
theorem dX3_read_33 : decode cX3_read 33 = .ok (.getfield 16, 3) := by decide +kernel
theorem dX3_read_36 : decode cX3_read 36 = .ok (.invokevirtual 112, 3) := by decide +kernel
theorem dX3_read_39 : decode cX3_read 39 = .ok (.iload_n 1, 1) := by decide +kernel
theorem dX3_read_40 : decode cX3_read 40 = .ok (.ireturn, 1) := by decide +kernel
theorem dX3_say_0 : decode cX3_say 0 = .ok (.iload_n 1, 1) := by decide +kernel
theorem dX3_say_1 : decode cX3_say 1 = .ok (.invokestatic 116, 3) := by decide +kernel
theorem dX3_say_4 : decode cX3_say 4 = .ok (.ifCond .ne 10, 3) := by decide +kernel
theorem dX3_say_7 : decode cX3_say 7 = .ok (.aload_n 0, 1) := by decide +kernel
theorem dX3_say_8 : decode cX3_say 8 = .ok (.bipush (-2), 2) := by decide +kernel
theorem dX3_say_10 : decode cX3_say 10 = .ok (.invokevirtual 64, 3) := by decide +kernel
theorem dX3_say_13 : decode cX3_say 13 = .ok (.ireturn, 1) := by decide +kernel
theorem dX3_say_14 : decode cX3_say 14 = .ok (.aload_n 0, 1) := by decide +kernel
theorem dX3_say_15 : decode cX3_say 15 = .ok (.getfield 12, 3) := by decide +kernel
theorem dX3_say_18 : decode cX3_say 18 = .ok (.getfield 78, 3) := by decide +kernel
theorem dX3_say_21 : decode cX3_say 21 = .ok (.invokestatic 120, 3) := by decide +kernel
theorem dX3_say_24 : decode cX3_say 24 = .ok (.ifCond .eq 10, 3) := by decide +kernel
theorem dX3_say_27 : decode cX3_say 27 = .ok (.aload_n 0, 1) := by decide +kernel
theorem dX3_say_28 : decode cX3_say 28 = .ok (.bipush (-3), 2) := by decide +kernel
theorem dX3_say_30 : decode cX3_say 30 = .ok (.invokevirtual 64, 3) := by decide +kernel
theorem dX3_say_33 : decode cX3_say 33 = .ok (.ireturn, 1) := by decide +kernel
theorem dX3_say_34 : decode cX3_say 34 = .ok (.aload_n 0, 1) := by decide +kernel
theorem dX3_say_35 : decode cX3_say 35 = .ok (.getfield 12, 3) := by decide +kernel
theorem dX3_say_38 : decode cX3_say 38 = .ok (.invokevirtual 123, 3) := by decide +kernel
theorem dX3_say_41 : decode cX3_say 41 = .ok (.aload_n 0, 1) := by decide +kernel
theorem dX3_say_42 : decode cX3_say 42 = .ok (.getfield 12, 3) := by decide +kernel
theorem dX3_say_45 : decode cX3_say 45 = .ok (.iload_n 1, 1) := by decide +kernel
theorem dX3_say_46 : decode cX3_say 46 = .ok (.invokevirtual 126, 3) := by decide +kernel
theorem dX3_say_49 : decode cX3_say 49 = .ok (.aload_n 0, 1) := by decide +kernel
theorem dX3_say_50 : decode cX3_say 50 = .ok (.getfield 12, 3) := by decide +kernel
theorem dX3_say_53 : decode cX3_say 53 = .ok (.getfield 78, 3) := by decide +kernel
theorem dX3_say_56 : decode cX3_say 56 = .ok (.invokestatic 120, 3) := by decide +kernel
theorem dX3_say_59 : decode cX3_say 59 = .ok (.ireturn, 1) := by decide +kernel
theorem dX3_open_0 : decode cX3_open 0 = .ok (.aload_n 0, 1) := by decide +kernel
theorem dX3_open_1 : decode cX3_open 1 = .ok (.getfield 12, 3) := by decide +kernel
theorem dX3_open_4 : decode cX3_open 4 = .ok (.getfield 78, 3) := by decide +kernel
theorem dX3_open_7 : decode cX3_open 7 = .ok (.invokestatic 120, 3) := by decide +kernel
theorem dX3_open_10 : decode cX3_open 10 = .ok (.iconst 1, 1) := by decide +kernel
theorem dX3_open_11 : decode cX3_open 11 = .ok (.if_icmp .eq 10, 3) := by decide +kernel
theorem dX3_open_14 : decode cX3_open 14 = .ok (.aload_n 0, 1) := by decide +kernel
theorem dX3_open_15 : decode cX3_open 15 = .ok (.bipush (-3), 2) := by decide +kernel
theorem dX3_open_17 : decode cX3_open 17 = .ok (.invokevirtual 64, 3) := by decide +kernel
theorem dX3_open_20 : decode cX3_open 20 = .ok (.ireturn, 1) := by decide +kernel
theorem dX3_open_21 : decode cX3_open 21 = .ok (.aload_n 0, 1) := by decide +kernel
theorem dX3_open_22 : decode cX3_open 22 = .ok (.getfield 12, 3) := by decide +kernel
theorem dX3_open_25 : decode cX3_open 25 = .ok (.getfield 78, 3) := by decide +kernel
theorem dX3_open_28 : decode cX3_open 28 = .ok (.invokestatic 129, 3) := by decide +kernel
theorem dX3_open_31 : decode cX3_open 31 = .ok (.istore_n 1, 1) := by decide +kernel
theorem dX3_open_32 : decode cX3_open 32 = .ok (.aload_n 0, 1) := by decide +kernel
theorem dX3_open_33 : decode cX3_open 33 = .ok (.getfield 12, 3) := by decide +kernel
theorem dX3_open_36 : decode cX3_open 36 = .ok (.invokevirtual 123, 3) := by decide +kernel
theorem dX3_open_39 : decode cX3_open 39 = .ok (.aload_n 0, 1) := by decide +kernel
theorem dX3_open_40 : decode cX3_open 40 = .ok (.getfield 12, 3) := by decide +kernel
theorem dX3_open_43 : decode cX3_open 43 = .ok (.aload_n 0, 1) := by decide +kernel
theorem dX3_open_44 : decode cX3_open 44 = .ok (.getfield 12, 3) := by decide +kernel
theorem dX3_open_47 : decode cX3_open 47 = .ok (.getfield 78, 3) := by decide +kernel
theorem dX3_open_50 : decode cX3_open 50 = .ok (.invokestatic 81, 3) := by decide +kernel
theorem dX3_open_53 : decode cX3_open 53 = .ok (.iconst 0, 1) := by decide +kernel
theorem dX3_open_54 : decode cX3_open 54 = .ok (.iconst 0, 1) := by decide +kernel
theorem dX3_open_55 : decode cX3_open 55 = .ok (.invokestatic 132, 3) := by decide +kernel
theorem dX3_open_58 : decode cX3_open 58 = .ok (.putfield 78, 3) := by decide +kernel
theorem dX3_open_61 : decode cX3_open 61 = .ok (.iload_n 1, 1) := by decide +kernel
theorem dX3_open_62 : decode cX3_open 62 = .ok (.ireturn, 1) := by decide +kernel
theorem dX3_undo_0 : decode cX3_undo 0 = .ok (.aload_n 0, 1) := by decide +kernel
theorem dX3_undo_1 : decode cX3_undo 1 = .ok (.getfield 12, 3) := by decide +kernel
theorem dX3_undo_4 : decode cX3_undo 4 = .ok (.getfield 135, 3) := by decide +kernel
theorem dX3_undo_7 : decode cX3_undo 7 = .ok (.iconst 1, 1) := by decide +kernel
theorem dX3_undo_8 : decode cX3_undo 8 = .ok (.if_icmp .ge 10, 3) := by decide +kernel
theorem dX3_undo_11 : decode cX3_undo 11 = .ok (.aload_n 0, 1) := by decide +kernel
theorem dX3_undo_12 : decode cX3_undo 12 = .ok (.bipush (-3), 2) := by decide +kernel
theorem dX3_undo_14 : decode cX3_undo 14 = .ok (.invokevirtual 64, 3) := by decide +kernel
theorem dX3_undo_17 : decode cX3_undo 17 = .ok (.ireturn, 1) := by decide +kernel
theorem dX3_undo_18 : decode cX3_undo 18 = .ok (.aload_n 0, 1) := by decide +kernel
theorem dX3_undo_19 : decode cX3_undo 19 = .ok (.getfield 12, 3) := by decide +kernel
theorem dX3_undo_22 : decode cX3_undo 22 = .ok (.invokevirtual 138, 3) := by decide +kernel
theorem dX3_undo_25 : decode cX3_undo 25 = .ok (.aload_n 0, 1) := by decide +kernel
theorem dX3_undo_26 : decode cX3_undo 26 = .ok (.getfield 12, 3) := by decide +kernel
theorem dX3_undo_29 : decode cX3_undo 29 = .ok (.getfield 68, 3) := by decide +kernel
theorem dX3_undo_32 : decode cX3_undo 32 = .ok (.ireturn, 1) := by decide +kernel
theorem dX3_now_0 : decode cX3_now 0 = .ok (.iload_n 1, 1) := by decide +kernel
theorem dX3_now_1 : decode cX3_now 1 = .ok (.tableswitch 108 0 6 #[43, 51, 62, 73, 81, 89, 97], 43) := by decide +kernel
theorem dX3_now_44 : decode cX3_now 44 = .ok (.aload_n 0, 1) := by decide +kernel
theorem dX3_now_45 : decode cX3_now 45 = .ok (.getfield 12, 3) := by decide +kernel
theorem dX3_now_48 : decode cX3_now 48 = .ok (.getfield 141, 3) := by decide +kernel
theorem dX3_now_51 : decode cX3_now 51 = .ok (.ireturn, 1) := by decide +kernel
theorem dX3_now_52 : decode cX3_now 52 = .ok (.aload_n 0, 1) := by decide +kernel
theorem dX3_now_53 : decode cX3_now 53 = .ok (.getfield 12, 3) := by decide +kernel
theorem dX3_now_56 : decode cX3_now 56 = .ok (.getfield 78, 3) := by decide +kernel
theorem dX3_now_59 : decode cX3_now 59 = .ok (.invokestatic 81, 3) := by decide +kernel
theorem dX3_now_62 : decode cX3_now 62 = .ok (.ireturn, 1) := by decide +kernel
theorem dX3_now_63 : decode cX3_now 63 = .ok (.aload_n 0, 1) := by decide +kernel
theorem dX3_now_64 : decode cX3_now 64 = .ok (.getfield 12, 3) := by decide +kernel
theorem dX3_now_67 : decode cX3_now 67 = .ok (.getfield 78, 3) := by decide +kernel
theorem dX3_now_70 : decode cX3_now 70 = .ok (.invokestatic 129, 3) := by decide +kernel
theorem dX3_now_73 : decode cX3_now 73 = .ok (.ireturn, 1) := by decide +kernel
theorem dX3_now_74 : decode cX3_now 74 = .ok (.aload_n 0, 1) := by decide +kernel
theorem dX3_now_75 : decode cX3_now 75 = .ok (.getfield 12, 3) := by decide +kernel
theorem dX3_now_78 : decode cX3_now 78 = .ok (.getfield 71, 3) := by decide +kernel
theorem dX3_now_81 : decode cX3_now 81 = .ok (.ireturn, 1) := by decide +kernel
theorem dX3_now_82 : decode cX3_now 82 = .ok (.aload_n 0, 1) := by decide +kernel
theorem dX3_now_83 : decode cX3_now 83 = .ok (.getfield 12, 3) := by decide +kernel
theorem dX3_now_86 : decode cX3_now 86 = .ok (.getfield 84, 3) := by decide +kernel
theorem dX3_now_89 : decode cX3_now 89 = .ok (.ireturn, 1) := by decide +kernel
theorem dX3_now_90 : decode cX3_now 90 = .ok (.aload_n 0, 1) := by decide +kernel
theorem dX3_now_91 : decode cX3_now 91 = .ok (.getfield 12, 3) := by decide +kernel
theorem dX3_now_94 : decode cX3_now 94 = .ok (.getfield 68, 3) := by decide +kernel
theorem dX3_now_97 : decode cX3_now 97 = .ok (.ireturn, 1) := by decide +kernel
theorem dX3_now_98 : decode cX3_now 98 = .ok (.aload_n 0, 1) := by decide +kernel
theorem dX3_now_99 : decode cX3_now 99 = .ok (.getfield 12, 3) := by decide +kernel
theorem dX3_now_102 : decode cX3_now 102 = .ok (.getfield 78, 3) := by decide +kernel
theorem dX3_now_105 : decode cX3_now 105 = .ok (.invokestatic 120, 3) := by decide +kernel
theorem dX3_now_108 : decode cX3_now 108 = .ok (.ireturn, 1) := by decide +kernel
theorem dX3_now_109 : decode cX3_now 109 = .ok (.aload_n 0, 1) := by decide +kernel
theorem dX3_now_110 : decode cX3_now 110 = .ok (.bipush (-2), 2) := by decide +kernel
theorem dX3_now_112 : decode cX3_now 112 = .ok (.invokevirtual 64, 3) := by decide +kernel
theorem dX3_now_115 : decode cX3_now 115 = .ok (.ireturn, 1) := by decide +kernel
theorem dX3_moves_0 : decode cX3_moves 0 = .ok (.iload_n 1, 1) := by decide +kernel
theorem dX3_moves_1 : decode cX3_moves 1 = .ok (.invokestatic 116, 3) := by decide +kernel
theorem dX3_moves_4 : decode cX3_moves 4 = .ok (.ifCond .eq 12, 3) := by decide +kernel
theorem dX3_moves_7 : decode cX3_moves 7 = .ok (.iload_n 2, 1) := by decide +kernel
theorem dX3_moves_8 : decode cX3_moves 8 = .ok (.iconst 0, 1) := by decide +kernel
theorem dX3_moves_9 : decode cX3_moves 9 = .ok (.iconst 1, 1) := by decide +kernel
theorem dX3_moves_10 : decode cX3_moves 10 = .ok (.invokestatic 60, 3) := by decide +kernel
theorem dX3_moves_13 : decode cX3_moves 13 = .ok (.ifCond .ne 10, 3) := by decide +kernel
theorem dX3_moves_16 : decode cX3_moves 16 = .ok (.aload_n 0, 1) := by decide +kernel
theorem dX3_moves_17 : decode cX3_moves 17 = .ok (.bipush (-100), 2) := by decide +kernel
theorem dX3_moves_19 : decode cX3_moves 19 = .ok (.invokevirtual 144, 3) := by decide +kernel
theorem dX3_moves_22 : decode cX3_moves 22 = .ok (.ireturn, 1) := by decide +kernel
theorem dX3_moves_23 : decode cX3_moves 23 = .ok (.iload_n 2, 1) := by decide +kernel
theorem dX3_moves_24 : decode cX3_moves 24 = .ok (.ifCond .ne 24, 3) := by decide +kernel
theorem dX3_moves_27 : decode cX3_moves 27 = .ok (.aload_n 0, 1) := by decide +kernel
theorem dX3_moves_28 : decode cX3_moves 28 = .ok (.getfield 12, 3) := by decide +kernel
theorem dX3_moves_31 : decode cX3_moves 31 = .ok (.getfield 141, 3) := by decide +kernel
theorem dX3_moves_34 : decode cX3_moves 34 = .ok (.iload_n 1, 1) := by decide +kernel
theorem dX3_moves_35 : decode cX3_moves 35 = .ok (.aload_n 0, 1) := by decide +kernel
theorem dX3_moves_36 : decode cX3_moves 36 = .ok (.getfield 12, 3) := by decide +kernel
theorem dX3_moves_39 : decode cX3_moves 39 = .ok (.getfield 68, 3) := by decide +kernel
theorem dX3_moves_42 : decode cX3_moves 42 = .ok (.invokestatic 147, 3) := by decide +kernel
theorem dX3_moves_45 : decode cX3_moves 45 = .ok (.goto 21, 3) := by decide +kernel
theorem dX3_moves_48 : decode cX3_moves 48 = .ok (.aload_n 0, 1) := by decide +kernel
theorem dX3_moves_49 : decode cX3_moves 49 = .ok (.getfield 12, 3) := by decide +kernel
theorem dX3_moves_52 : decode cX3_moves 52 = .ok (.getfield 141, 3) := by decide +kernel
theorem dX3_moves_55 : decode cX3_moves 55 = .ok (.iload_n 1, 1) := by decide +kernel
theorem dX3_moves_56 : decode cX3_moves 56 = .ok (.aload_n 0, 1) := by decide +kernel
theorem dX3_moves_57 : decode cX3_moves 57 = .ok (.getfield 12, 3) := by decide +kernel
theorem dX3_moves_60 : decode cX3_moves 60 = .ok (.getfield 68, 3) := by decide +kernel
theorem dX3_moves_63 : decode cX3_moves 63 = .ok (.invokestatic 150, 3) := by decide +kernel
theorem dX3_moves_66 : decode cX3_moves 66 = .ok (.ireturn, 1) := by decide +kernel
theorem dX3_words_0 : decode cX3_words 0 = .ok (.aload_n 0, 1) := by decide +kernel
theorem dX3_words_1 : decode cX3_words 1 = .ok (.getfield 35, 3) := by decide +kernel
theorem dX3_words_4 : decode cX3_words 4 = .ok (.iload_n 1, 1) := by decide +kernel
theorem dX3_words_5 : decode cX3_words 5 = .ok (.bipush 9, 2) := by decide +kernel
theorem dX3_words_7 : decode cX3_words 7 = .ok (.invokevirtual 153, 3) := by decide +kernel
theorem dX3_words_10 : decode cX3_words 10 = .ok (.istore_n 3, 1) := by decide +kernel
theorem dX3_words_11 : decode cX3_words 11 = .ok (.iload_n 3, 1) := by decide +kernel
theorem dX3_words_12 : decode cX3_words 12 = .ok (.iconst (-1), 1) := by decide +kernel
theorem dX3_words_13 : decode cX3_words 13 = .ok (.if_icmp .eq 12, 3) := by decide +kernel
theorem dX3_words_16 : decode cX3_words 16 = .ok (.iload_n 2, 1) := by decide +kernel
theorem dX3_words_17 : decode cX3_words 17 = .ok (.iconst 0, 1) := by decide +kernel
theorem dX3_words_18 : decode cX3_words 18 = .ok (.iconst 3, 1) := by decide +kernel
theorem dX3_words_19 : decode cX3_words 19 = .ok (.invokestatic 60, 3) := by decide +kernel
theorem dX3_words_22 : decode cX3_words 22 = .ok (.ifCond .ne 10, 3) := by decide +kernel
theorem dX3_words_25 : decode cX3_words 25 = .ok (.aload_n 0, 1) := by decide +kernel
theorem dX3_words_26 : decode cX3_words 26 = .ok (.bipush (-2), 2) := by decide +kernel
theorem dX3_words_28 : decode cX3_words 28 = .ok (.invokevirtual 64, 3) := by decide +kernel
theorem dX3_words_31 : decode cX3_words 31 = .ok (.ireturn, 1) := by decide +kernel
theorem dX3_words_32 : decode cX3_words 32 = .ok (.aload_n 0, 1) := by decide +kernel
theorem dX3_words_33 : decode cX3_words 33 = .ok (.getfield 12, 3) := by decide +kernel
theorem dX3_words_36 : decode cX3_words 36 = .ok (.getfield 78, 3) := by decide +kernel
theorem dX3_words_39 : decode cX3_words 39 = .ok (.istore 4, 2) := by decide +kernel
theorem dX3_words_41 : decode cX3_words 41 = .ok (.iconst 0, 1) := by decide +kernel
theorem dX3_words_42 : decode cX3_words 42 = .ok (.istore 5, 2) := by decide +kernel
theorem dX3_words_44 : decode cX3_words 44 = .ok (.iconst 0, 1) := by decide +kernel
theorem dX3_words_45 : decode cX3_words 45 = .ok (.istore 6, 2) := by decide +kernel
theorem dX3_words_47 : decode cX3_words 47 = .ok (.iload 6, 2) := by decide +kernel
theorem dX3_words_49 : decode cX3_words 49 = .ok (.iload_n 3, 1) := by decide +kernel
theorem dX3_words_50 : decode cX3_words 50 = .ok (.if_icmp .ge 53, 3) := by decide +kernel
theorem dX3_words_53 : decode cX3_words 53 = .ok (.iload 4, 2) := by decide +kernel
theorem dX3_words_55 : decode cX3_words 55 = .ok (.invokestatic 120, 3) := by decide +kernel
theorem dX3_words_58 : decode cX3_words 58 = .ok (.ifCond .ne 45, 3) := by decide +kernel
theorem dX3_words_61 : decode cX3_words 61 = .ok (.aload_n 0, 1) := by decide +kernel
theorem dX3_words_62 : decode cX3_words 62 = .ok (.getfield 12, 3) := by decide +kernel
theorem dX3_words_65 : decode cX3_words 65 = .ok (.iload 4, 2) := by decide +kernel
theorem dX3_words_67 : decode cX3_words 67 = .ok (.aload_n 0, 1) := by decide +kernel
theorem dX3_words_68 : decode cX3_words 68 = .ok (.getfield 12, 3) := by decide +kernel
theorem dX3_words_71 : decode cX3_words 71 = .ok (.getfield 68, 3) := by decide +kernel
theorem dX3_words_74 : decode cX3_words 74 = .ok (.iload 6, 2) := by decide +kernel
theorem dX3_words_76 : decode cX3_words 76 = .ok (.iadd, 1) := by decide +kernel
theorem dX3_words_77 : decode cX3_words 77 = .ok (.aload_n 0, 1) := by decide +kernel
theorem dX3_words_78 : decode cX3_words 78 = .ok (.getfield 35, 3) := by decide +kernel
theorem dX3_words_81 : decode cX3_words 81 = .ok (.getfield 157, 3) := by decide +kernel
theorem dX3_words_84 : decode cX3_words 84 = .ok (.iload 6, 2) := by decide +kernel
theorem dX3_words_86 : decode cX3_words 86 = .ok (.invokestatic 91, 3) := by decide +kernel
theorem dX3_words_89 : decode cX3_words 89 = .ok (.invokevirtual 160, 3) := by decide +kernel
theorem dX3_words_92 : decode cX3_words 92 = .ok (.istore 4, 2) := by decide +kernel
theorem dX3_words_94 : decode cX3_words 94 = .ok (.iinc 5 1, 3) := by decide +kernel
theorem dX3_words_97 : decode cX3_words 97 = .ok (.iinc 6 1, 3) := by decide +kernel
theorem dX3_words_100 : decode cX3_words 100 = .ok (.goto (-53), 3) := by decide +kernel
theorem dX3_words_103 : decode cX3_words 103 = .ok (.iload_n 2, 1) := by decide +kernel
theorem dX3_words_104 : decode cX3_words 104 = .ok (.tableswitch 46 0 2 #[28, 34, 40], 28) := by decide +kernel
theorem dX3_words_132 : decode cX3_words 132 = .ok (.iload 4, 2) := by decide +kernel
theorem dX3_words_134 : decode cX3_words 134 = .ok (.invokestatic 81, 3) := by decide +kernel
theorem dX3_words_137 : decode cX3_words 137 = .ok (.ireturn, 1) := by decide +kernel
theorem dX3_words_138 : decode cX3_words 138 = .ok (.iload 4, 2) := by decide +kernel
theorem dX3_words_140 : decode cX3_words 140 = .ok (.invokestatic 129, 3) := by decide +kernel
theorem dX3_words_143 : decode cX3_words 143 = .ok (.ireturn, 1) := by decide +kernel
theorem dX3_words_144 : decode cX3_words 144 = .ok (.iload 4, 2) := by decide +kernel
theorem dX3_words_146 : decode cX3_words 146 = .ok (.invokestatic 120, 3) := by decide +kernel
theorem dX3_words_149 : decode cX3_words 149 = .ok (.ireturn, 1) := by decide +kernel
theorem dX3_words_150 : decode cX3_words 150 = .ok (.iload 5, 2) := by decide +kernel
theorem dX3_words_152 : decode cX3_words 152 = .ok (.ireturn, 1) := by decide +kernel
theorem dX3_fewest_0 : decode cX3_fewest 0 = .ok (.iload_n 1, 1) := by decide +kernel
theorem dX3_fewest_1 : decode cX3_fewest 1 = .ok (.iconst (-1), 1) := by decide +kernel
theorem dX3_fewest_2 : decode cX3_fewest 2 = .ok (.if_icmp .ge 10, 3) := by decide +kernel
theorem dX3_fewest_5 : decode cX3_fewest 5 = .ok (.aload_n 0, 1) := by decide +kernel
theorem dX3_fewest_6 : decode cX3_fewest 6 = .ok (.bipush (-10), 2) := by decide +kernel
theorem dX3_fewest_8 : decode cX3_fewest 8 = .ok (.invokevirtual 144, 3) := by decide +kernel
theorem dX3_fewest_11 : decode cX3_fewest 11 = .ok (.ireturn, 1) := by decide +kernel
theorem dX3_fewest_12 : decode cX3_fewest 12 = .ok (.aload_n 0, 1) := by decide +kernel
theorem dX3_fewest_13 : decode cX3_fewest 13 = .ok (.getfield 35, 3) := by decide +kernel
theorem dX3_fewest_16 : decode cX3_fewest 16 = .ok (.aload_n 0, 1) := by decide +kernel
theorem dX3_fewest_17 : decode cX3_fewest 17 = .ok (.getfield 12, 3) := by decide +kernel
theorem dX3_fewest_20 : decode cX3_fewest 20 = .ok (.invokevirtual 163, 3) := by decide +kernel
theorem dX3_fewest_23 : decode cX3_fewest 23 = .ok (.istore_n 2, 1) := by decide +kernel
theorem dX3_fewest_24 : decode cX3_fewest 24 = .ok (.iload_n 2, 1) := by decide +kernel
theorem dX3_fewest_25 : decode cX3_fewest 25 = .ok (.iconst (-1), 1) := by decide +kernel
theorem dX3_fewest_26 : decode cX3_fewest 26 = .ok (.if_icmp .ne 7, 3) := by decide +kernel
theorem dX3_fewest_29 : decode cX3_fewest 29 = .ok (.iconst (-1), 1) := by decide +kernel
theorem dX3_fewest_30 : decode cX3_fewest 30 = .ok (.goto 9, 3) := by decide +kernel
theorem dX3_fewest_33 : decode cX3_fewest 33 = .ok (.aload_n 0, 1) := by decide +kernel
theorem dX3_fewest_34 : decode cX3_fewest 34 = .ok (.iload_n 2, 1) := by decide +kernel
theorem dX3_fewest_35 : decode cX3_fewest 35 = .ok (.iload_n 1, 1) := by decide +kernel
theorem dX3_fewest_36 : decode cX3_fewest 36 = .ok (.invokevirtual 167, 3) := by decide +kernel
theorem dX3_fewest_39 : decode cX3_fewest 39 = .ok (.ireturn, 1) := by decide +kernel
theorem dX3_delay_0 : decode cX3_delay 0 = .ok (.iload_n 1, 1) := by decide +kernel
theorem dX3_delay_1 : decode cX3_delay 1 = .ok (.iconst 0, 1) := by decide +kernel
theorem dX3_delay_2 : decode cX3_delay 2 = .ok (.iconst 1, 1) := by decide +kernel
theorem dX3_delay_3 : decode cX3_delay 3 = .ok (.invokestatic 60, 3) := by decide +kernel
theorem dX3_delay_6 : decode cX3_delay 6 = .ok (.ifCond .eq 8, 3) := by decide +kernel
theorem dX3_delay_9 : decode cX3_delay 9 = .ok (.iload_n 2, 1) := by decide +kernel
theorem dX3_delay_10 : decode cX3_delay 10 = .ok (.iconst (-1), 1) := by decide +kernel
theorem dX3_delay_11 : decode cX3_delay 11 = .ok (.if_icmp .ge 10, 3) := by decide +kernel
theorem dX3_delay_14 : decode cX3_delay 14 = .ok (.aload_n 0, 1) := by decide +kernel
theorem dX3_delay_15 : decode cX3_delay 15 = .ok (.bipush (-10), 2) := by decide +kernel
theorem dX3_delay_17 : decode cX3_delay 17 = .ok (.invokevirtual 144, 3) := by decide +kernel
theorem dX3_delay_20 : decode cX3_delay 20 = .ok (.ireturn, 1) := by decide +kernel
theorem dX3_delay_21 : decode cX3_delay 21 = .ok (.aload_n 0, 1) := by decide +kernel
theorem dX3_delay_22 : decode cX3_delay 22 = .ok (.aload_n 0, 1) := by decide +kernel
theorem dX3_delay_23 : decode cX3_delay 23 = .ok (.getfield 35, 3) := by decide +kernel
theorem dX3_delay_26 : decode cX3_delay 26 = .ok (.aload_n 0, 1) := by decide +kernel
theorem dX3_delay_27 : decode cX3_delay 27 = .ok (.getfield 12, 3) := by decide +kernel
theorem dX3_delay_30 : decode cX3_delay 30 = .ok (.iload_n 1, 1) := by decide +kernel
theorem dX3_delay_31 : decode cX3_delay 31 = .ok (.iconst 1, 1) := by decide +kernel
theorem dX3_delay_32 : decode cX3_delay 32 = .ok (.if_icmp .ne 7, 3) := by decide +kernel
theorem dX3_delay_35 : decode cX3_delay 35 = .ok (.iconst 1, 1) := by decide +kernel
theorem dX3_delay_36 : decode cX3_delay 36 = .ok (.goto 4, 3) := by decide +kernel
theorem dX3_delay_39 : decode cX3_delay 39 = .ok (.iconst 0, 1) := by decide +kernel
theorem dX3_delay_40 : decode cX3_delay 40 = .ok (.invokevirtual 170, 3) := by decide +kernel
theorem dX3_delay_43 : decode cX3_delay 43 = .ok (.iload_n 2, 1) := by decide +kernel
theorem dX3_delay_44 : decode cX3_delay 44 = .ok (.invokevirtual 167, 3) := by decide +kernel
theorem dX3_delay_47 : decode cX3_delay 47 = .ok (.ireturn, 1) := by decide +kernel
theorem dX3_strikes_0 : decode cX3_strikes 0 = .ok (.iload_n 1, 1) := by decide +kernel
theorem dX3_strikes_1 : decode cX3_strikes 1 = .ok (.invokestatic 116, 3) := by decide +kernel
theorem dX3_strikes_4 : decode cX3_strikes 4 = .ok (.ifCond .ne 10, 3) := by decide +kernel
theorem dX3_strikes_7 : decode cX3_strikes 7 = .ok (.aload_n 0, 1) := by decide +kernel
theorem dX3_strikes_8 : decode cX3_strikes 8 = .ok (.bipush (-2), 2) := by decide +kernel
theorem dX3_strikes_10 : decode cX3_strikes 10 = .ok (.invokevirtual 64, 3) := by decide +kernel
theorem dX3_strikes_13 : decode cX3_strikes 13 = .ok (.ireturn, 1) := by decide +kernel
theorem dX3_strikes_14 : decode cX3_strikes 14 = .ok (.aload_n 0, 1) := by decide +kernel
theorem dX3_strikes_15 : decode cX3_strikes 15 = .ok (.getfield 12, 3) := by decide +kernel
theorem dX3_strikes_18 : decode cX3_strikes 18 = .ok (.getfield 78, 3) := by decide +kernel
theorem dX3_strikes_21 : decode cX3_strikes 21 = .ok (.istore_n 2, 1) := by decide +kernel
theorem dX3_strikes_22 : decode cX3_strikes 22 = .ok (.iconst 0, 1) := by decide +kernel
theorem dX3_strikes_23 : decode cX3_strikes 23 = .ok (.istore_n 3, 1) := by decide +kernel
theorem dX3_strikes_24 : decode cX3_strikes 24 = .ok (.iload_n 3, 1) := by decide +kernel
theorem dX3_strikes_25 : decode cX3_strikes 25 = .ok (.bipush 60, 2) := by decide +kernel
theorem dX3_strikes_27 : decode cX3_strikes 27 = .ok (.if_icmp .ge 47, 3) := by decide +kernel
theorem dX3_strikes_30 : decode cX3_strikes 30 = .ok (.iload_n 2, 1) := by decide +kernel
theorem dX3_strikes_31 : decode cX3_strikes 31 = .ok (.invokestatic 120, 3) := by decide +kernel
theorem dX3_strikes_34 : decode cX3_strikes 34 = .ok (.ifCond .ne 40, 3) := by decide +kernel
theorem dX3_strikes_37 : decode cX3_strikes 37 = .ok (.aload_n 0, 1) := by decide +kernel
theorem dX3_strikes_38 : decode cX3_strikes 38 = .ok (.getfield 12, 3) := by decide +kernel
theorem dX3_strikes_41 : decode cX3_strikes 41 = .ok (.iload_n 2, 1) := by decide +kernel
theorem dX3_strikes_42 : decode cX3_strikes 42 = .ok (.aload_n 0, 1) := by decide +kernel
theorem dX3_strikes_43 : decode cX3_strikes 43 = .ok (.getfield 12, 3) := by decide +kernel
theorem dX3_strikes_46 : decode cX3_strikes 46 = .ok (.getfield 68, 3) := by decide +kernel
theorem dX3_strikes_49 : decode cX3_strikes 49 = .ok (.iload_n 3, 1) := by decide +kernel
theorem dX3_strikes_50 : decode cX3_strikes 50 = .ok (.iadd, 1) := by decide +kernel
theorem dX3_strikes_51 : decode cX3_strikes 51 = .ok (.iload_n 1, 1) := by decide +kernel
theorem dX3_strikes_52 : decode cX3_strikes 52 = .ok (.invokevirtual 160, 3) := by decide +kernel
theorem dX3_strikes_55 : decode cX3_strikes 55 = .ok (.istore_n 2, 1) := by decide +kernel
theorem dX3_strikes_56 : decode cX3_strikes 56 = .ok (.iload_n 2, 1) := by decide +kernel
theorem dX3_strikes_57 : decode cX3_strikes 57 = .ok (.invokestatic 120, 3) := by decide +kernel
theorem dX3_strikes_60 : decode cX3_strikes 60 = .ok (.iconst 2, 1) := by decide +kernel
theorem dX3_strikes_61 : decode cX3_strikes 61 = .ok (.if_icmp .ne 7, 3) := by decide +kernel
theorem dX3_strikes_64 : decode cX3_strikes 64 = .ok (.iload_n 3, 1) := by decide +kernel
theorem dX3_strikes_65 : decode cX3_strikes 65 = .ok (.iconst 1, 1) := by decide +kernel
theorem dX3_strikes_66 : decode cX3_strikes 66 = .ok (.iadd, 1) := by decide +kernel
theorem dX3_strikes_67 : decode cX3_strikes 67 = .ok (.ireturn, 1) := by decide +kernel
theorem dX3_strikes_68 : decode cX3_strikes 68 = .ok (.iinc 3 1, 3) := by decide +kernel
theorem dX3_strikes_71 : decode cX3_strikes 71 = .ok (.goto (-47), 3) := by decide +kernel
theorem dX3_strikes_74 : decode cX3_strikes 74 = .ok (.iconst (-1), 1) := by decide +kernel
theorem dX3_strikes_75 : decode cX3_strikes 75 = .ok (.ireturn, 1) := by decide +kernel
theorem dX3_since_0 : decode cX3_since 0 = .ok (.iload_n 1, 1) := by decide +kernel
theorem dX3_since_1 : decode cX3_since 1 = .ok (.iconst 0, 1) := by decide +kernel
theorem dX3_since_2 : decode cX3_since 2 = .ok (.iconst 4, 1) := by decide +kernel
theorem dX3_since_3 : decode cX3_since 3 = .ok (.invokestatic 60, 3) := by decide +kernel
theorem dX3_since_6 : decode cX3_since 6 = .ok (.ifCond .ne 10, 3) := by decide +kernel
theorem dX3_since_9 : decode cX3_since 9 = .ok (.aload_n 0, 1) := by decide +kernel
theorem dX3_since_10 : decode cX3_since 10 = .ok (.bipush (-2), 2) := by decide +kernel
theorem dX3_since_12 : decode cX3_since 12 = .ok (.invokevirtual 64, 3) := by decide +kernel
theorem dX3_since_15 : decode cX3_since 15 = .ok (.ireturn, 1) := by decide +kernel
theorem dX3_since_16 : decode cX3_since 16 = .ok (.iconst 0, 1) := by decide +kernel
theorem dX3_since_17 : decode cX3_since 17 = .ok (.istore_n 2, 1) := by decide +kernel
theorem dX3_since_18 : decode cX3_since 18 = .ok (.iconst 0, 1) := by decide +kernel
theorem dX3_since_19 : decode cX3_since 19 = .ok (.istore_n 3, 1) := by decide +kernel
theorem dX3_since_20 : decode cX3_since 20 = .ok (.iload_n 3, 1) := by decide +kernel
theorem dX3_since_21 : decode cX3_since 21 = .ok (.bipush 8, 2) := by decide +kernel
theorem dX3_since_23 : decode cX3_since 23 = .ok (.if_icmp .ge 30, 3) := by decide +kernel
theorem dX3_since_26 : decode cX3_since 26 = .ok (.aload_n 0, 1) := by decide +kernel
theorem dX3_since_27 : decode cX3_since 27 = .ok (.getfield 12, 3) := by decide +kernel
theorem dX3_since_30 : decode cX3_since 30 = .ok (.getfield 87, 3) := by decide +kernel
theorem dX3_since_33 : decode cX3_since 33 = .ok (.iload_n 3, 1) := by decide +kernel
theorem dX3_since_34 : decode cX3_since 34 = .ok (.invokestatic 91, 3) := by decide +kernel
theorem dX3_since_37 : decode cX3_since 37 = .ok (.iload_n 1, 1) := by decide +kernel
theorem dX3_since_38 : decode cX3_since 38 = .ok (.if_icmp .ne 9, 3) := by decide +kernel
theorem dX3_since_41 : decode cX3_since 41 = .ok (.iload_n 2, 1) := by decide +kernel
theorem dX3_since_42 : decode cX3_since 42 = .ok (.iconst 1, 1) := by decide +kernel
theorem dX3_since_43 : decode cX3_since 43 = .ok (.iload_n 3, 1) := by decide +kernel
theorem dX3_since_44 : decode cX3_since 44 = .ok (.ishl, 1) := by decide +kernel
theorem dX3_since_45 : decode cX3_since 45 = .ok (.ior, 1) := by decide +kernel
theorem dX3_since_46 : decode cX3_since 46 = .ok (.istore_n 2, 1) := by decide +kernel
theorem dX3_since_47 : decode cX3_since 47 = .ok (.iinc 3 1, 3) := by decide +kernel
theorem dX3_since_50 : decode cX3_since 50 = .ok (.goto (-30), 3) := by decide +kernel
theorem dX3_since_53 : decode cX3_since 53 = .ok (.iload_n 2, 1) := by decide +kernel
theorem dX3_since_54 : decode cX3_since 54 = .ok (.ireturn, 1) := by decide +kernel
theorem dX3_cast_0 : decode cX3_cast 0 = .ok (.iload_n 1, 1) := by decide +kernel
theorem dX3_cast_1 : decode cX3_cast 1 = .ok (.iconst 0, 1) := by decide +kernel
theorem dX3_cast_2 : decode cX3_cast 2 = .ok (.iconst 4, 1) := by decide +kernel
theorem dX3_cast_3 : decode cX3_cast 3 = .ok (.invokestatic 60, 3) := by decide +kernel
theorem dX3_cast_6 : decode cX3_cast 6 = .ok (.ifCond .ne 10, 3) := by decide +kernel
theorem dX3_cast_9 : decode cX3_cast 9 = .ok (.aload_n 0, 1) := by decide +kernel
theorem dX3_cast_10 : decode cX3_cast 10 = .ok (.bipush (-2), 2) := by decide +kernel
theorem dX3_cast_12 : decode cX3_cast 12 = .ok (.invokevirtual 64, 3) := by decide +kernel
theorem dX3_cast_15 : decode cX3_cast 15 = .ok (.ireturn, 1) := by decide +kernel
theorem dX3_cast_16 : decode cX3_cast 16 = .ok (.bipush 8, 2) := by decide +kernel
theorem dX3_cast_18 : decode cX3_cast 18 = .ok (.istore_n 2, 1) := by decide +kernel
theorem dX3_cast_19 : decode cX3_cast 19 = .ok (.bipush 7, 2) := by decide +kernel
theorem dX3_cast_21 : decode cX3_cast 21 = .ok (.istore_n 3, 1) := by decide +kernel
theorem dX3_cast_22 : decode cX3_cast 22 = .ok (.iload_n 3, 1) := by decide +kernel
theorem dX3_cast_23 : decode cX3_cast 23 = .ok (.ifCond .lt 26, 3) := by decide +kernel
theorem dX3_cast_26 : decode cX3_cast 26 = .ok (.aload_n 0, 1) := by decide +kernel
theorem dX3_cast_27 : decode cX3_cast 27 = .ok (.getfield 12, 3) := by decide +kernel
theorem dX3_cast_30 : decode cX3_cast 30 = .ok (.getfield 87, 3) := by decide +kernel
theorem dX3_cast_33 : decode cX3_cast 33 = .ok (.iload_n 3, 1) := by decide +kernel
theorem dX3_cast_34 : decode cX3_cast 34 = .ok (.invokestatic 91, 3) := by decide +kernel
theorem dX3_cast_37 : decode cX3_cast 37 = .ok (.iload_n 1, 1) := by decide +kernel
theorem dX3_cast_38 : decode cX3_cast 38 = .ok (.if_icmp .lt 11, 3) := by decide +kernel
theorem dX3_cast_41 : decode cX3_cast 41 = .ok (.iload_n 3, 1) := by decide +kernel
theorem dX3_cast_42 : decode cX3_cast 42 = .ok (.istore_n 2, 1) := by decide +kernel
theorem dX3_cast_43 : decode cX3_cast 43 = .ok (.iinc 3 (-1), 3) := by decide +kernel
theorem dX3_cast_46 : decode cX3_cast 46 = .ok (.goto (-24), 3) := by decide +kernel
theorem dX3_cast_49 : decode cX3_cast 49 = .ok (.iload_n 2, 1) := by decide +kernel
theorem dX3_cast_50 : decode cX3_cast 50 = .ok (.bipush 8, 2) := by decide +kernel
theorem dX3_cast_52 : decode cX3_cast 52 = .ok (.if_icmp .ne 7, 3) := by decide +kernel
theorem dX3_cast_55 : decode cX3_cast 55 = .ok (.iconst (-1), 1) := by decide +kernel
theorem dX3_cast_56 : decode cX3_cast 56 = .ok (.goto 4, 3) := by decide +kernel
theorem dX3_cast_59 : decode cX3_cast 59 = .ok (.iload_n 2, 1) := by decide +kernel
theorem dX3_cast_60 : decode cX3_cast 60 = .ok (.ireturn, 1) := by decide +kernel
theorem dX3_reward_0 : decode cX3_reward 0 = .ok (.iload_n 1, 1) := by decide +kernel
theorem dX3_reward_1 : decode cX3_reward 1 = .ok (.iconst 0, 1) := by decide +kernel
theorem dX3_reward_2 : decode cX3_reward 2 = .ok (.bipush 7, 2) := by decide +kernel
theorem dX3_reward_4 : decode cX3_reward 4 = .ok (.invokestatic 60, 3) := by decide +kernel
theorem dX3_reward_7 : decode cX3_reward 7 = .ok (.ifCond .ne 10, 3) := by decide +kernel
theorem dX3_reward_10 : decode cX3_reward 10 = .ok (.aload_n 0, 1) := by decide +kernel
theorem dX3_reward_11 : decode cX3_reward 11 = .ok (.bipush (-2), 2) := by decide +kernel
theorem dX3_reward_13 : decode cX3_reward 13 = .ok (.invokevirtual 64, 3) := by decide +kernel
theorem dX3_reward_16 : decode cX3_reward 16 = .ok (.ireturn, 1) := by decide +kernel
theorem dX3_reward_17 : decode cX3_reward 17 = .ok (.iconst 0, 1) := by decide +kernel
theorem dX3_reward_18 : decode cX3_reward 18 = .ok (.istore_n 2, 1) := by decide +kernel
theorem dX3_reward_19 : decode cX3_reward 19 = .ok (.iload_n 1, 1) := by decide +kernel
theorem dX3_reward_20 : decode cX3_reward 20 = .ok (.istore_n 3, 1) := by decide +kernel
theorem dX3_reward_21 : decode cX3_reward 21 = .ok (.iload_n 3, 1) := by decide +kernel
theorem dX3_reward_22 : decode cX3_reward 22 = .ok (.bipush 8, 2) := by decide +kernel
theorem dX3_reward_24 : decode cX3_reward 24 = .ok (.if_icmp .ge 38, 3) := by decide +kernel
theorem dX3_reward_27 : decode cX3_reward 27 = .ok (.aload_n 0, 1) := by decide +kernel
theorem dX3_reward_28 : decode cX3_reward 28 = .ok (.getfield 12, 3) := by decide +kernel
theorem dX3_reward_31 : decode cX3_reward 31 = .ok (.getfield 87, 3) := by decide +kernel
theorem dX3_reward_34 : decode cX3_reward 34 = .ok (.iload_n 3, 1) := by decide +kernel
theorem dX3_reward_35 : decode cX3_reward 35 = .ok (.invokestatic 91, 3) := by decide +kernel
theorem dX3_reward_38 : decode cX3_reward 38 = .ok (.istore 4, 2) := by decide +kernel
theorem dX3_reward_40 : decode cX3_reward 40 = .ok (.iload_n 2, 1) := by decide +kernel
theorem dX3_reward_41 : decode cX3_reward 41 = .ok (.iload 4, 2) := by decide +kernel
theorem dX3_reward_43 : decode cX3_reward 43 = .ok (.iconst 4, 1) := by decide +kernel
theorem dX3_reward_44 : decode cX3_reward 44 = .ok (.if_icmp .ne 8, 3) := by decide +kernel
theorem dX3_reward_47 : decode cX3_reward 47 = .ok (.bipush (-4), 2) := by decide +kernel
theorem dX3_reward_49 : decode cX3_reward 49 = .ok (.goto 5, 3) := by decide +kernel
theorem dX3_reward_52 : decode cX3_reward 52 = .ok (.iload 4, 2) := by decide +kernel
theorem dX3_reward_54 : decode cX3_reward 54 = .ok (.iadd, 1) := by decide +kernel
theorem dX3_reward_55 : decode cX3_reward 55 = .ok (.istore_n 2, 1) := by decide +kernel
theorem dX3_reward_56 : decode cX3_reward 56 = .ok (.iinc 3 1, 3) := by decide +kernel
theorem dX3_reward_59 : decode cX3_reward 59 = .ok (.goto (-38), 3) := by decide +kernel
theorem dX3_reward_62 : decode cX3_reward 62 = .ok (.aload_n 0, 1) := by decide +kernel
theorem dX3_reward_63 : decode cX3_reward 63 = .ok (.iload_n 2, 1) := by decide +kernel
theorem dX3_reward_64 : decode cX3_reward 64 = .ok (.i2l, 1) := by decide +kernel
theorem dX3_reward_65 : decode cX3_reward 65 = .ok (.bipush 8, 2) := by decide +kernel
theorem dX3_reward_67 : decode cX3_reward 67 = .ok (.iload_n 1, 1) := by decide +kernel
theorem dX3_reward_68 : decode cX3_reward 68 = .ok (.isub, 1) := by decide +kernel
theorem dX3_reward_69 : decode cX3_reward 69 = .ok (.i2l, 1) := by decide +kernel
theorem dX3_reward_70 : decode cX3_reward 70 = .ok (.invokevirtual 174, 3) := by decide +kernel
theorem dX3_reward_73 : decode cX3_reward 73 = .ok (.iconst 1, 1) := by decide +kernel
theorem dX3_reward_74 : decode cX3_reward 74 = .ok (.ireturn, 1) := by decide +kernel
theorem dX3_note_0 : decode cX3_note 0 = .ok (.iload_n 1, 1) := by decide +kernel
theorem dX3_note_1 : decode cX3_note 1 = .ok (.invokestatic 116, 3) := by decide +kernel
theorem dX3_note_4 : decode cX3_note 4 = .ok (.ifCond .eq 13, 3) := by decide +kernel
theorem dX3_note_7 : decode cX3_note 7 = .ok (.iload_n 2, 1) := by decide +kernel
theorem dX3_note_8 : decode cX3_note 8 = .ok (.iconst 0, 1) := by decide +kernel
theorem dX3_note_9 : decode cX3_note 9 = .ok (.bipush 99, 2) := by decide +kernel
theorem dX3_note_11 : decode cX3_note 11 = .ok (.invokestatic 60, 3) := by decide +kernel
theorem dX3_note_14 : decode cX3_note 14 = .ok (.ifCond .ne 10, 3) := by decide +kernel
theorem dX3_note_17 : decode cX3_note 17 = .ok (.aload_n 0, 1) := by decide +kernel
theorem dX3_note_18 : decode cX3_note 18 = .ok (.bipush (-2), 2) := by decide +kernel
theorem dX3_note_20 : decode cX3_note 20 = .ok (.invokevirtual 64, 3) := by decide +kernel
theorem dX3_note_23 : decode cX3_note 23 = .ok (.ireturn, 1) := by decide +kernel
theorem dX3_note_24 : decode cX3_note 24 = .ok (.iload_n 3, 1) := by decide +kernel
theorem dX3_note_25 : decode cX3_note 25 = .ok (.bipush (-20), 2) := by decide +kernel
theorem dX3_note_27 : decode cX3_note 27 = .ok (.bipush 20, 2) := by decide +kernel
theorem dX3_note_29 : decode cX3_note 29 = .ok (.invokestatic 60, 3) := by decide +kernel
theorem dX3_note_32 : decode cX3_note 32 = .ok (.ifCond .eq 15, 3) := by decide +kernel
theorem dX3_note_35 : decode cX3_note 35 = .ok (.iload 4, 2) := by decide +kernel
theorem dX3_note_37 : decode cX3_note 37 = .ok (.bipush (-20), 2) := by decide +kernel
theorem dX3_note_39 : decode cX3_note 39 = .ok (.bipush 20, 2) := by decide +kernel
theorem dX3_note_41 : decode cX3_note 41 = .ok (.invokestatic 60, 3) := by decide +kernel
theorem dX3_note_44 : decode cX3_note 44 = .ok (.ifCond .ne 10, 3) := by decide +kernel
theorem dX3_note_47 : decode cX3_note 47 = .ok (.aload_n 0, 1) := by decide +kernel
theorem dX3_note_48 : decode cX3_note 48 = .ok (.bipush (-2), 2) := by decide +kernel
theorem dX3_note_50 : decode cX3_note 50 = .ok (.invokevirtual 64, 3) := by decide +kernel
theorem dX3_note_53 : decode cX3_note 53 = .ok (.ireturn, 1) := by decide +kernel
theorem dX3_note_54 : decode cX3_note 54 = .ok (.aload_n 0, 1) := by decide +kernel
theorem dX3_note_55 : decode cX3_note 55 = .ok (.getfield 12, 3) := by decide +kernel
theorem dX3_note_58 : decode cX3_note 58 = .ok (.getfield 178, 3) := by decide +kernel
theorem dX3_note_61 : decode cX3_note 61 = .ok (.bipush 6, 2) := by decide +kernel
theorem dX3_note_63 : decode cX3_note 63 = .ok (.if_icmp .lt 10, 3) := by decide +kernel
theorem dX3_note_66 : decode cX3_note 66 = .ok (.aload_n 0, 1) := by decide +kernel
theorem dX3_note_67 : decode cX3_note 67 = .ok (.bipush (-4), 2) := by decide +kernel
theorem dX3_note_69 : decode cX3_note 69 = .ok (.invokevirtual 64, 3) := by decide +kernel
theorem dX3_note_72 : decode cX3_note 72 = .ok (.ireturn, 1) := by decide +kernel
theorem dX3_note_73 : decode cX3_note 73 = .ok (.aload_n 0, 1) := by decide +kernel
theorem dX3_note_74 : decode cX3_note 74 = .ok (.getfield 12, 3) := by decide +kernel
theorem dX3_note_77 : decode cX3_note 77 = .ok (.iload_n 1, 1) := by decide +kernel
theorem dX3_note_78 : decode cX3_note 78 = .ok (.iload_n 2, 1) := by decide +kernel
theorem dX3_note_79 : decode cX3_note 79 = .ok (.iload_n 3, 1) := by decide +kernel
theorem dX3_note_80 : decode cX3_note 80 = .ok (.iload 4, 2) := by decide +kernel
theorem dX3_note_82 : decode cX3_note 82 = .ok (.invokevirtual 181, 3) := by decide +kernel
theorem dX3_note_85 : decode cX3_note 85 = .ok (.aload_n 0, 1) := by decide +kernel
theorem dX3_note_86 : decode cX3_note 86 = .ok (.getfield 12, 3) := by decide +kernel
theorem dX3_note_89 : decode cX3_note 89 = .ok (.getfield 178, 3) := by decide +kernel
theorem dX3_note_92 : decode cX3_note 92 = .ok (.ireturn, 1) := by decide +kernel
theorem dX3_forget_0 : decode cX3_forget 0 = .ok (.aload_n 0, 1) := by decide +kernel
theorem dX3_forget_1 : decode cX3_forget 1 = .ok (.getfield 12, 3) := by decide +kernel
theorem dX3_forget_4 : decode cX3_forget 4 = .ok (.getfield 178, 3) := by decide +kernel
theorem dX3_forget_7 : decode cX3_forget 7 = .ok (.istore_n 1, 1) := by decide +kernel
theorem dX3_forget_8 : decode cX3_forget 8 = .ok (.aload_n 0, 1) := by decide +kernel
theorem dX3_forget_9 : decode cX3_forget 9 = .ok (.getfield 12, 3) := by decide +kernel
theorem dX3_forget_12 : decode cX3_forget 12 = .ok (.iconst 0, 1) := by decide +kernel
theorem dX3_forget_13 : decode cX3_forget 13 = .ok (.putfield 178, 3) := by decide +kernel
theorem dX3_forget_16 : decode cX3_forget 16 = .ok (.iload_n 1, 1) := by decide +kernel
theorem dX3_forget_17 : decode cX3_forget 17 = .ok (.ireturn, 1) := by decide +kernel
theorem dX3_is_0 : decode cX3_is 0 = .ok (.iconst 0, 1) := by decide +kernel
theorem dX3_is_1 : decode cX3_is 1 = .ok (.istore_n 1, 1) := by decide +kernel
theorem dX3_is_2 : decode cX3_is 2 = .ok (.iconst 0, 1) := by decide +kernel
theorem dX3_is_3 : decode cX3_is 3 = .ok (.istore_n 2, 1) := by decide +kernel
theorem dX3_is_4 : decode cX3_is 4 = .ok (.iload_n 2, 1) := by decide +kernel
theorem dX3_is_5 : decode cX3_is 5 = .ok (.bipush 6, 2) := by decide +kernel
theorem dX3_is_7 : decode cX3_is 7 = .ok (.if_icmp .ge 26, 3) := by decide +kernel
theorem dX3_is_10 : decode cX3_is 10 = .ok (.aload_n 0, 1) := by decide +kernel
theorem dX3_is_11 : decode cX3_is 11 = .ok (.getfield 12, 3) := by decide +kernel
theorem dX3_is_14 : decode cX3_is 14 = .ok (.iload_n 2, 1) := by decide +kernel
theorem dX3_is_15 : decode cX3_is 15 = .ok (.invokevirtual 185, 3) := by decide +kernel
theorem dX3_is_18 : decode cX3_is 18 = .ok (.ifCond .eq 9, 3) := by decide +kernel
theorem dX3_is_21 : decode cX3_is 21 = .ok (.iload_n 1, 1) := by decide +kernel
theorem dX3_is_22 : decode cX3_is 22 = .ok (.iconst 1, 1) := by decide +kernel
theorem dX3_is_23 : decode cX3_is 23 = .ok (.iload_n 2, 1) := by decide +kernel
theorem dX3_is_24 : decode cX3_is 24 = .ok (.ishl, 1) := by decide +kernel
theorem dX3_is_25 : decode cX3_is 25 = .ok (.ior, 1) := by decide +kernel
theorem dX3_is_26 : decode cX3_is 26 = .ok (.istore_n 1, 1) := by decide +kernel
theorem dX3_is_27 : decode cX3_is 27 = .ok (.iinc 2 1, 3) := by decide +kernel
theorem dX3_is_30 : decode cX3_is 30 = .ok (.goto (-26), 3) := by decide +kernel
theorem dX3_is_33 : decode cX3_is 33 = .ok (.iload_n 1, 1) := by decide +kernel
theorem dX3_is_34 : decode cX3_is 34 = .ok (.ireturn, 1) := by decide +kernel
theorem dX3_next_0 : decode cX3_next 0 = .ok (.aload_n 0, 1) := by decide +kernel
theorem dX3_next_1 : decode cX3_next 1 = .ok (.invokevirtual 188, 3) := by decide +kernel
theorem dX3_next_4 : decode cX3_next 4 = .ok (.istore_n 1, 1) := by decide +kernel
theorem dX3_next_5 : decode cX3_next 5 = .ok (.iconst (-1), 1) := by decide +kernel
theorem dX3_next_6 : decode cX3_next 6 = .ok (.istore_n 2, 1) := by decide +kernel
theorem dX3_next_7 : decode cX3_next 7 = .ok (.bipush 7, 2) := by decide +kernel
theorem dX3_next_9 : decode cX3_next 9 = .ok (.istore_n 3, 1) := by decide +kernel
theorem dX3_next_10 : decode cX3_next 10 = .ok (.iconst 0, 1) := by decide +kernel
theorem dX3_next_11 : decode cX3_next 11 = .ok (.istore 4, 2) := by decide +kernel
theorem dX3_next_13 : decode cX3_next 13 = .ok (.iload 4, 2) := by decide +kernel
theorem dX3_next_15 : decode cX3_next 15 = .ok (.bipush 6, 2) := by decide +kernel
theorem dX3_next_17 : decode cX3_next 17 = .ok (.if_icmp .ge 40, 3) := by decide +kernel
theorem dX3_next_20 : decode cX3_next 20 = .ok (.iload_n 1, 1) := by decide +kernel
theorem dX3_next_21 : decode cX3_next 21 = .ok (.ifCond .eq 36, 3) := by decide +kernel
theorem dX3_next_24 : decode cX3_next 24 = .ok (.iload_n 1, 1) := by decide +kernel
theorem dX3_next_25 : decode cX3_next 25 = .ok (.iload 4, 2) := by decide +kernel
theorem dX3_next_27 : decode cX3_next 27 = .ok (.aload_n 0, 1) := by decide +kernel
theorem dX3_next_28 : decode cX3_next 28 = .ok (.getfield 12, 3) := by decide +kernel
theorem dX3_next_31 : decode cX3_next 31 = .ok (.getfield 68, 3) := by decide +kernel
theorem dX3_next_34 : decode cX3_next 34 = .ok (.invokestatic 192, 3) := by decide +kernel
theorem dX3_next_37 : decode cX3_next 37 = .ok (.istore 5, 2) := by decide +kernel
theorem dX3_next_39 : decode cX3_next 39 = .ok (.iload 5, 2) := by decide +kernel
theorem dX3_next_41 : decode cX3_next 41 = .ok (.iload_n 3, 1) := by decide +kernel
theorem dX3_next_42 : decode cX3_next 42 = .ok (.if_icmp .ge 9, 3) := by decide +kernel
theorem dX3_next_45 : decode cX3_next 45 = .ok (.iload 5, 2) := by decide +kernel
theorem dX3_next_47 : decode cX3_next 47 = .ok (.istore_n 3, 1) := by decide +kernel
theorem dX3_next_48 : decode cX3_next 48 = .ok (.iload 4, 2) := by decide +kernel
theorem dX3_next_50 : decode cX3_next 50 = .ok (.istore_n 2, 1) := by decide +kernel
theorem dX3_next_51 : decode cX3_next 51 = .ok (.iinc 4 1, 3) := by decide +kernel
theorem dX3_next_54 : decode cX3_next 54 = .ok (.goto (-41), 3) := by decide +kernel
theorem dX3_next_57 : decode cX3_next 57 = .ok (.iload_n 2, 1) := by decide +kernel
theorem dX3_next_58 : decode cX3_next 58 = .ok (.ireturn, 1) := by decide +kernel
theorem dX3_lie_0 : decode cX3_lie 0 = .ok (.iload_n 1, 1) := by decide +kernel
theorem dX3_lie_1 : decode cX3_lie 1 = .ok (.invokestatic 116, 3) := by decide +kernel
theorem dX3_lie_4 : decode cX3_lie 4 = .ok (.ifCond .ne 10, 3) := by decide +kernel
theorem dX3_lie_7 : decode cX3_lie 7 = .ok (.aload_n 0, 1) := by decide +kernel
theorem dX3_lie_8 : decode cX3_lie 8 = .ok (.bipush (-2), 2) := by decide +kernel
theorem dX3_lie_10 : decode cX3_lie 10 = .ok (.invokevirtual 64, 3) := by decide +kernel
theorem dX3_lie_13 : decode cX3_lie 13 = .ok (.ireturn, 1) := by decide +kernel
theorem dX3_lie_14 : decode cX3_lie 14 = .ok (.aload_n 0, 1) := by decide +kernel
theorem dX3_lie_15 : decode cX3_lie 15 = .ok (.getfield 12, 3) := by decide +kernel
theorem dX3_lie_18 : decode cX3_lie 18 = .ok (.getfield 78, 3) := by decide +kernel
theorem dX3_lie_21 : decode cX3_lie 21 = .ok (.invokestatic 120, 3) := by decide +kernel
theorem dX3_lie_24 : decode cX3_lie 24 = .ok (.ifCond .eq 10, 3) := by decide +kernel
theorem dX3_lie_27 : decode cX3_lie 27 = .ok (.aload_n 0, 1) := by decide +kernel
theorem dX3_lie_28 : decode cX3_lie 28 = .ok (.bipush (-3), 2) := by decide +kernel
theorem dX3_lie_30 : decode cX3_lie 30 = .ok (.invokevirtual 64, 3) := by decide +kernel
theorem dX3_lie_33 : decode cX3_lie 33 = .ok (.ireturn, 1) := by decide +kernel
theorem dX3_lie_34 : decode cX3_lie 34 = .ok (.iconst 0, 1) := by decide +kernel
theorem dX3_lie_35 : decode cX3_lie 35 = .ok (.istore_n 2, 1) := by decide +kernel
theorem dX3_lie_36 : decode cX3_lie 36 = .ok (.iconst 0, 1) := by decide +kernel
theorem dX3_lie_37 : decode cX3_lie 37 = .ok (.istore_n 3, 1) := by decide +kernel
theorem dX3_lie_38 : decode cX3_lie 38 = .ok (.iload_n 3, 1) := by decide +kernel
theorem dX3_lie_39 : decode cX3_lie 39 = .ok (.iconst 4, 1) := by decide +kernel
theorem dX3_lie_40 : decode cX3_lie 40 = .ok (.if_icmp .ge 49, 3) := by decide +kernel
theorem dX3_lie_43 : decode cX3_lie 43 = .ok (.aload_n 0, 1) := by decide +kernel
theorem dX3_lie_44 : decode cX3_lie 44 = .ok (.iload_n 1, 1) := by decide +kernel
theorem dX3_lie_45 : decode cX3_lie 45 = .ok (.iload_n 3, 1) := by decide +kernel
theorem dX3_lie_46 : decode cX3_lie 46 = .ok (.invokevirtual 195, 3) := by decide +kernel
theorem dX3_lie_49 : decode cX3_lie 49 = .ok (.istore 4, 2) := by decide +kernel
theorem dX3_lie_51 : decode cX3_lie 51 = .ok (.iload 4, 2) := by decide +kernel
theorem dX3_lie_53 : decode cX3_lie 53 = .ok (.aload_n 0, 1) := by decide +kernel
theorem dX3_lie_54 : decode cX3_lie 54 = .ok (.iload_n 1, 1) := by decide +kernel
theorem dX3_lie_55 : decode cX3_lie 55 = .ok (.iload_n 3, 1) := by decide +kernel
theorem dX3_lie_56 : decode cX3_lie 56 = .ok (.iconst 1, 1) := by decide +kernel
theorem dX3_lie_57 : decode cX3_lie 57 = .ok (.ixor, 1) := by decide +kernel
theorem dX3_lie_58 : decode cX3_lie 58 = .ok (.invokevirtual 195, 3) := by decide +kernel
theorem dX3_lie_61 : decode cX3_lie 61 = .ok (.if_icmp .lt 22, 3) := by decide +kernel
theorem dX3_lie_64 : decode cX3_lie 64 = .ok (.iload 4, 2) := by decide +kernel
theorem dX3_lie_66 : decode cX3_lie 66 = .ok (.aload_n 0, 1) := by decide +kernel
theorem dX3_lie_67 : decode cX3_lie 67 = .ok (.iload_n 1, 1) := by decide +kernel
theorem dX3_lie_68 : decode cX3_lie 68 = .ok (.iload_n 3, 1) := by decide +kernel
theorem dX3_lie_69 : decode cX3_lie 69 = .ok (.iconst 2, 1) := by decide +kernel
theorem dX3_lie_70 : decode cX3_lie 70 = .ok (.ixor, 1) := by decide +kernel
theorem dX3_lie_71 : decode cX3_lie 71 = .ok (.invokevirtual 195, 3) := by decide +kernel
theorem dX3_lie_74 : decode cX3_lie 74 = .ok (.if_icmp .gt 9, 3) := by decide +kernel
theorem dX3_lie_77 : decode cX3_lie 77 = .ok (.iload_n 2, 1) := by decide +kernel
theorem dX3_lie_78 : decode cX3_lie 78 = .ok (.iconst 1, 1) := by decide +kernel
theorem dX3_lie_79 : decode cX3_lie 79 = .ok (.iload_n 3, 1) := by decide +kernel
theorem dX3_lie_80 : decode cX3_lie 80 = .ok (.ishl, 1) := by decide +kernel
theorem dX3_lie_81 : decode cX3_lie 81 = .ok (.ior, 1) := by decide +kernel
theorem dX3_lie_82 : decode cX3_lie 82 = .ok (.istore_n 2, 1) := by decide +kernel
theorem dX3_lie_83 : decode cX3_lie 83 = .ok (.iinc 3 1, 3) := by decide +kernel
theorem dX3_lie_86 : decode cX3_lie 86 = .ok (.goto (-48), 3) := by decide +kernel
theorem dX3_lie_89 : decode cX3_lie 89 = .ok (.iload_n 2, 1) := by decide +kernel
theorem dX3_lie_90 : decode cX3_lie 90 = .ok (.ireturn, 1) := by decide +kernel
theorem dX3_odds_0 : decode cX3_odds 0 = .ok (.aload_n 0, 1) := by decide +kernel
theorem dX3_odds_1 : decode cX3_odds 1 = .ok (.getfield 35, 3) := by decide +kernel
theorem dX3_odds_4 : decode cX3_odds 4 = .ok (.iload_n 1, 1) := by decide +kernel
theorem dX3_odds_5 : decode cX3_odds 5 = .ok (.bipush 7, 2) := by decide +kernel
theorem dX3_odds_7 : decode cX3_odds 7 = .ok (.invokevirtual 153, 3) := by decide +kernel
theorem dX3_odds_10 : decode cX3_odds 10 = .ok (.istore_n 3, 1) := by decide +kernel
theorem dX3_odds_11 : decode cX3_odds 11 = .ok (.iload_n 3, 1) := by decide +kernel
theorem dX3_odds_12 : decode cX3_odds 12 = .ok (.iconst (-1), 1) := by decide +kernel
theorem dX3_odds_13 : decode cX3_odds 13 = .ok (.if_icmp .eq 13, 3) := by decide +kernel
theorem dX3_odds_16 : decode cX3_odds 16 = .ok (.iload_n 2, 1) := by decide +kernel
theorem dX3_odds_17 : decode cX3_odds 17 = .ok (.iconst 0, 1) := by decide +kernel
theorem dX3_odds_18 : decode cX3_odds 18 = .ok (.bipush 10, 2) := by decide +kernel
theorem dX3_odds_20 : decode cX3_odds 20 = .ok (.invokestatic 60, 3) := by decide +kernel
theorem dX3_odds_23 : decode cX3_odds 23 = .ok (.ifCond .ne 10, 3) := by decide +kernel
theorem dX3_odds_26 : decode cX3_odds 26 = .ok (.aload_n 0, 1) := by decide +kernel
theorem dX3_odds_27 : decode cX3_odds 27 = .ok (.bipush (-2), 2) := by decide +kernel
theorem dX3_odds_29 : decode cX3_odds 29 = .ok (.invokevirtual 64, 3) := by decide +kernel
theorem dX3_odds_32 : decode cX3_odds 32 = .ok (.ireturn, 1) := by decide +kernel
theorem dX3_odds_33 : decode cX3_odds 33 = .ok (.aload_n 0, 1) := by decide +kernel
theorem dX3_odds_34 : decode cX3_odds 34 = .ok (.aload_n 0, 1) := by decide +kernel
theorem dX3_odds_35 : decode cX3_odds 35 = .ok (.getfield 35, 3) := by decide +kernel
theorem dX3_odds_38 : decode cX3_odds 38 = .ok (.aload_n 0, 1) := by decide +kernel
theorem dX3_odds_39 : decode cX3_odds 39 = .ok (.getfield 12, 3) := by decide +kernel
theorem dX3_odds_42 : decode cX3_odds 42 = .ok (.iload_n 3, 1) := by decide +kernel
theorem dX3_odds_43 : decode cX3_odds 43 = .ok (.iload_n 2, 1) := by decide +kernel
theorem dX3_odds_44 : decode cX3_odds 44 = .ok (.invokevirtual 198, 3) := by decide +kernel
theorem dX3_odds_47 : decode cX3_odds 47 = .ok (.iload_n 3, 1) := by decide +kernel
theorem dX3_odds_48 : decode cX3_odds 48 = .ok (.invokestatic 202, 3) := by decide +kernel
theorem dX3_odds_51 : decode cX3_odds 51 = .ok (.invokevirtual 174, 3) := by decide +kernel
theorem dX3_odds_54 : decode cX3_odds 54 = .ok (.iconst 1, 1) := by decide +kernel
theorem dX3_odds_55 : decode cX3_odds 55 = .ok (.ireturn, 1) := by decide +kernel
theorem dX3_jars_0 : decode cX3_jars 0 = .ok (.iload_n 1, 1) := by decide +kernel
theorem dX3_jars_1 : decode cX3_jars 1 = .ok (.iconst 0, 1) := by decide +kernel
theorem dX3_jars_2 : decode cX3_jars 2 = .ok (.ldc 206, 2) := by decide +kernel
theorem dX3_jars_4 : decode cX3_jars 4 = .ok (.invokestatic 60, 3) := by decide +kernel
theorem dX3_jars_7 : decode cX3_jars 7 = .ok (.ifCond .eq 13, 3) := by decide +kernel
theorem dX3_jars_10 : decode cX3_jars 10 = .ok (.iload_n 2, 1) := by decide +kernel
theorem dX3_jars_11 : decode cX3_jars 11 = .ok (.iconst 0, 1) := by decide +kernel
theorem dX3_jars_12 : decode cX3_jars 12 = .ok (.bipush 60, 2) := by decide +kernel
theorem dX3_jars_14 : decode cX3_jars 14 = .ok (.invokestatic 60, 3) := by decide +kernel
theorem dX3_jars_17 : decode cX3_jars 17 = .ok (.ifCond .ne 10, 3) := by decide +kernel
theorem dX3_jars_20 : decode cX3_jars 20 = .ok (.aload_n 0, 1) := by decide +kernel
theorem dX3_jars_21 : decode cX3_jars 21 = .ok (.bipush (-2), 2) := by decide +kernel
theorem dX3_jars_23 : decode cX3_jars 23 = .ok (.invokevirtual 64, 3) := by decide +kernel
theorem dX3_jars_26 : decode cX3_jars 26 = .ok (.ireturn, 1) := by decide +kernel
theorem dX3_jars_27 : decode cX3_jars 27 = .ok (.iload_n 1, 1) := by decide +kernel
theorem dX3_jars_28 : decode cX3_jars 28 = .ok (.i2l, 1) := by decide +kernel
theorem dX3_jars_29 : decode cX3_jars 29 = .ok (.lstore_n 3, 1) := by decide +kernel
theorem dX3_jars_30 : decode cX3_jars 30 = .ok (.iconst 0, 1) := by decide +kernel
theorem dX3_jars_31 : decode cX3_jars 31 = .ok (.istore 5, 2) := by decide +kernel
theorem dX3_jars_33 : decode cX3_jars 33 = .ok (.iconst 0, 1) := by decide +kernel
theorem dX3_jars_34 : decode cX3_jars 34 = .ok (.istore 6, 2) := by decide +kernel
theorem dX3_jars_36 : decode cX3_jars 36 = .ok (.iload 6, 2) := by decide +kernel
theorem dX3_jars_38 : decode cX3_jars 38 = .ok (.iload_n 2, 1) := by decide +kernel
theorem dX3_jars_39 : decode cX3_jars 39 = .ok (.if_icmp .ge 99, 3) := by decide +kernel
theorem dX3_jars_42 : decode cX3_jars 42 = .ok (.aload_n 0, 1) := by decide +kernel
theorem dX3_jars_43 : decode cX3_jars 43 = .ok (.getfield 12, 3) := by decide +kernel
theorem dX3_jars_46 : decode cX3_jars 46 = .ok (.getfield 78, 3) := by decide +kernel
theorem dX3_jars_49 : decode cX3_jars 49 = .ok (.istore 7, 2) := by decide +kernel
theorem dX3_jars_51 : decode cX3_jars 51 = .ok (.iconst 0, 1) := by decide +kernel
theorem dX3_jars_52 : decode cX3_jars 52 = .ok (.istore 8, 2) := by decide +kernel
theorem dX3_jars_54 : decode cX3_jars 54 = .ok (.iload 8, 2) := by decide +kernel
theorem dX3_jars_56 : decode cX3_jars 56 = .ok (.bipush 20, 2) := by decide +kernel
theorem dX3_jars_58 : decode cX3_jars 58 = .ok (.if_icmp .ge 62, 3) := by decide +kernel
theorem dX3_jars_61 : decode cX3_jars 61 = .ok (.iload 7, 2) := by decide +kernel
theorem dX3_jars_63 : decode cX3_jars 63 = .ok (.invokestatic 120, 3) := by decide +kernel
theorem dX3_jars_66 : decode cX3_jars 66 = .ok (.ifCond .ne 54, 3) := by decide +kernel
theorem dX3_jars_69 : decode cX3_jars 69 = .ok (.lload_n 3, 1) := by decide +kernel
theorem dX3_jars_70 : decode cX3_jars 70 = .ok (.ldc2_w 207, 3) := by decide +kernel
theorem dX3_jars_73 : decode cX3_jars 73 = .ok (.lmul, 1) := by decide +kernel
theorem dX3_jars_74 : decode cX3_jars 74 = .ok (.ldc2_w 209, 3) := by decide +kernel
theorem dX3_jars_77 : decode cX3_jars 77 = .ok (.ladd, 1) := by decide +kernel
theorem dX3_jars_78 : decode cX3_jars 78 = .ok (.ldc2_w 211, 3) := by decide +kernel
theorem dX3_jars_81 : decode cX3_jars 81 = .ok (.lrem, 1) := by decide +kernel
theorem dX3_jars_82 : decode cX3_jars 82 = .ok (.lstore_n 3, 1) := by decide +kernel
theorem dX3_jars_83 : decode cX3_jars 83 = .ok (.aload_n 0, 1) := by decide +kernel
theorem dX3_jars_84 : decode cX3_jars 84 = .ok (.getfield 12, 3) := by decide +kernel
theorem dX3_jars_87 : decode cX3_jars 87 = .ok (.iload 7, 2) := by decide +kernel
theorem dX3_jars_89 : decode cX3_jars 89 = .ok (.aload_n 0, 1) := by decide +kernel
theorem dX3_jars_90 : decode cX3_jars 90 = .ok (.getfield 12, 3) := by decide +kernel
theorem dX3_jars_93 : decode cX3_jars 93 = .ok (.getfield 68, 3) := by decide +kernel
theorem dX3_jars_96 : decode cX3_jars 96 = .ok (.iload 8, 2) := by decide +kernel
theorem dX3_jars_98 : decode cX3_jars 98 = .ok (.iadd, 1) := by decide +kernel
theorem dX3_jars_99 : decode cX3_jars 99 = .ok (.lload_n 3, 1) := by decide +kernel
theorem dX3_jars_100 : decode cX3_jars 100 = .ok (.ldc2_w 213, 3) := by decide +kernel
theorem dX3_jars_103 : decode cX3_jars 103 = .ok (.ldiv, 1) := by decide +kernel
theorem dX3_jars_104 : decode cX3_jars 104 = .ok (.ldc2_w 215, 3) := by decide +kernel
theorem dX3_jars_107 : decode cX3_jars 107 = .ok (.lrem, 1) := by decide +kernel
theorem dX3_jars_108 : decode cX3_jars 108 = .ok (.l2i, 1) := by decide +kernel
theorem dX3_jars_109 : decode cX3_jars 109 = .ok (.invokevirtual 160, 3) := by decide +kernel
theorem dX3_jars_112 : decode cX3_jars 112 = .ok (.istore 7, 2) := by decide +kernel
theorem dX3_jars_114 : decode cX3_jars 114 = .ok (.iinc 8 1, 3) := by decide +kernel
theorem dX3_jars_117 : decode cX3_jars 117 = .ok (.goto (-63), 3) := by decide +kernel
theorem dX3_jars_120 : decode cX3_jars 120 = .ok (.iload 7, 2) := by decide +kernel
theorem dX3_jars_122 : decode cX3_jars 122 = .ok (.invokestatic 120, 3) := by decide +kernel
theorem dX3_jars_125 : decode cX3_jars 125 = .ok (.iconst 1, 1) := by decide +kernel
theorem dX3_jars_126 : decode cX3_jars 126 = .ok (.if_icmp .ne 6, 3) := by decide +kernel
theorem dX3_jars_129 : decode cX3_jars 129 = .ok (.iinc 5 1, 3) := by decide +kernel
theorem dX3_jars_132 : decode cX3_jars 132 = .ok (.iinc 6 1, 3) := by decide +kernel
theorem dX3_jars_135 : decode cX3_jars 135 = .ok (.goto (-99), 3) := by decide +kernel
theorem dX3_jars_138 : decode cX3_jars 138 = .ok (.iload 5, 2) := by decide +kernel
theorem dX3_jars_140 : decode cX3_jars 140 = .ok (.ireturn, 1) := by decide +kernel
theorem dX3_part_0 : decode cX3_part 0 = .ok (.iload_n 1, 1) := by decide +kernel
theorem dX3_part_1 : decode cX3_part 1 = .ok (.lookupswitch 37 #[(0, 27), (1, 32)], 27) := by decide +kernel
theorem dX3_part_28 : decode cX3_part 28 = .ok (.aload_n 0, 1) := by decide +kernel
theorem dX3_part_29 : decode cX3_part 29 = .ok (.getfield 39, 3) := by decide +kernel
theorem dX3_part_32 : decode cX3_part 32 = .ok (.lreturn, 1) := by decide +kernel
theorem dX3_part_33 : decode cX3_part 33 = .ok (.aload_n 0, 1) := by decide +kernel
theorem dX3_part_34 : decode cX3_part 34 = .ok (.getfield 43, 3) := by decide +kernel
theorem dX3_part_37 : decode cX3_part 37 = .ok (.lreturn, 1) := by decide +kernel
theorem dX3_part_38 : decode cX3_part 38 = .ok (.aload_n 0, 1) := by decide +kernel
theorem dX3_part_39 : decode cX3_part 39 = .ok (.bipush (-2), 2) := by decide +kernel
theorem dX3_part_41 : decode cX3_part 41 = .ok (.invokevirtual 64, 3) := by decide +kernel
theorem dX3_part_44 : decode cX3_part 44 = .ok (.i2l, 1) := by decide +kernel
theorem dX3_part_45 : decode cX3_part 45 = .ok (.lreturn, 1) := by decide +kernel
theorem dX3_image_0 : decode cX3_image 0 = .ok (.iload_n 1, 1) := by decide +kernel
theorem dX3_image_1 : decode cX3_image 1 = .ok (.iconst 0, 1) := by decide +kernel
theorem dX3_image_2 : decode cX3_image 2 = .ok (.iconst 1, 1) := by decide +kernel
theorem dX3_image_3 : decode cX3_image 3 = .ok (.invokestatic 60, 3) := by decide +kernel
theorem dX3_image_6 : decode cX3_image 6 = .ok (.ifCond .ne 10, 3) := by decide +kernel
theorem dX3_image_9 : decode cX3_image 9 = .ok (.aload_n 0, 1) := by decide +kernel
theorem dX3_image_10 : decode cX3_image 10 = .ok (.bipush (-2), 2) := by decide +kernel
theorem dX3_image_12 : decode cX3_image 12 = .ok (.invokevirtual 64, 3) := by decide +kernel
theorem dX3_image_15 : decode cX3_image 15 = .ok (.ireturn, 1) := by decide +kernel
theorem dX3_image_16 : decode cX3_image 16 = .ok (.aload_n 0, 1) := by decide +kernel
theorem dX3_image_17 : decode cX3_image 17 = .ok (.iload_n 1, 1) := by decide +kernel
theorem dX3_image_18 : decode cX3_image 18 = .ok (.invokevirtual 217, 3) := by decide +kernel
theorem dX3_image_21 : decode cX3_image 21 = .ok (.astore_n 2, 1) := by decide +kernel
theorem dX3_image_22 : decode cX3_image 22 = .ok (.aload_n 2, 1) := by decide +kernel
theorem dX3_image_23 : decode cX3_image 23 = .ok (.aload_n 0, 1) := by decide +kernel
theorem dX3_image_24 : decode cX3_image 24 = .ok (.getfield 12, 3) := by decide +kernel
theorem dX3_image_27 : decode cX3_image 27 = .ok (.invokevirtual 112, 3) := by decide +kernel
theorem dX3_image_30 : decode cX3_image 30 = .ok (.aload_n 2, 1) := by decide +kernel
theorem dX3_image_31 : decode cX3_image 31 = .ok (.iconst 1, 1) := by decide +kernel
theorem dX3_image_32 : decode cX3_image 32 = .ok (.putfield 221, 3) := by decide +kernel
theorem dX3_image_35 : decode cX3_image 35 = .ok (.iconst 1, 1) := by decide +kernel
theorem dX3_image_36 : decode cX3_image 36 = .ok (.ireturn, 1) := by decide +kernel
theorem dX3_from_0 : decode cX3_from 0 = .ok (.iload_n 1, 1) := by decide +kernel
theorem dX3_from_1 : decode cX3_from 1 = .ok (.iconst 0, 1) := by decide +kernel
theorem dX3_from_2 : decode cX3_from 2 = .ok (.iconst 1, 1) := by decide +kernel
theorem dX3_from_3 : decode cX3_from 3 = .ok (.invokestatic 60, 3) := by decide +kernel
theorem dX3_from_6 : decode cX3_from 6 = .ok (.ifCond .ne 10, 3) := by decide +kernel
theorem dX3_from_9 : decode cX3_from 9 = .ok (.aload_n 0, 1) := by decide +kernel
theorem dX3_from_10 : decode cX3_from 10 = .ok (.bipush (-2), 2) := by decide +kernel
theorem dX3_from_12 : decode cX3_from 12 = .ok (.invokevirtual 64, 3) := by decide +kernel
theorem dX3_from_15 : decode cX3_from 15 = .ok (.ireturn, 1) := by decide +kernel
theorem dX3_from_16 : decode cX3_from 16 = .ok (.aload_n 0, 1) := by decide +kernel
theorem dX3_from_17 : decode cX3_from 17 = .ok (.iload_n 1, 1) := by decide +kernel
theorem dX3_from_18 : decode cX3_from 18 = .ok (.invokevirtual 217, 3) := by decide +kernel
theorem dX3_from_21 : decode cX3_from 21 = .ok (.astore_n 2, 1) := by decide +kernel
theorem dX3_from_22 : decode cX3_from 22 = .ok (.aload_n 2, 1) := by decide +kernel
theorem dX3_from_23 : decode cX3_from 23 = .ok (.getfield 221, 3) := by decide +kernel
theorem dX3_from_26 : decode cX3_from 26 = .ok (.ifCond .ne 10, 3) := by decide +kernel
theorem dX3_from_29 : decode cX3_from 29 = .ok (.aload_n 0, 1) := by decide +kernel
theorem dX3_from_30 : decode cX3_from 30 = .ok (.bipush (-3), 2) := by decide +kernel
theorem dX3_from_32 : decode cX3_from 32 = .ok (.invokevirtual 64, 3) := by decide +kernel
theorem dX3_from_35 : decode cX3_from 35 = .ok (.ireturn, 1) := by decide +kernel
theorem dX3_from_36 : decode cX3_from 36 = .ok (.aload_n 0, 1) := by decide +kernel
theorem dX3_from_37 : decode cX3_from 37 = .ok (.getfield 12, 3) := by decide +kernel
theorem dX3_from_40 : decode cX3_from 40 = .ok (.aload_n 2, 1) := by decide +kernel
theorem dX3_from_41 : decode cX3_from 41 = .ok (.invokevirtual 112, 3) := by decide +kernel
theorem dX3_from_44 : decode cX3_from 44 = .ok (.iconst 1, 1) := by decide +kernel
theorem dX3_from_45 : decode cX3_from 45 = .ok (.ireturn, 1) := by decide +kernel
theorem dX3_status_0 : decode cX3_status 0 = .ok (.iload_n 1, 1) := by decide +kernel
theorem dX3_status_1 : decode cX3_status 1 = .ok (.tableswitch 42 0 2 #[27, 32, 37], 27) := by decide +kernel
theorem dX3_status_28 : decode cX3_status 28 = .ok (.aload_n 0, 1) := by decide +kernel
theorem dX3_status_29 : decode cX3_status 29 = .ok (.getfield 46, 3) := by decide +kernel
theorem dX3_status_32 : decode cX3_status 32 = .ok (.ireturn, 1) := by decide +kernel
theorem dX3_status_33 : decode cX3_status 33 = .ok (.aload_n 0, 1) := by decide +kernel
theorem dX3_status_34 : decode cX3_status 34 = .ok (.getfield 50, 3) := by decide +kernel
theorem dX3_status_37 : decode cX3_status 37 = .ok (.ireturn, 1) := by decide +kernel
theorem dX3_status_38 : decode cX3_status 38 = .ok (.aload_n 0, 1) := by decide +kernel
theorem dX3_status_39 : decode cX3_status 39 = .ok (.getfield 53, 3) := by decide +kernel
theorem dX3_status_42 : decode cX3_status 42 = .ok (.ireturn, 1) := by decide +kernel
theorem dX3_status_43 : decode cX3_status 43 = .ok (.aload_n 0, 1) := by decide +kernel
theorem dX3_status_44 : decode cX3_status 44 = .ok (.iconst (-1), 1) := by decide +kernel
theorem dX3_status_45 : decode cX3_status 45 = .ok (.invokevirtual 144, 3) := by decide +kernel
theorem dX3_status_48 : decode cX3_status 48 = .ok (.ireturn, 1) := by decide +kernel
theorem dX3_count_0 : decode cX3_count 0 = .ok (.iload_n 1, 1) := by decide +kernel
theorem dX3_count_1 : decode cX3_count 1 = .ok (.tableswitch 63 0 3 #[31, 39, 47, 55], 31) := by decide +kernel
theorem dX3_count_32 : decode cX3_count 32 = .ok (.aload_n 0, 1) := by decide +kernel
theorem dX3_count_33 : decode cX3_count 33 = .ok (.getfield 12, 3) := by decide +kernel
theorem dX3_count_36 : decode cX3_count 36 = .ok (.getfield 68, 3) := by decide +kernel
theorem dX3_count_39 : decode cX3_count 39 = .ok (.ireturn, 1) := by decide +kernel
theorem dX3_count_40 : decode cX3_count 40 = .ok (.aload_n 0, 1) := by decide +kernel
theorem dX3_count_41 : decode cX3_count 41 = .ok (.getfield 12, 3) := by decide +kernel
theorem dX3_count_44 : decode cX3_count 44 = .ok (.getfield 178, 3) := by decide +kernel
theorem dX3_count_47 : decode cX3_count 47 = .ok (.ireturn, 1) := by decide +kernel
theorem dX3_count_48 : decode cX3_count 48 = .ok (.aload_n 0, 1) := by decide +kernel
theorem dX3_count_49 : decode cX3_count 49 = .ok (.getfield 12, 3) := by decide +kernel
theorem dX3_count_52 : decode cX3_count 52 = .ok (.getfield 135, 3) := by decide +kernel
theorem dX3_count_55 : decode cX3_count 55 = .ok (.ireturn, 1) := by decide +kernel
theorem dX3_count_56 : decode cX3_count 56 = .ok (.aload_n 0, 1) := by decide +kernel
theorem dX3_count_57 : decode cX3_count 57 = .ok (.getfield 28, 3) := by decide +kernel
theorem dX3_count_60 : decode cX3_count 60 = .ok (.getfield 99, 3) := by decide +kernel
theorem dX3_count_63 : decode cX3_count 63 = .ok (.ireturn, 1) := by decide +kernel
theorem dX3_count_64 : decode cX3_count 64 = .ok (.aload_n 0, 1) := by decide +kernel
theorem dX3_count_65 : decode cX3_count 65 = .ok (.bipush (-2), 2) := by decide +kernel
theorem dX3_count_67 : decode cX3_count 67 = .ok (.invokevirtual 64, 3) := by decide +kernel
theorem dX3_count_70 : decode cX3_count 70 = .ok (.ireturn, 1) := by decide +kernel
theorem dX3_digest_0 : decode cX3_digest 0 = .ok (.ldc2_w 225, 3) := by decide +kernel
theorem dX3_digest_3 : decode cX3_digest 3 = .ok (.lstore_n 1, 1) := by decide +kernel
theorem dX3_digest_4 : decode cX3_digest 4 = .ok (.iconst 0, 1) := by decide +kernel
theorem dX3_digest_5 : decode cX3_digest 5 = .ok (.istore_n 3, 1) := by decide +kernel
theorem dX3_digest_6 : decode cX3_digest 6 = .ok (.iload_n 3, 1) := by decide +kernel
theorem dX3_digest_7 : decode cX3_digest 7 = .ok (.iconst 3, 1) := by decide +kernel
theorem dX3_digest_8 : decode cX3_digest 8 = .ok (.if_icmp .gt 22, 3) := by decide +kernel
theorem dX3_digest_11 : decode cX3_digest 11 = .ok (.ldc2_w 227, 3) := by decide +kernel
theorem dX3_digest_14 : decode cX3_digest 14 = .ok (.lload_n 1, 1) := by decide +kernel
theorem dX3_digest_15 : decode cX3_digest 15 = .ok (.lmul, 1) := by decide +kernel
theorem dX3_digest_16 : decode cX3_digest 16 = .ok (.aload_n 0, 1) := by decide +kernel
theorem dX3_digest_17 : decode cX3_digest 17 = .ok (.iload_n 3, 1) := by decide +kernel
theorem dX3_digest_18 : decode cX3_digest 18 = .ok (.invokevirtual 229, 3) := by decide +kernel
theorem dX3_digest_21 : decode cX3_digest 21 = .ok (.i2l, 1) := by decide +kernel
theorem dX3_digest_22 : decode cX3_digest 22 = .ok (.ladd, 1) := by decide +kernel
theorem dX3_digest_23 : decode cX3_digest 23 = .ok (.lstore_n 1, 1) := by decide +kernel
theorem dX3_digest_24 : decode cX3_digest 24 = .ok (.iinc 3 1, 3) := by decide +kernel
theorem dX3_digest_27 : decode cX3_digest 27 = .ok (.goto (-21), 3) := by decide +kernel
theorem dX3_digest_30 : decode cX3_digest 30 = .ok (.iconst 0, 1) := by decide +kernel
theorem dX3_digest_31 : decode cX3_digest 31 = .ok (.istore_n 3, 1) := by decide +kernel
theorem dX3_digest_32 : decode cX3_digest 32 = .ok (.iload_n 3, 1) := by decide +kernel
theorem dX3_digest_33 : decode cX3_digest 33 = .ok (.iconst 4, 1) := by decide +kernel
theorem dX3_digest_34 : decode cX3_digest 34 = .ok (.if_icmp .gt 22, 3) := by decide +kernel
theorem dX3_digest_37 : decode cX3_digest 37 = .ok (.ldc2_w 227, 3) := by decide +kernel
theorem dX3_digest_40 : decode cX3_digest 40 = .ok (.lload_n 1, 1) := by decide +kernel
theorem dX3_digest_41 : decode cX3_digest 41 = .ok (.lmul, 1) := by decide +kernel
theorem dX3_digest_42 : decode cX3_digest 42 = .ok (.aload_n 0, 1) := by decide +kernel
theorem dX3_digest_43 : decode cX3_digest 43 = .ok (.iload_n 3, 1) := by decide +kernel
theorem dX3_digest_44 : decode cX3_digest 44 = .ok (.invokevirtual 232, 3) := by decide +kernel
theorem dX3_digest_47 : decode cX3_digest 47 = .ok (.i2l, 1) := by decide +kernel
theorem dX3_digest_48 : decode cX3_digest 48 = .ok (.ladd, 1) := by decide +kernel
theorem dX3_digest_49 : decode cX3_digest 49 = .ok (.lstore_n 1, 1) := by decide +kernel
theorem dX3_digest_50 : decode cX3_digest 50 = .ok (.iinc 3 1, 3) := by decide +kernel
theorem dX3_digest_53 : decode cX3_digest 53 = .ok (.goto (-21), 3) := by decide +kernel
theorem dX3_digest_56 : decode cX3_digest 56 = .ok (.ldc2_w 227, 3) := by decide +kernel
theorem dX3_digest_59 : decode cX3_digest 59 = .ok (.lload_n 1, 1) := by decide +kernel
theorem dX3_digest_60 : decode cX3_digest 60 = .ok (.lmul, 1) := by decide +kernel
theorem dX3_digest_61 : decode cX3_digest 61 = .ok (.aload_n 0, 1) := by decide +kernel
theorem dX3_digest_62 : decode cX3_digest 62 = .ok (.bipush 6, 2) := by decide +kernel
theorem dX3_digest_64 : decode cX3_digest 64 = .ok (.invokevirtual 232, 3) := by decide +kernel
theorem dX3_digest_67 : decode cX3_digest 67 = .ok (.i2l, 1) := by decide +kernel
theorem dX3_digest_68 : decode cX3_digest 68 = .ok (.ladd, 1) := by decide +kernel
theorem dX3_digest_69 : decode cX3_digest 69 = .ok (.lstore_n 1, 1) := by decide +kernel
theorem dX3_digest_70 : decode cX3_digest 70 = .ok (.iconst 0, 1) := by decide +kernel
theorem dX3_digest_71 : decode cX3_digest 71 = .ok (.istore_n 3, 1) := by decide +kernel
theorem dX3_digest_72 : decode cX3_digest 72 = .ok (.iload_n 3, 1) := by decide +kernel
theorem dX3_digest_73 : decode cX3_digest 73 = .ok (.bipush 8, 2) := by decide +kernel
