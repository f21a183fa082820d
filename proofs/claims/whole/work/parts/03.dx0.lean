theorem dX0_init_0 : decode cX0_init 0 = .ok (.aload_n 0, 1) := by decide +kernel
theorem dX0_init_1 : decode cX0_init 1 = .ok (.invokespecial 3, 3) := by decide +kernel
theorem dX0_init_4 : decode cX0_init 4 = .ok (.aload_n 0, 1) := by decide +kernel
theorem dX0_init_5 : decode cX0_init 5 = .ok (.iconst 0, 1) := by decide +kernel
theorem dX0_init_6 : decode cX0_init 6 = .ok (.putfield 9, 3) := by decide +kernel
theorem dX0_init_9 : decode cX0_init 9 = .ok (.aload_n 0, 1) := by decide +kernel
theorem dX0_init_10 : decode cX0_init 10 = .ok (.bipush 8, 2) := by decide +kernel
theorem dX0_init_12 : decode cX0_init 12 = .ok (.newarray .int, 2) := by decide +kernel
theorem dX0_init_14 : decode cX0_init 14 = .ok (.putfield 15, 3) := by decide +kernel
theorem dX0_init_17 : decode cX0_init 17 = .ok (.aload_n 0, 1) := by decide +kernel
theorem dX0_init_18 : decode cX0_init 18 = .ok (.bipush 24, 2) := by decide +kernel
theorem dX0_init_20 : decode cX0_init 20 = .ok (.newarray .int, 2) := by decide +kernel
theorem dX0_init_22 : decode cX0_init 22 = .ok (.putfield 19, 3) := by decide +kernel
theorem dX0_init_25 : decode cX0_init 25 = .ok (.aload_n 0, 1) := by decide +kernel
theorem dX0_init_26 : decode cX0_init 26 = .ok (.bipush 8, 2) := by decide +kernel
theorem dX0_init_28 : decode cX0_init 28 = .ok (.newarray .int, 2) := by decide +kernel
theorem dX0_init_30 : decode cX0_init 30 = .ok (.putfield 22, 3) := by decide +kernel
theorem dX0_init_33 : decode cX0_init 33 = .ok (.aload_n 0, 1) := by decide +kernel
theorem dX0_init_34 : decode cX0_init 34 = .ok (.bipush 8, 2) := by decide +kernel
theorem dX0_init_36 : decode cX0_init 36 = .ok (.newarray .int, 2) := by decide +kernel
theorem dX0_init_38 : decode cX0_init 38 = .ok (.putfield 25, 3) := by decide +kernel
theorem dX0_init_41 : decode cX0_init 41 = .ok (.return_, 1) := by decide +kernel
theorem dX0_begin_0 : decode cX0_begin 0 = .ok (.aload_n 0, 1) := by decide +kernel
theorem dX0_begin_1 : decode cX0_begin 1 = .ok (.iload_n 1, 1) := by decide +kernel
theorem dX0_begin_2 : decode cX0_begin 2 = .ok (.putfield 28, 3) := by decide +kernel
theorem dX0_begin_5 : decode cX0_begin 5 = .ok (.aload_n 0, 1) := by decide +kernel
theorem dX0_begin_6 : decode cX0_begin 6 = .ok (.bipush 40, 2) := by decide +kernel
theorem dX0_begin_8 : decode cX0_begin 8 = .ok (.putfield 32, 3) := by decide +kernel
theorem dX0_begin_11 : decode cX0_begin 11 = .ok (.aload_n 0, 1) := by decide +kernel
theorem dX0_begin_12 : decode cX0_begin 12 = .ok (.bipush 9, 2) := by decide +kernel
theorem dX0_begin_14 : decode cX0_begin 14 = .ok (.putfield 35, 3) := by decide +kernel
theorem dX0_begin_17 : decode cX0_begin 17 = .ok (.aload_n 0, 1) := by decide +kernel
theorem dX0_begin_18 : decode cX0_begin 18 = .ok (.bipush 20, 2) := by decide +kernel
theorem dX0_begin_20 : decode cX0_begin 20 = .ok (.iconst 0, 1) := by decide +kernel
theorem dX0_begin_21 : decode cX0_begin 21 = .ok (.iconst 0, 1) := by decide +kernel
theorem dX0_begin_22 : decode cX0_begin 22 = .ok (.invokestatic 38, 3) := by decide +kernel
theorem dX0_begin_25 : decode cX0_begin 25 = .ok (.putfield 42, 3) := by decide +kernel
theorem dX0_begin_28 : decode cX0_begin 28 = .ok (.aload_n 0, 1) := by decide +kernel
theorem dX0_begin_29 : decode cX0_begin 29 = .ok (.iconst 0, 1) := by decide +kernel
theorem dX0_begin_30 : decode cX0_begin 30 = .ok (.putfield 44, 3) := by decide +kernel
theorem dX0_begin_33 : decode cX0_begin 33 = .ok (.aload_n 0, 1) := by decide +kernel
theorem dX0_begin_34 : decode cX0_begin 34 = .ok (.iconst 0, 1) := by decide +kernel
theorem dX0_begin_35 : decode cX0_begin 35 = .ok (.putfield 47, 3) := by decide +kernel
theorem dX0_begin_38 : decode cX0_begin 38 = .ok (.aload_n 0, 1) := by decide +kernel
theorem dX0_begin_39 : decode cX0_begin 39 = .ok (.iconst 0, 1) := by decide +kernel
theorem dX0_begin_40 : decode cX0_begin 40 = .ok (.putfield 50, 3) := by decide +kernel
theorem dX0_begin_43 : decode cX0_begin 43 = .ok (.getstatic 53, 3) := by decide +kernel
theorem dX0_begin_46 : decode cX0_begin 46 = .ok (.iconst 0, 1) := by decide +kernel
theorem dX0_begin_47 : decode cX0_begin 47 = .ok (.aload_n 0, 1) := by decide +kernel
theorem dX0_begin_48 : decode cX0_begin 48 = .ok (.getfield 15, 3) := by decide +kernel
theorem dX0_begin_51 : decode cX0_begin 51 = .ok (.iconst 0, 1) := by decide +kernel
theorem dX0_begin_52 : decode cX0_begin 52 = .ok (.bipush 8, 2) := by decide +kernel
theorem dX0_begin_54 : decode cX0_begin 54 = .ok (.invokestatic 56, 3) := by decide +kernel
theorem dX0_begin_57 : decode cX0_begin 57 = .ok (.return_, 1) := by decide +kernel
theorem dX0_take_0 : decode cX0_take 0 = .ok (.aload_n 0, 1) := by decide +kernel
theorem dX0_take_1 : decode cX0_take 1 = .ok (.aload_n 1, 1) := by decide +kernel
theorem dX0_take_2 : decode cX0_take 2 = .ok (.getfield 28, 3) := by decide +kernel
theorem dX0_take_5 : decode cX0_take 5 = .ok (.putfield 28, 3) := by decide +kernel
theorem dX0_take_8 : decode cX0_take 8 = .ok (.aload_n 0, 1) := by decide +kernel
theorem dX0_take_9 : decode cX0_take 9 = .ok (.aload_n 1, 1) := by decide +kernel
theorem dX0_take_10 : decode cX0_take 10 = .ok (.getfield 32, 3) := by decide +kernel
theorem dX0_take_13 : decode cX0_take 13 = .ok (.putfield 32, 3) := by decide +kernel
theorem dX0_take_16 : decode cX0_take 16 = .ok (.aload_n 0, 1) := by decide +kernel
theorem dX0_take_17 : decode cX0_take 17 = .ok (.aload_n 1, 1) := by decide +kernel
theorem dX0_take_18 : decode cX0_take 18 = .ok (.getfield 35, 3) := by decide +kernel
theorem dX0_take_21 : decode cX0_take 21 = .ok (.putfield 35, 3) := by decide +kernel
theorem dX0_take_24 : decode cX0_take 24 = .ok (.aload_n 0, 1) := by decide +kernel
theorem dX0_take_25 : decode cX0_take 25 = .ok (.aload_n 1, 1) := by decide +kernel
theorem dX0_take_26 : decode cX0_take 26 = .ok (.getfield 42, 3) := by decide +kernel
theorem dX0_take_29 : decode cX0_take 29 = .ok (.putfield 42, 3) := by decide +kernel
theorem dX0_take_32 : decode cX0_take 32 = .ok (.aload_n 0, 1) := by decide +kernel
theorem dX0_take_33 : decode cX0_take 33 = .ok (.aload_n 1, 1) := by decide +kernel
theorem dX0_take_34 : decode cX0_take 34 = .ok (.getfield 44, 3) := by decide +kernel
theorem dX0_take_37 : decode cX0_take 37 = .ok (.putfield 44, 3) := by decide +kernel
theorem dX0_take_40 : decode cX0_take 40 = .ok (.aload_n 0, 1) := by decide +kernel
theorem dX0_take_41 : decode cX0_take 41 = .ok (.aload_n 1, 1) := by decide +kernel
theorem dX0_take_42 : decode cX0_take 42 = .ok (.getfield 47, 3) := by decide +kernel
theorem dX0_take_45 : decode cX0_take 45 = .ok (.putfield 47, 3) := by decide +kernel
theorem dX0_take_48 : decode cX0_take 48 = .ok (.aload_n 0, 1) := by decide +kernel
theorem dX0_take_49 : decode cX0_take 49 = .ok (.aload_n 1, 1) := by decide +kernel
theorem dX0_take_50 : decode cX0_take 50 = .ok (.getfield 50, 3) := by decide +kernel
theorem dX0_take_53 : decode cX0_take 53 = .ok (.putfield 50, 3) := by decide +kernel
theorem dX0_take_56 : decode cX0_take 56 = .ok (.aload_n 1, 1) := by decide +kernel
theorem dX0_take_57 : decode cX0_take 57 = .ok (.getfield 15, 3) := by decide +kernel
theorem dX0_take_60 : decode cX0_take 60 = .ok (.iconst 0, 1) := by decide +kernel
theorem dX0_take_61 : decode cX0_take 61 = .ok (.aload_n 0, 1) := by decide +kernel
theorem dX0_take_62 : decode cX0_take 62 = .ok (.getfield 15, 3) := by decide +kernel
theorem dX0_take_65 : decode cX0_take 65 = .ok (.iconst 0, 1) := by decide +kernel
theorem dX0_take_66 : decode cX0_take 66 = .ok (.bipush 8, 2) := by decide +kernel
theorem dX0_take_68 : decode cX0_take 68 = .ok (.invokestatic 56, 3) := by decide +kernel
theorem dX0_take_71 : decode cX0_take 71 = .ok (.aload_n 1, 1) := by decide +kernel
theorem dX0_take_72 : decode cX0_take 72 = .ok (.getfield 19, 3) := by decide +kernel
theorem dX0_take_75 : decode cX0_take 75 = .ok (.iconst 0, 1) := by decide +kernel
theorem dX0_take_76 : decode cX0_take 76 = .ok (.aload_n 0, 1) := by decide +kernel
theorem dX0_take_77 : decode cX0_take 77 = .ok (.getfield 19, 3) := by decide +kernel
theorem dX0_take_80 : decode cX0_take 80 = .ok (.iconst 0, 1) := by decide +kernel
theorem dX0_take_81 : decode cX0_take 81 = .ok (.bipush 24, 2) := by decide +kernel
theorem dX0_take_83 : decode cX0_take 83 = .ok (.invokestatic 56, 3) := by decide +kernel
theorem dX0_take_86 : decode cX0_take 86 = .ok (.aload_n 1, 1) := by decide +kernel
theorem dX0_take_87 : decode cX0_take 87 = .ok (.getfield 22, 3) := by decide +kernel
theorem dX0_take_90 : decode cX0_take 90 = .ok (.iconst 0, 1) := by decide +kernel
theorem dX0_take_91 : decode cX0_take 91 = .ok (.aload_n 0, 1) := by decide +kernel
theorem dX0_take_92 : decode cX0_take 92 = .ok (.getfield 22, 3) := by decide +kernel
theorem dX0_take_95 : decode cX0_take 95 = .ok (.iconst 0, 1) := by decide +kernel
theorem dX0_take_96 : decode cX0_take 96 = .ok (.bipush 8, 2) := by decide +kernel
theorem dX0_take_98 : decode cX0_take 98 = .ok (.invokestatic 56, 3) := by decide +kernel
theorem dX0_take_101 : decode cX0_take 101 = .ok (.aload_n 1, 1) := by decide +kernel
theorem dX0_take_102 : decode cX0_take 102 = .ok (.getfield 25, 3) := by decide +kernel
theorem dX0_take_105 : decode cX0_take 105 = .ok (.iconst 0, 1) := by decide +kernel
theorem dX0_take_106 : decode cX0_take 106 = .ok (.aload_n 0, 1) := by decide +kernel
theorem dX0_take_107 : decode cX0_take 107 = .ok (.getfield 25, 3) := by decide +kernel
theorem dX0_take_110 : decode cX0_take 110 = .ok (.iconst 0, 1) := by decide +kernel
theorem dX0_take_111 : decode cX0_take 111 = .ok (.bipush 8, 2) := by decide +kernel
theorem dX0_take_113 : decode cX0_take 113 = .ok (.invokestatic 56, 3) := by decide +kernel
theorem dX0_take_116 : decode cX0_take 116 = .ok (.return_, 1) := by decide +kernel
theorem dX0_feel_0 : decode cX0_feel 0 = .ok (.aload_n 0, 1) := by decide +kernel
theorem dX0_feel_1 : decode cX0_feel 1 = .ok (.iload_n 1, 1) := by decide +kernel
theorem dX0_feel_2 : decode cX0_feel 2 = .ok (.iload_n 2, 1) := by decide +kernel
theorem dX0_feel_3 : decode cX0_feel 3 = .ok (.aload_n 0, 1) := by decide +kernel
theorem dX0_feel_4 : decode cX0_feel 4 = .ok (.getfield 42, 3) := by decide +kernel
theorem dX0_feel_7 : decode cX0_feel 7 = .ok (.invokestatic 62, 3) := by decide +kernel
theorem dX0_feel_10 : decode cX0_feel 10 = .ok (.invokestatic 38, 3) := by decide +kernel
theorem dX0_feel_13 : decode cX0_feel 13 = .ok (.putfield 42, 3) := by decide +kernel
theorem dX0_feel_16 : decode cX0_feel 16 = .ok (.return_, 1) := by decide +kernel
theorem dX0_hear_0 : decode cX0_hear 0 = .ok (.iload_n 1, 1) := by decide +kernel
theorem dX0_hear_1 : decode cX0_hear 1 = .ok (.invokestatic 66, 3) := by decide +kernel
theorem dX0_hear_4 : decode cX0_hear 4 = .ok (.aload_n 0, 1) := by decide +kernel
theorem dX0_hear_5 : decode cX0_hear 5 = .ok (.getfield 28, 3) := by decide +kernel
theorem dX0_hear_8 : decode cX0_hear 8 = .ok (.iload_n 3, 1) := by decide +kernel
theorem dX0_hear_9 : decode cX0_hear 9 = .ok (.iload_n 2, 1) := by decide +kernel
theorem dX0_hear_10 : decode cX0_hear 10 = .ok (.invokestatic 69, 3) := by decide +kernel
theorem dX0_hear_13 : decode cX0_hear 13 = .ok (.iadd, 1) := by decide +kernel
theorem dX0_hear_14 : decode cX0_hear 14 = .ok (.invokestatic 72, 3) := by decide +kernel
theorem dX0_hear_17 : decode cX0_hear 17 = .ok (.istore 4, 2) := by decide +kernel
theorem dX0_hear_19 : decode cX0_hear 19 = .ok (.iload_n 1, 1) := by decide +kernel
theorem dX0_hear_20 : decode cX0_hear 20 = .ok (.invokestatic 75, 3) := by decide +kernel
theorem dX0_hear_23 : decode cX0_hear 23 = .ok (.aload_n 0, 1) := by decide +kernel
theorem dX0_hear_24 : decode cX0_hear 24 = .ok (.getfield 28, 3) := by decide +kernel
theorem dX0_hear_27 : decode cX0_hear 27 = .ok (.iload_n 3, 1) := by decide +kernel
theorem dX0_hear_28 : decode cX0_hear 28 = .ok (.iload_n 2, 1) := by decide +kernel
theorem dX0_hear_29 : decode cX0_hear 29 = .ok (.invokestatic 78, 3) := by decide +kernel
theorem dX0_hear_32 : decode cX0_hear 32 = .ok (.iadd, 1) := by decide +kernel
theorem dX0_hear_33 : decode cX0_hear 33 = .ok (.invokestatic 72, 3) := by decide +kernel
theorem dX0_hear_36 : decode cX0_hear 36 = .ok (.istore 5, 2) := by decide +kernel
theorem dX0_hear_38 : decode cX0_hear 38 = .ok (.aload_n 0, 1) := by decide +kernel
theorem dX0_hear_39 : decode cX0_hear 39 = .ok (.iload 4, 2) := by decide +kernel
theorem dX0_hear_41 : decode cX0_hear 41 = .ok (.iload 5, 2) := by decide +kernel
theorem dX0_hear_43 : decode cX0_hear 43 = .ok (.iload_n 3, 1) := by decide +kernel
theorem dX0_hear_44 : decode cX0_hear 44 = .ok (.invokevirtual 81, 3) := by decide +kernel
theorem dX0_hear_47 : decode cX0_hear 47 = .ok (.ireturn, 1) := by decide +kernel
theorem dX0_judge_0 : decode cX0_judge 0 = .ok (.iconst 0, 1) := by decide +kernel
theorem dX0_judge_1 : decode cX0_judge 1 = .ok (.istore 4, 2) := by decide +kernel
theorem dX0_judge_3 : decode cX0_judge 3 = .ok (.iload_n 1, 1) := by decide +kernel
theorem dX0_judge_4 : decode cX0_judge 4 = .ok (.aload_n 0, 1) := by decide +kernel
theorem dX0_judge_5 : decode cX0_judge 5 = .ok (.getfield 32, 3) := by decide +kernel
theorem dX0_judge_8 : decode cX0_judge 8 = .ok (.if_icmp .lt 9, 3) := by decide +kernel
theorem dX0_judge_11 : decode cX0_judge 11 = .ok (.iconst 2, 1) := by decide +kernel
theorem dX0_judge_12 : decode cX0_judge 12 = .ok (.istore 4, 2) := by decide +kernel
theorem dX0_judge_14 : decode cX0_judge 14 = .ok (.goto 19, 3) := by decide +kernel
theorem dX0_judge_17 : decode cX0_judge 17 = .ok (.iload_n 3, 1) := by decide +kernel
theorem dX0_judge_18 : decode cX0_judge 18 = .ok (.iconst 1, 1) := by decide +kernel
theorem dX0_judge_19 : decode cX0_judge 19 = .ok (.if_icmp .ne 14, 3) := by decide +kernel
theorem dX0_judge_22 : decode cX0_judge 22 = .ok (.iload_n 2, 1) := by decide +kernel
theorem dX0_judge_23 : decode cX0_judge 23 = .ok (.aload_n 0, 1) := by decide +kernel
theorem dX0_judge_24 : decode cX0_judge 24 = .ok (.getfield 35, 3) := by decide +kernel
theorem dX0_judge_27 : decode cX0_judge 27 = .ok (.if_icmp .lt 6, 3) := by decide +kernel
theorem dX0_judge_30 : decode cX0_judge 30 = .ok (.iconst 1, 1) := by decide +kernel
theorem dX0_judge_31 : decode cX0_judge 31 = .ok (.istore 4, 2) := by decide +kernel
theorem dX0_judge_33 : decode cX0_judge 33 = .ok (.iload_n 1, 1) := by decide +kernel
theorem dX0_judge_34 : decode cX0_judge 34 = .ok (.iload_n 2, 1) := by decide +kernel
theorem dX0_judge_35 : decode cX0_judge 35 = .ok (.iload 4, 2) := by decide +kernel
theorem dX0_judge_37 : decode cX0_judge 37 = .ok (.invokestatic 38, 3) := by decide +kernel
theorem dX0_judge_40 : decode cX0_judge 40 = .ok (.ireturn, 1) := by decide +kernel
theorem dX0_listen_0 : decode cX0_listen 0 = .ok (.aload_n 0, 1) := by decide +kernel
theorem dX0_listen_1 : decode cX0_listen 1 = .ok (.aload_n 0, 1) := by decide +kernel
theorem dX0_listen_2 : decode cX0_listen 2 = .ok (.aload_n 0, 1) := by decide +kernel
theorem dX0_listen_3 : decode cX0_listen 3 = .ok (.getfield 42, 3) := by decide +kernel
theorem dX0_listen_6 : decode cX0_listen 6 = .ok (.aload_n 0, 1) := by decide +kernel
theorem dX0_listen_7 : decode cX0_listen 7 = .ok (.getfield 44, 3) := by decide +kernel
theorem dX0_listen_10 : decode cX0_listen 10 = .ok (.iload_n 1, 1) := by decide +kernel
theorem dX0_listen_11 : decode cX0_listen 11 = .ok (.invokevirtual 84, 3) := by decide +kernel
theorem dX0_listen_14 : decode cX0_listen 14 = .ok (.putfield 42, 3) := by decide +kernel
theorem dX0_listen_17 : decode cX0_listen 17 = .ok (.aload_n 0, 1) := by decide +kernel
theorem dX0_listen_18 : decode cX0_listen 18 = .ok (.dup, 1) := by decide +kernel
theorem dX0_listen_19 : decode cX0_listen 19 = .ok (.getfield 44, 3) := by decide +kernel
theorem dX0_listen_22 : decode cX0_listen 22 = .ok (.iconst 1, 1) := by decide +kernel
theorem dX0_listen_23 : decode cX0_listen 23 = .ok (.iadd, 1) := by decide +kernel
theorem dX0_listen_24 : decode cX0_listen 24 = .ok (.putfield 44, 3) := by decide +kernel
theorem dX0_listen_27 : decode cX0_listen 27 = .ok (.return_, 1) := by decide +kernel
theorem dX0_remember_0 : decode cX0_remember 0 = .ok (.aload_n 0, 1) := by decide +kernel
theorem dX0_remember_1 : decode cX0_remember 1 = .ok (.getfield 50, 3) := by decide +kernel
theorem dX0_remember_4 : decode cX0_remember 4 = .ok (.bipush 8, 2) := by decide +kernel
theorem dX0_remember_6 : decode cX0_remember 6 = .ok (.if_icmp .lt 39, 3) := by decide +kernel
theorem dX0_remember_9 : decode cX0_remember 9 = .ok (.aload_n 0, 1) := by decide +kernel
theorem dX0_remember_10 : decode cX0_remember 10 = .ok (.getfield 22, 3) := by decide +kernel
theorem dX0_remember_13 : decode cX0_remember 13 = .ok (.iconst 1, 1) := by decide +kernel
theorem dX0_remember_14 : decode cX0_remember 14 = .ok (.aload_n 0, 1) := by decide +kernel
theorem dX0_remember_15 : decode cX0_remember 15 = .ok (.getfield 22, 3) := by decide +kernel
theorem dX0_remember_18 : decode cX0_remember 18 = .ok (.iconst 0, 1) := by decide +kernel
theorem dX0_remember_19 : decode cX0_remember 19 = .ok (.bipush 7, 2) := by decide +kernel
theorem dX0_remember_21 : decode cX0_remember 21 = .ok (.invokestatic 56, 3) := by decide +kernel
theorem dX0_remember_24 : decode cX0_remember 24 = .ok (.aload_n 0, 1) := by decide +kernel
theorem dX0_remember_25 : decode cX0_remember 25 = .ok (.getfield 25, 3) := by decide +kernel
theorem dX0_remember_28 : decode cX0_remember 28 = .ok (.iconst 1, 1) := by decide +kernel
theorem dX0_remember_29 : decode cX0_remember 29 = .ok (.aload_n 0, 1) := by decide +kernel
theorem dX0_remember_30 : decode cX0_remember 30 = .ok (.getfield 25, 3) := by decide +kernel
theorem dX0_remember_33 : decode cX0_remember 33 = .ok (.iconst 0, 1) := by decide +kernel
theorem dX0_remember_34 : decode cX0_remember 34 = .ok (.bipush 7, 2) := by decide +kernel
theorem dX0_remember_36 : decode cX0_remember 36 = .ok (.invokestatic 56, 3) := by decide +kernel
theorem dX0_remember_39 : decode cX0_remember 39 = .ok (.aload_n 0, 1) := by decide +kernel
theorem dX0_remember_40 : decode cX0_remember 40 = .ok (.bipush 7, 2) := by decide +kernel
theorem dX0_remember_42 : decode cX0_remember 42 = .ok (.putfield 50, 3) := by decide +kernel
theorem dX0_remember_45 : decode cX0_remember 45 = .ok (.aload_n 0, 1) := by decide +kernel
theorem dX0_remember_46 : decode cX0_remember 46 = .ok (.getfield 22, 3) := by decide +kernel
theorem dX0_remember_49 : decode cX0_remember 49 = .ok (.aload_n 0, 1) := by decide +kernel
theorem dX0_remember_50 : decode cX0_remember 50 = .ok (.getfield 50, 3) := by decide +kernel
theorem dX0_remember_53 : decode cX0_remember 53 = .ok (.aload_n 0, 1) := by decide +kernel
theorem dX0_remember_54 : decode cX0_remember 54 = .ok (.getfield 42, 3) := by decide +kernel
theorem dX0_remember_57 : decode cX0_remember 57 = .ok (.invokestatic 87, 3) := by decide +kernel
theorem dX0_remember_60 : decode cX0_remember 60 = .ok (.aload_n 0, 1) := by decide +kernel
theorem dX0_remember_61 : decode cX0_remember 61 = .ok (.getfield 25, 3) := by decide +kernel
theorem dX0_remember_64 : decode cX0_remember 64 = .ok (.aload_n 0, 1) := by decide +kernel
theorem dX0_remember_65 : decode cX0_remember 65 = .ok (.getfield 50, 3) := by decide +kernel
theorem dX0_remember_68 : decode cX0_remember 68 = .ok (.aload_n 0, 1) := by decide +kernel
theorem dX0_remember_69 : decode cX0_remember 69 = .ok (.getfield 44, 3) := by decide +kernel
theorem dX0_remember_72 : decode cX0_remember 72 = .ok (.invokestatic 87, 3) := by decide +kernel
theorem dX0_remember_75 : decode cX0_remember 75 = .ok (.aload_n 0, 1) := by decide +kernel
theorem dX0_remember_76 : decode cX0_remember 76 = .ok (.dup, 1) := by decide +kernel
theorem dX0_remember_77 : decode cX0_remember 77 = .ok (.getfield 50, 3) := by decide +kernel
theorem dX0_remember_80 : decode cX0_remember 80 = .ok (.iconst 1, 1) := by decide +kernel
theorem dX0_remember_81 : decode cX0_remember 81 = .ok (.iadd, 1) := by decide +kernel
theorem dX0_remember_82 : decode cX0_remember 82 = .ok (.putfield 50, 3) := by decide +kernel
theorem dX0_remember_85 : decode cX0_remember 85 = .ok (.return_, 1) := by decide +kernel
theorem dX0_goBack_0 : decode cX0_goBack 0 = .ok (.aload_n 0, 1) := by decide +kernel
theorem dX0_goBack_1 : decode cX0_goBack 1 = .ok (.dup, 1) := by decide +kernel
theorem dX0_goBack_2 : decode cX0_goBack 2 = .ok (.getfield 50, 3) := by decide +kernel
theorem dX0_goBack_5 : decode cX0_goBack 5 = .ok (.iconst 1, 1) := by decide +kernel
theorem dX0_goBack_6 : decode cX0_goBack 6 = .ok (.isub, 1) := by decide +kernel
theorem dX0_goBack_7 : decode cX0_goBack 7 = .ok (.putfield 50, 3) := by decide +kernel
theorem dX0_goBack_10 : decode cX0_goBack 10 = .ok (.aload_n 0, 1) := by decide +kernel
theorem dX0_goBack_11 : decode cX0_goBack 11 = .ok (.aload_n 0, 1) := by decide +kernel
theorem dX0_goBack_12 : decode cX0_goBack 12 = .ok (.getfield 22, 3) := by decide +kernel
theorem dX0_goBack_15 : decode cX0_goBack 15 = .ok (.aload_n 0, 1) := by decide +kernel
theorem dX0_goBack_16 : decode cX0_goBack 16 = .ok (.getfield 50, 3) := by decide +kernel
theorem dX0_goBack_19 : decode cX0_goBack 19 = .ok (.invokestatic 91, 3) := by decide +kernel
theorem dX0_goBack_22 : decode cX0_goBack 22 = .ok (.putfield 42, 3) := by decide +kernel
theorem dX0_goBack_25 : decode cX0_goBack 25 = .ok (.aload_n 0, 1) := by decide +kernel
theorem dX0_goBack_26 : decode cX0_goBack 26 = .ok (.aload_n 0, 1) := by decide +kernel
theorem dX0_goBack_27 : decode cX0_goBack 27 = .ok (.getfield 25, 3) := by decide +kernel
theorem dX0_goBack_30 : decode cX0_goBack 30 = .ok (.aload_n 0, 1) := by decide +kernel
theorem dX0_goBack_31 : decode cX0_goBack 31 = .ok (.getfield 50, 3) := by decide +kernel
theorem dX0_goBack_34 : decode cX0_goBack 34 = .ok (.invokestatic 91, 3) := by decide +kernel
theorem dX0_goBack_37 : decode cX0_goBack 37 = .ok (.putfield 44, 3) := by decide +kernel
theorem dX0_goBack_40 : decode cX0_goBack 40 = .ok (.return_, 1) := by decide +kernel
theorem dX0_addNote_0 : decode cX0_addNote 0 = .ok (.aload_n 0, 1) := by decide +kernel
theorem dX0_addNote_1 : decode cX0_addNote 1 = .ok (.getfield 47, 3) := by decide +kernel
theorem dX0_addNote_4 : decode cX0_addNote 4 = .ok (.iconst 4, 1) := by decide +kernel
theorem dX0_addNote_5 : decode cX0_addNote 5 = .ok (.imul, 1) := by decide +kernel
theorem dX0_addNote_6 : decode cX0_addNote 6 = .ok (.istore 5, 2) := by decide +kernel
theorem dX0_addNote_8 : decode cX0_addNote 8 = .ok (.aload_n 0, 1) := by decide +kernel
theorem dX0_addNote_9 : decode cX0_addNote 9 = .ok (.getfield 19, 3) := by decide +kernel
theorem dX0_addNote_12 : decode cX0_addNote 12 = .ok (.iload 5, 2) := by decide +kernel
theorem dX0_addNote_14 : decode cX0_addNote 14 = .ok (.iload_n 1, 1) := by decide +kernel
theorem dX0_addNote_15 : decode cX0_addNote 15 = .ok (.invokestatic 87, 3) := by decide +kernel
theorem dX0_addNote_18 : decode cX0_addNote 18 = .ok (.aload_n 0, 1) := by decide +kernel
theorem dX0_addNote_19 : decode cX0_addNote 19 = .ok (.getfield 19, 3) := by decide +kernel
theorem dX0_addNote_22 : decode cX0_addNote 22 = .ok (.iload 5, 2) := by decide +kernel
theorem dX0_addNote_24 : decode cX0_addNote 24 = .ok (.iconst 1, 1) := by decide +kernel
theorem dX0_addNote_25 : decode cX0_addNote 25 = .ok (.iadd, 1) := by decide +kernel
theorem dX0_addNote_26 : decode cX0_addNote 26 = .ok (.iload_n 2, 1) := by decide +kernel
theorem dX0_addNote_27 : decode cX0_addNote 27 = .ok (.invokestatic 87, 3) := by decide +kernel
theorem dX0_addNote_30 : decode cX0_addNote 30 = .ok (.aload_n 0, 1) := by decide +kernel
theorem dX0_addNote_31 : decode cX0_addNote 31 = .ok (.getfield 19, 3) := by decide +kernel
theorem dX0_addNote_34 : decode cX0_addNote 34 = .ok (.iload 5, 2) := by decide +kernel
theorem dX0_addNote_36 : decode cX0_addNote 36 = .ok (.iconst 2, 1) := by decide +kernel
theorem dX0_addNote_37 : decode cX0_addNote 37 = .ok (.iadd, 1) := by decide +kernel
theorem dX0_addNote_38 : decode cX0_addNote 38 = .ok (.iload_n 3, 1) := by decide +kernel
theorem dX0_addNote_39 : decode cX0_addNote 39 = .ok (.invokestatic 87, 3) := by decide +kernel
theorem dX0_addNote_42 : decode cX0_addNote 42 = .ok (.aload_n 0, 1) := by decide +kernel
theorem dX0_addNote_43 : decode cX0_addNote 43 = .ok (.getfield 19, 3) := by decide +kernel
theorem dX0_addNote_46 : decode cX0_addNote 46 = .ok (.iload 5, 2) := by decide +kernel
theorem dX0_addNote_48 : decode cX0_addNote 48 = .ok (.iconst 3, 1) := by decide +kernel
theorem dX0_addNote_49 : decode cX0_addNote 49 = .ok (.iadd, 1) := by decide +kernel
theorem dX0_addNote_50 : decode cX0_addNote 50 = .ok (.iload 4, 2) := by decide +kernel
theorem dX0_addNote_52 : decode cX0_addNote 52 = .ok (.invokestatic 87, 3) := by decide +kernel
theorem dX0_addNote_55 : decode cX0_addNote 55 = .ok (.aload_n 0, 1) := by decide +kernel
theorem dX0_addNote_56 : decode cX0_addNote 56 = .ok (.dup, 1) := by decide +kernel
theorem dX0_addNote_57 : decode cX0_addNote 57 = .ok (.getfield 47, 3) := by decide +kernel
theorem dX0_addNote_60 : decode cX0_addNote 60 = .ok (.iconst 1, 1) := by decide +kernel
theorem dX0_addNote_61 : decode cX0_addNote 61 = .ok (.iadd, 1) := by decide +kernel
theorem dX0_addNote_62 : decode cX0_addNote 62 = .ok (.putfield 47, 3) := by decide +kernel
theorem dX0_addNote_65 : decode cX0_addNote 65 = .ok (.return_, 1) := by decide +kernel
theorem dX0_notesFit_0 : decode cX0_notesFit 0 = .ok (.iconst 0, 1) := by decide +kernel
theorem dX0_notesFit_1 : decode cX0_notesFit 1 = .ok (.istore_n 2, 1) := by decide +kernel
theorem dX0_notesFit_2 : decode cX0_notesFit 2 = .ok (.iload_n 2, 1) := by decide +kernel
theorem dX0_notesFit_3 : decode cX0_notesFit 3 = .ok (.aload_n 0, 1) := by decide +kernel
theorem dX0_notesFit_4 : decode cX0_notesFit 4 = .ok (.getfield 47, 3) := by decide +kernel
theorem dX0_notesFit_7 : decode cX0_notesFit 7 = .ok (.if_icmp .ge 91, 3) := by decide +kernel
theorem dX0_notesFit_10 : decode cX0_notesFit 10 = .ok (.iload_n 2, 1) := by decide +kernel
theorem dX0_notesFit_11 : decode cX0_notesFit 11 = .ok (.iconst 4, 1) := by decide +kernel
theorem dX0_notesFit_12 : decode cX0_notesFit 12 = .ok (.imul, 1) := by decide +kernel
theorem dX0_notesFit_13 : decode cX0_notesFit 13 = .ok (.istore_n 3, 1) := by decide +kernel
theorem dX0_notesFit_14 : decode cX0_notesFit 14 = .ok (.aload_n 0, 1) := by decide +kernel
theorem dX0_notesFit_15 : decode cX0_notesFit 15 = .ok (.getfield 19, 3) := by decide +kernel
theorem dX0_notesFit_18 : decode cX0_notesFit 18 = .ok (.iload_n 3, 1) := by decide +kernel
theorem dX0_notesFit_19 : decode cX0_notesFit 19 = .ok (.invokestatic 91, 3) := by decide +kernel
theorem dX0_notesFit_22 : decode cX0_notesFit 22 = .ok (.istore 4, 2) := by decide +kernel
theorem dX0_notesFit_24 : decode cX0_notesFit 24 = .ok (.aload_n 0, 1) := by decide +kernel
theorem dX0_notesFit_25 : decode cX0_notesFit 25 = .ok (.getfield 19, 3) := by decide +kernel
theorem dX0_notesFit_28 : decode cX0_notesFit 28 = .ok (.iload_n 3, 1) := by decide +kernel
theorem dX0_notesFit_29 : decode cX0_notesFit 29 = .ok (.iconst 1, 1) := by decide +kernel
theorem dX0_notesFit_30 : decode cX0_notesFit 30 = .ok (.iadd, 1) := by decide +kernel
theorem dX0_notesFit_31 : decode cX0_notesFit 31 = .ok (.invokestatic 91, 3) := by decide +kernel
theorem dX0_notesFit_34 : decode cX0_notesFit 34 = .ok (.istore 5, 2) := by decide +kernel
theorem dX0_notesFit_36 : decode cX0_notesFit 36 = .ok (.iload_n 1, 1) := by decide +kernel
theorem dX0_notesFit_37 : decode cX0_notesFit 37 = .ok (.iload 4, 2) := by decide +kernel
theorem dX0_notesFit_39 : decode cX0_notesFit 39 = .ok (.iload 5, 2) := by decide +kernel
theorem dX0_notesFit_41 : decode cX0_notesFit 41 = .ok (.invokestatic 69, 3) := by decide +kernel
theorem dX0_notesFit_44 : decode cX0_notesFit 44 = .ok (.aload_n 0, 1) := by decide +kernel
theorem dX0_notesFit_45 : decode cX0_notesFit 45 = .ok (.getfield 19, 3) := by decide +kernel
theorem dX0_notesFit_48 : decode cX0_notesFit 48 = .ok (.iload_n 3, 1) := by decide +kernel
theorem dX0_notesFit_49 : decode cX0_notesFit 49 = .ok (.iconst 2, 1) := by decide +kernel
theorem dX0_notesFit_50 : decode cX0_notesFit 50 = .ok (.iadd, 1) := by decide +kernel
theorem dX0_notesFit_51 : decode cX0_notesFit 51 = .ok (.invokestatic 91, 3) := by decide +kernel
theorem dX0_notesFit_54 : decode cX0_notesFit 54 = .ok (.if_icmp .ne 28, 3) := by decide +kernel
theorem dX0_notesFit_57 : decode cX0_notesFit 57 = .ok (.iload_n 1, 1) := by decide +kernel
theorem dX0_notesFit_58 : decode cX0_notesFit 58 = .ok (.iload 4, 2) := by decide +kernel
theorem dX0_notesFit_60 : decode cX0_notesFit 60 = .ok (.iload 5, 2) := by decide +kernel
theorem dX0_notesFit_62 : decode cX0_notesFit 62 = .ok (.invokestatic 78, 3) := by decide +kernel
theorem dX0_notesFit_65 : decode cX0_notesFit 65 = .ok (.aload_n 0, 1) := by decide +kernel
theorem dX0_notesFit_66 : decode cX0_notesFit 66 = .ok (.getfield 19, 3) := by decide +kernel
theorem dX0_notesFit_69 : decode cX0_notesFit 69 = .ok (.iload_n 3, 1) := by decide +kernel
theorem dX0_notesFit_70 : decode cX0_notesFit 70 = .ok (.iconst 3, 1) := by decide +kernel
theorem dX0_notesFit_71 : decode cX0_notesFit 71 = .ok (.iadd, 1) := by decide +kernel
theorem dX0_notesFit_72 : decode cX0_notesFit 72 = .ok (.invokestatic 91, 3) := by decide +kernel
theorem dX0_notesFit_75 : decode cX0_notesFit 75 = .ok (.if_icmp .ne 7, 3) := by decide +kernel
theorem dX0_notesFit_78 : decode cX0_notesFit 78 = .ok (.iconst 1, 1) := by decide +kernel
theorem dX0_notesFit_79 : decode cX0_notesFit 79 = .ok (.goto 4, 3) := by decide +kernel
theorem dX0_notesFit_82 : decode cX0_notesFit 82 = .ok (.iconst 0, 1) := by decide +kernel
theorem dX0_notesFit_83 : decode cX0_notesFit 83 = .ok (.istore 6, 2) := by decide +kernel
theorem dX0_notesFit_85 : decode cX0_notesFit 85 = .ok (.iload 6, 2) := by decide +kernel
theorem dX0_notesFit_87 : decode cX0_notesFit 87 = .ok (.ifCond .ne 5, 3) := by decide +kernel
theorem dX0_notesFit_90 : decode cX0_notesFit 90 = .ok (.iconst 0, 1) := by decide +kernel
theorem dX0_notesFit_91 : decode cX0_notesFit 91 = .ok (.ireturn, 1) := by decide +kernel
theorem dX0_notesFit_92 : decode cX0_notesFit 92 = .ok (.iinc 2 1, 3) := by decide +kernel
theorem dX0_notesFit_95 : decode cX0_notesFit 95 = .ok (.goto (-93), 3) := by decide +kernel
theorem dX0_notesFit_98 : decode cX0_notesFit 98 = .ok (.iconst 1, 1) := by decide +kernel
theorem dX0_notesFit_99 : decode cX0_notesFit 99 = .ok (.ireturn, 1) := by decide +kernel
theorem dX1_init_0 : decode cX1_init 0 = .ok (.aload_n 0, 1) := by decide +kernel
theorem dX1_init_1 : decode cX1_init 1 = .ok (.invokespecial 3, 3) := by decide +kernel
theorem dX1_init_4 : decode cX1_init 4 = .ok (.aload_n 0, 1) := by decide +kernel
theorem dX1_init_5 : decode cX1_init 5 = .ok (.sipush 150, 3) := by decide +kernel
theorem dX1_init_8 : decode cX1_init 8 = .ok (.newarray .int, 2) := by decide +kernel
theorem dX1_init_10 : decode cX1_init 10 = .ok (.putfield 9, 3) := by decide +kernel
theorem dX1_init_13 : decode cX1_init 13 = .ok (.aload_n 0, 1) := by decide +kernel
theorem dX1_init_14 : decode cX1_init 14 = .ok (.iconst 0, 1) := by decide +kernel
theorem dX1_init_15 : decode cX1_init 15 = .ok (.putfield 15, 3) := by decide +kernel
theorem dX1_init_18 : decode cX1_init 18 = .ok (.aload_n 0, 1) := by decide +kernel
theorem dX1_init_19 : decode cX1_init 19 = .ok (.iconst 0, 1) := by decide +kernel
theorem dX1_init_20 : decode cX1_init 20 = .ok (.putfield 19, 3) := by decide +kernel
theorem dX1_init_23 : decode cX1_init 23 = .ok (.aload_n 0, 1) := by decide +kernel
theorem dX1_init_24 : decode cX1_init 24 = .ok (.iconst 0, 1) := by decide +kernel
theorem dX1_init_25 : decode cX1_init 25 = .ok (.putfield 22, 3) := by decide +kernel
theorem dX1_init_28 : decode cX1_init 28 = .ok (.aload_n 0, 1) := by decide +kernel
theorem dX1_init_29 : decode cX1_init 29 = .ok (.iconst 0, 1) := by decide +kernel
theorem dX1_init_30 : decode cX1_init 30 = .ok (.putfield 25, 3) := by decide +kernel
theorem dX1_init_33 : decode cX1_init 33 = .ok (.aload_n 0, 1) := by decide +kernel
theorem dX1_init_34 : decode cX1_init 34 = .ok (.iconst (-1), 1) := by decide +kernel
theorem dX1_init_35 : decode cX1_init 35 = .ok (.putfield 28, 3) := by decide +kernel
theorem dX1_init_38 : decode cX1_init 38 = .ok (.return_, 1) := by decide +kernel
theorem dX1_byteAt_0 : decode cX1_byteAt 0 = .ok (.iload_n 1, 1) := by decide +kernel
theorem dX1_byteAt_1 : decode cX1_byteAt 1 = .ok (.ifCond .lt 29, 3) := by decide +kernel
theorem dX1_byteAt_4 : decode cX1_byteAt 4 = .ok (.iload_n 1, 1) := by decide +kernel
theorem dX1_byteAt_5 : decode cX1_byteAt 5 = .ok (.aload_n 0, 1) := by decide +kernel
theorem dX1_byteAt_6 : decode cX1_byteAt 6 = .ok (.getfield 15, 3) := by decide +kernel
theorem dX1_byteAt_9 : decode cX1_byteAt 9 = .ok (.if_icmp .ge 21, 3) := by decide +kernel
theorem dX1_byteAt_12 : decode cX1_byteAt 12 = .ok (.iload_n 1, 1) := by decide +kernel
theorem dX1_byteAt_13 : decode cX1_byteAt 13 = .ok (.aload_n 0, 1) := by decide +kernel
theorem dX1_byteAt_14 : decode cX1_byteAt 14 = .ok (.getfield 9, 3) := by decide +kernel
theorem dX1_byteAt_17 : decode cX1_byteAt 17 = .ok (.arraylength, 1) := by decide +kernel
theorem dX1_byteAt_18 : decode cX1_byteAt 18 = .ok (.if_icmp .ge 12, 3) := by decide +kernel
theorem dX1_byteAt_21 : decode cX1_byteAt 21 = .ok (.aload_n 0, 1) := by decide +kernel
theorem dX1_byteAt_22 : decode cX1_byteAt 22 = .ok (.getfield 9, 3) := by decide +kernel
theorem dX1_byteAt_25 : decode cX1_byteAt 25 = .ok (.iload_n 1, 1) := by decide +kernel
theorem dX1_byteAt_26 : decode cX1_byteAt 26 = .ok (.iaload, 1) := by decide +kernel
theorem dX1_byteAt_27 : decode cX1_byteAt 27 = .ok (.goto 4, 3) := by decide +kernel
theorem dX1_byteAt_30 : decode cX1_byteAt 30 = .ok (.iconst (-1), 1) := by decide +kernel
theorem dX1_byteAt_31 : decode cX1_byteAt 31 = .ok (.ireturn, 1) := by decide +kernel
theorem dX1_isLetter_0 : decode cX1_isLetter 0 = .ok (.iload_n 0, 1) := by decide +kernel
theorem dX1_isLetter_1 : decode cX1_isLetter 1 = .ok (.bipush 97, 2) := by decide +kernel
theorem dX1_isLetter_3 : decode cX1_isLetter 3 = .ok (.if_icmp .lt 13, 3) := by decide +kernel
theorem dX1_isLetter_6 : decode cX1_isLetter 6 = .ok (.iload_n 0, 1) := by decide +kernel
theorem dX1_isLetter_7 : decode cX1_isLetter 7 = .ok (.bipush 122, 2) := by decide +kernel
theorem dX1_isLetter_9 : decode cX1_isLetter 9 = .ok (.if_icmp .gt 7, 3) := by decide +kernel
theorem dX1_isLetter_12 : decode cX1_isLetter 12 = .ok (.iconst 1, 1) := by decide +kernel
theorem dX1_isLetter_13 : decode cX1_isLetter 13 = .ok (.goto 4, 3) := by decide +kernel
theorem dX1_isLetter_16 : decode cX1_isLetter 16 = .ok (.iconst 0, 1) := by decide +kernel
theorem dX1_isLetter_17 : decode cX1_isLetter 17 = .ok (.ireturn, 1) := by decide +kernel
theorem dX1_isFigure_0 : decode cX1_isFigure 0 = .ok (.iload_n 0, 1) := by decide +kernel
theorem dX1_isFigure_1 : decode cX1_isFigure 1 = .ok (.bipush 48, 2) := by decide +kernel
theorem dX1_isFigure_3 : decode cX1_isFigure 3 = .ok (.if_icmp .lt 13, 3) := by decide +kernel
theorem dX1_isFigure_6 : decode cX1_isFigure 6 = .ok (.iload_n 0, 1) := by decide +kernel
theorem dX1_isFigure_7 : decode cX1_isFigure 7 = .ok (.bipush 57, 2) := by decide +kernel
theorem dX1_isFigure_9 : decode cX1_isFigure 9 = .ok (.if_icmp .gt 7, 3) := by decide +kernel
theorem dX1_isFigure_12 : decode cX1_isFigure 12 = .ok (.iconst 1, 1) := by decide +kernel
theorem dX1_isFigure_13 : decode cX1_isFigure 13 = .ok (.goto 4, 3) := by decide +kernel
theorem dX1_isFigure_16 : decode cX1_isFigure 16 = .ok (.iconst 0, 1) := by decide +kernel
theorem dX1_isFigure_17 : decode cX1_isFigure 17 = .ok (.ireturn, 1) := by decide +kernel
theorem dX1_advance_0 : decode cX1_advance 0 = .ok (.aload_n 0, 1) := by decide +kernel
theorem dX1_advance_1 : decode cX1_advance 1 = .ok (.getfield 19, 3) := by decide +kernel
theorem dX1_advance_4 : decode cX1_advance 4 = .ok (.aload_n 0, 1) := by decide +kernel
theorem dX1_advance_5 : decode cX1_advance 5 = .ok (.getfield 15, 3) := by decide +kernel
theorem dX1_advance_8 : decode cX1_advance 8 = .ok (.if_icmp .ge 29, 3) := by decide +kernel
theorem dX1_advance_11 : decode cX1_advance 11 = .ok (.aload_n 0, 1) := by decide +kernel
theorem dX1_advance_12 : decode cX1_advance 12 = .ok (.aload_n 0, 1) := by decide +kernel
theorem dX1_advance_13 : decode cX1_advance 13 = .ok (.getfield 19, 3) := by decide +kernel
theorem dX1_advance_16 : decode cX1_advance 16 = .ok (.invokevirtual 31, 3) := by decide +kernel
theorem dX1_advance_19 : decode cX1_advance 19 = .ok (.bipush 32, 2) := by decide +kernel
theorem dX1_advance_21 : decode cX1_advance 21 = .ok (.if_icmp .ne 16, 3) := by decide +kernel
theorem dX1_advance_24 : decode cX1_advance 24 = .ok (.aload_n 0, 1) := by decide +kernel
theorem dX1_advance_25 : decode cX1_advance 25 = .ok (.dup, 1) := by decide +kernel
theorem dX1_advance_26 : decode cX1_advance 26 = .ok (.getfield 19, 3) := by decide +kernel
theorem dX1_advance_29 : decode cX1_advance 29 = .ok (.iconst 1, 1) := by decide +kernel
theorem dX1_advance_30 : decode cX1_advance 30 = .ok (.iadd, 1) := by decide +kernel
theorem dX1_advance_31 : decode cX1_advance 31 = .ok (.putfield 19, 3) := by decide +kernel
theorem dX1_advance_34 : decode cX1_advance 34 = .ok (.goto (-34), 3) := by decide +kernel
theorem dX1_advance_37 : decode cX1_advance 37 = .ok (.aload_n 0, 1) := by decide +kernel
theorem dX1_advance_38 : decode cX1_advance 38 = .ok (.aload_n 0, 1) := by decide +kernel
theorem dX1_advance_39 : decode cX1_advance 39 = .ok (.getfield 19, 3) := by decide +kernel
theorem dX1_advance_42 : decode cX1_advance 42 = .ok (.putfield 22, 3) := by decide +kernel
theorem dX1_advance_45 : decode cX1_advance 45 = .ok (.aload_n 0, 1) := by decide +kernel
theorem dX1_advance_46 : decode cX1_advance 46 = .ok (.aload_n 0, 1) := by decide +kernel
theorem dX1_advance_47 : decode cX1_advance 47 = .ok (.getfield 22, 3) := by decide +kernel
theorem dX1_advance_50 : decode cX1_advance 50 = .ok (.invokevirtual 31, 3) := by decide +kernel
theorem dX1_advance_53 : decode cX1_advance 53 = .ok (.istore_n 1, 1) := by decide +kernel
theorem dX1_advance_54 : decode cX1_advance 54 = .ok (.iload_n 1, 1) := by decide +kernel
theorem dX1_advance_55 : decode cX1_advance 55 = .ok (.invokestatic 35, 3) := by decide +kernel
theorem dX1_advance_58 : decode cX1_advance 58 = .ok (.ifCond .eq 10, 3) := by decide +kernel
theorem dX1_advance_61 : decode cX1_advance 61 = .ok (.aload_n 0, 1) := by decide +kernel
theorem dX1_advance_62 : decode cX1_advance 62 = .ok (.invokevirtual 39, 3) := by decide +kernel
theorem dX1_advance_65 : decode cX1_advance 65 = .ok (.goto 61, 3) := by decide +kernel
theorem dX1_advance_68 : decode cX1_advance 68 = .ok (.iload_n 1, 1) := by decide +kernel
theorem dX1_advance_69 : decode cX1_advance 69 = .ok (.invokestatic 42, 3) := by decide +kernel
theorem dX1_advance_72 : decode cX1_advance 72 = .ok (.ifCond .eq 10, 3) := by decide +kernel
theorem dX1_advance_75 : decode cX1_advance 75 = .ok (.aload_n 0, 1) := by decide +kernel
theorem dX1_advance_76 : decode cX1_advance 76 = .ok (.invokevirtual 45, 3) := by decide +kernel
theorem dX1_advance_79 : decode cX1_advance 79 = .ok (.goto 47, 3) := by decide +kernel
theorem dX1_advance_82 : decode cX1_advance 82 = .ok (.aload_n 0, 1) := by decide +kernel
theorem dX1_advance_83 : decode cX1_advance 83 = .ok (.getfield 22, 3) := by decide +kernel
theorem dX1_advance_86 : decode cX1_advance 86 = .ok (.aload_n 0, 1) := by decide +kernel
theorem dX1_advance_87 : decode cX1_advance 87 = .ok (.getfield 15, 3) := by decide +kernel
theorem dX1_advance_90 : decode cX1_advance 90 = .ok (.if_icmp .ge 31, 3) := by decide +kernel
theorem dX1_advance_93 : decode cX1_advance 93 = .ok (.aload_n 0, 1) := by decide +kernel
theorem dX1_advance_94 : decode cX1_advance 94 = .ok (.iload_n 1, 1) := by decide +kernel
theorem dX1_advance_95 : decode cX1_advance 95 = .ok (.bipush 59, 2) := by decide +kernel
theorem dX1_advance_97 : decode cX1_advance 97 = .ok (.if_icmp .ne 7, 3) := by decide +kernel
theorem dX1_advance_100 : decode cX1_advance 100 = .ok (.iconst 3, 1) := by decide +kernel
theorem dX1_advance_101 : decode cX1_advance 101 = .ok (.goto 4, 3) := by decide +kernel
theorem dX1_advance_104 : decode cX1_advance 104 = .ok (.iconst 4, 1) := by decide +kernel
theorem dX1_advance_105 : decode cX1_advance 105 = .ok (.putfield 25, 3) := by decide +kernel
theorem dX1_advance_108 : decode cX1_advance 108 = .ok (.aload_n 0, 1) := by decide +kernel
theorem dX1_advance_109 : decode cX1_advance 109 = .ok (.dup, 1) := by decide +kernel
theorem dX1_advance_110 : decode cX1_advance 110 = .ok (.getfield 19, 3) := by decide +kernel
theorem dX1_advance_113 : decode cX1_advance 113 = .ok (.iconst 1, 1) := by decide +kernel
theorem dX1_advance_114 : decode cX1_advance 114 = .ok (.iadd, 1) := by decide +kernel
theorem dX1_advance_115 : decode cX1_advance 115 = .ok (.putfield 19, 3) := by decide +kernel
theorem dX1_advance_118 : decode cX1_advance 118 = .ok (.goto 8, 3) := by decide +kernel
theorem dX1_advance_121 : decode cX1_advance 121 = .ok (.aload_n 0, 1) := by decide +kernel
theorem dX1_advance_122 : decode cX1_advance 122 = .ok (.iconst 0, 1) := by decide +kernel
theorem dX1_advance_123 : decode cX1_advance 123 = .ok (.putfield 25, 3) := by decide +kernel
theorem dX1_advance_126 : decode cX1_advance 126 = .ok (.return_, 1) := by decide +kernel
theorem dX1_passLetters_0 : decode cX1_passLetters 0 = .ok (.aload_n 0, 1) := by decide +kernel
theorem dX1_passLetters_1 : decode cX1_passLetters 1 = .ok (.iconst 1, 1) := by decide +kernel
theorem dX1_passLetters_2 : decode cX1_passLetters 2 = .ok (.putfield 25, 3) := by decide +kernel
theorem dX1_passLetters_5 : decode cX1_passLetters 5 = .ok (.aload_n 0, 1) := by decide +kernel
theorem dX1_passLetters_6 : decode cX1_passLetters 6 = .ok (.getfield 19, 3) := by decide +kernel
theorem dX1_passLetters_9 : decode cX1_passLetters 9 = .ok (.aload_n 0, 1) := by decide +kernel
theorem dX1_passLetters_10 : decode cX1_passLetters 10 = .ok (.getfield 15, 3) := by decide +kernel
theorem dX1_passLetters_13 : decode cX1_passLetters 13 = .ok (.if_icmp .ge 30, 3) := by decide +kernel
theorem dX1_passLetters_16 : decode cX1_passLetters 16 = .ok (.aload_n 0, 1) := by decide +kernel
theorem dX1_passLetters_17 : decode cX1_passLetters 17 = .ok (.aload_n 0, 1) := by decide +kernel
theorem dX1_passLetters_18 : decode cX1_passLetters 18 = .ok (.getfield 19, 3) := by decide +kernel
theorem dX1_passLetters_21 : decode cX1_passLetters 21 = .ok (.invokevirtual 31, 3) := by decide +kernel
theorem dX1_passLetters_24 : decode cX1_passLetters 24 = .ok (.invokestatic 35, 3) := by decide +kernel
theorem dX1_passLetters_27 : decode cX1_passLetters 27 = .ok (.ifCond .eq 16, 3) := by decide +kernel
theorem dX1_passLetters_30 : decode cX1_passLetters 30 = .ok (.aload_n 0, 1) := by decide +kernel
theorem dX1_passLetters_31 : decode cX1_passLetters 31 = .ok (.dup, 1) := by decide +kernel
theorem dX1_passLetters_32 : decode cX1_passLetters 32 = .ok (.getfield 19, 3) := by decide +kernel
theorem dX1_passLetters_35 : decode cX1_passLetters 35 = .ok (.iconst 1, 1) := by decide +kernel
theorem dX1_passLetters_36 : decode cX1_passLetters 36 = .ok (.iadd, 1) := by decide +kernel
theorem dX1_passLetters_37 : decode cX1_passLetters 37 = .ok (.putfield 19, 3) := by decide +kernel
theorem dX1_passLetters_40 : decode cX1_passLetters 40 = .ok (.goto (-35), 3) := by decide +kernel
theorem dX1_passLetters_43 : decode cX1_passLetters 43 = .ok (.return_, 1) := by decide +kernel
theorem dX1_passFigures_0 : decode cX1_passFigures 0 = .ok (.aload_n 0, 1) := by decide +kernel
theorem dX1_passFigures_1 : decode cX1_passFigures 1 = .ok (.iconst 2, 1) := by decide +kernel
theorem dX1_passFigures_2 : decode cX1_passFigures 2 = .ok (.putfield 25, 3) := by decide +kernel
theorem dX1_passFigures_5 : decode cX1_passFigures 5 = .ok (.iconst 0, 1) := by decide +kernel
theorem dX1_passFigures_6 : decode cX1_passFigures 6 = .ok (.istore_n 1, 1) := by decide +kernel
theorem dX1_passFigures_7 : decode cX1_passFigures 7 = .ok (.aload_n 0, 1) := by decide +kernel
theorem dX1_passFigures_8 : decode cX1_passFigures 8 = .ok (.getfield 19, 3) := by decide +kernel
theorem dX1_passFigures_11 : decode cX1_passFigures 11 = .ok (.aload_n 0, 1) := by decide +kernel
theorem dX1_passFigures_12 : decode cX1_passFigures 12 = .ok (.getfield 15, 3) := by decide +kernel
theorem dX1_passFigures_15 : decode cX1_passFigures 15 = .ok (.if_icmp .ge 47, 3) := by decide +kernel
theorem dX1_passFigures_18 : decode cX1_passFigures 18 = .ok (.aload_n 0, 1) := by decide +kernel
theorem dX1_passFigures_19 : decode cX1_passFigures 19 = .ok (.aload_n 0, 1) := by decide +kernel
theorem dX1_passFigures_20 : decode cX1_passFigures 20 = .ok (.getfield 19, 3) := by decide +kernel
theorem dX1_passFigures_23 : decode cX1_passFigures 23 = .ok (.invokevirtual 31, 3) := by decide +kernel
theorem dX1_passFigures_26 : decode cX1_passFigures 26 = .ok (.invokestatic 42, 3) := by decide +kernel
theorem dX1_passFigures_29 : decode cX1_passFigures 29 = .ok (.ifCond .eq 33, 3) := by decide +kernel
theorem dX1_passFigures_32 : decode cX1_passFigures 32 = .ok (.iload_n 1, 1) := by decide +kernel
theorem dX1_passFigures_33 : decode cX1_passFigures 33 = .ok (.bipush 10, 2) := by decide +kernel
theorem dX1_passFigures_35 : decode cX1_passFigures 35 = .ok (.imul, 1) := by decide +kernel
theorem dX1_passFigures_36 : decode cX1_passFigures 36 = .ok (.aload_n 0, 1) := by decide +kernel
theorem dX1_passFigures_37 : decode cX1_passFigures 37 = .ok (.aload_n 0, 1) := by decide +kernel
theorem dX1_passFigures_38 : decode cX1_passFigures 38 = .ok (.getfield 19, 3) := by decide +kernel
theorem dX1_passFigures_41 : decode cX1_passFigures 41 = .ok (.invokevirtual 31, 3) := by decide +kernel
theorem dX1_passFigures_44 : decode cX1_passFigures 44 = .ok (.iadd, 1) := by decide +kernel
theorem dX1_passFigures_45 : decode cX1_passFigures 45 = .ok (.bipush 48, 2) := by decide +kernel
theorem dX1_passFigures_47 : decode cX1_passFigures 47 = .ok (.isub, 1) := by decide +kernel
theorem dX1_passFigures_48 : decode cX1_passFigures 48 = .ok (.istore_n 1, 1) := by decide +kernel
theorem dX1_passFigures_49 : decode cX1_passFigures 49 = .ok (.aload_n 0, 1) := by decide +kernel
theorem dX1_passFigures_50 : decode cX1_passFigures 50 = .ok (.dup, 1) := by decide +kernel
theorem dX1_passFigures_51 : decode cX1_passFigures 51 = .ok (.getfield 19, 3) := by decide +kernel
theorem dX1_passFigures_54 : decode cX1_passFigures 54 = .ok (.iconst 1, 1) := by decide +kernel
theorem dX1_passFigures_55 : decode cX1_passFigures 55 = .ok (.iadd, 1) := by decide +kernel
theorem dX1_passFigures_56 : decode cX1_passFigures 56 = .ok (.putfield 19, 3) := by decide +kernel
theorem dX1_passFigures_59 : decode cX1_passFigures 59 = .ok (.goto (-52), 3) := by decide +kernel
theorem dX1_passFigures_62 : decode cX1_passFigures 62 = .ok (.aload_n 0, 1) := by decide +kernel
theorem dX1_passFigures_63 : decode cX1_passFigures 63 = .ok (.aload_n 0, 1) := by decide +kernel
theorem dX1_passFigures_64 : decode cX1_passFigures 64 = .ok (.getfield 19, 3) := by decide +kernel
theorem dX1_passFigures_67 : decode cX1_passFigures 67 = .ok (.aload_n 0, 1) := by decide +kernel
theorem dX1_passFigures_68 : decode cX1_passFigures 68 = .ok (.getfield 22, 3) := by decide +kernel
theorem dX1_passFigures_71 : decode cX1_passFigures 71 = .ok (.isub, 1) := by decide +kernel
theorem dX1_passFigures_72 : decode cX1_passFigures 72 = .ok (.iconst 2, 1) := by decide +kernel
theorem dX1_passFigures_73 : decode cX1_passFigures 73 = .ok (.if_icmp .le 7, 3) := by decide +kernel
theorem dX1_passFigures_76 : decode cX1_passFigures 76 = .ok (.iconst (-1), 1) := by decide +kernel
theorem dX1_passFigures_77 : decode cX1_passFigures 77 = .ok (.goto 4, 3) := by decide +kernel
theorem dX1_passFigures_80 : decode cX1_passFigures 80 = .ok (.iload_n 1, 1) := by decide +kernel
theorem dX1_passFigures_81 : decode cX1_passFigures 81 = .ok (.putfield 28, 3) := by decide +kernel
theorem dX1_passFigures_84 : decode cX1_passFigures 84 = .ok (.return_, 1) := by decide +kernel
theorem dX1_spells_0 : decode cX1_spells 0 = .ok (.aload_n 0, 1) := by decide +kernel
theorem dX1_spells_1 : decode cX1_spells 1 = .ok (.getfield 25, 3) := by decide +kernel
theorem dX1_spells_4 : decode cX1_spells 4 = .ok (.iconst 1, 1) := by decide +kernel
theorem dX1_spells_5 : decode cX1_spells 5 = .ok (.if_icmp .ne 19, 3) := by decide +kernel
theorem dX1_spells_8 : decode cX1_spells 8 = .ok (.aload_n 0, 1) := by decide +kernel
theorem dX1_spells_9 : decode cX1_spells 9 = .ok (.getfield 19, 3) := by decide +kernel
theorem dX1_spells_12 : decode cX1_spells 12 = .ok (.aload_n 0, 1) := by decide +kernel
theorem dX1_spells_13 : decode cX1_spells 13 = .ok (.getfield 22, 3) := by decide +kernel
theorem dX1_spells_16 : decode cX1_spells 16 = .ok (.isub, 1) := by decide +kernel
theorem dX1_spells_17 : decode cX1_spells 17 = .ok (.aload_n 1, 1) := by decide +kernel
theorem dX1_spells_18 : decode cX1_spells 18 = .ok (.invokevirtual 48, 3) := by decide +kernel
theorem dX1_spells_21 : decode cX1_spells 21 = .ok (.if_icmp .eq 5, 3) := by decide +kernel
theorem dX1_spells_24 : decode cX1_spells 24 = .ok (.iconst 0, 1) := by decide +kernel
theorem dX1_spells_25 : decode cX1_spells 25 = .ok (.ireturn, 1) := by decide +kernel
theorem dX1_spells_26 : decode cX1_spells 26 = .ok (.iconst 0, 1) := by decide +kernel
theorem dX1_spells_27 : decode cX1_spells 27 = .ok (.istore_n 2, 1) := by decide +kernel
theorem dX1_spells_28 : decode cX1_spells 28 = .ok (.iload_n 2, 1) := by decide +kernel
theorem dX1_spells_29 : decode cX1_spells 29 = .ok (.aload_n 1, 1) := by decide +kernel
theorem dX1_spells_30 : decode cX1_spells 30 = .ok (.invokevirtual 48, 3) := by decide +kernel
theorem dX1_spells_33 : decode cX1_spells 33 = .ok (.if_icmp .ge 29, 3) := by decide +kernel
theorem dX1_spells_36 : decode cX1_spells 36 = .ok (.aload_n 0, 1) := by decide +kernel
theorem dX1_spells_37 : decode cX1_spells 37 = .ok (.aload_n 0, 1) := by decide +kernel
theorem dX1_spells_38 : decode cX1_spells 38 = .ok (.getfield 22, 3) := by decide +kernel
theorem dX1_spells_41 : decode cX1_spells 41 = .ok (.iload_n 2, 1) := by decide +kernel
theorem dX1_spells_42 : decode cX1_spells 42 = .ok (.iadd, 1) := by decide +kernel
theorem dX1_spells_43 : decode cX1_spells 43 = .ok (.invokevirtual 31, 3) := by decide +kernel
theorem dX1_spells_46 : decode cX1_spells 46 = .ok (.aload_n 1, 1) := by decide +kernel
theorem dX1_spells_47 : decode cX1_spells 47 = .ok (.iload_n 2, 1) := by decide +kernel
theorem dX1_spells_48 : decode cX1_spells 48 = .ok (.invokevirtual 53, 3) := by decide +kernel
theorem dX1_spells_51 : decode cX1_spells 51 = .ok (.if_icmp .eq 5, 3) := by decide +kernel
theorem dX1_spells_54 : decode cX1_spells 54 = .ok (.iconst 0, 1) := by decide +kernel
theorem dX1_spells_55 : decode cX1_spells 55 = .ok (.ireturn, 1) := by decide +kernel
theorem dX1_spells_56 : decode cX1_spells 56 = .ok (.iinc 2 1, 3) := by decide +kernel
theorem dX1_spells_59 : decode cX1_spells 59 = .ok (.goto (-31), 3) := by decide +kernel
theorem dX1_spells_62 : decode cX1_spells 62 = .ok (.iconst 1, 1) := by decide +kernel
theorem dX1_spells_63 : decode cX1_spells 63 = .ok (.ireturn, 1) := by decide +kernel
theorem dX1_numberComes_0 : decode cX1_numberComes 0 = .ok (.aload_n 0, 1) := by decide +kernel
theorem dX1_numberComes_1 : decode cX1_numberComes 1 = .ok (.invokevirtual 57, 3) := by decide +kernel
theorem dX1_numberComes_4 : decode cX1_numberComes 4 = .ok (.aload_n 0, 1) := by decide +kernel
theorem dX1_numberComes_5 : decode cX1_numberComes 5 = .ok (.getfield 25, 3) := by decide +kernel
theorem dX1_numberComes_8 : decode cX1_numberComes 8 = .ok (.iconst 2, 1) := by decide +kernel
theorem dX1_numberComes_9 : decode cX1_numberComes 9 = .ok (.if_icmp .ne 19, 3) := by decide +kernel
theorem dX1_numberComes_12 : decode cX1_numberComes 12 = .ok (.aload_n 0, 1) := by decide +kernel
theorem dX1_numberComes_13 : decode cX1_numberComes 13 = .ok (.getfield 28, 3) := by decide +kernel
theorem dX1_numberComes_16 : decode cX1_numberComes 16 = .ok (.iload_n 1, 1) := by decide +kernel
theorem dX1_numberComes_17 : decode cX1_numberComes 17 = .ok (.iload_n 2, 1) := by decide +kernel
theorem dX1_numberComes_18 : decode cX1_numberComes 18 = .ok (.invokestatic 60, 3) := by decide +kernel
theorem dX1_numberComes_21 : decode cX1_numberComes 21 = .ok (.ifCond .eq 7, 3) := by decide +kernel
theorem dX1_numberComes_24 : decode cX1_numberComes 24 = .ok (.iconst 1, 1) := by decide +kernel
theorem dX1_numberComes_25 : decode cX1_numberComes 25 = .ok (.goto 4, 3) := by decide +kernel
theorem dX1_numberComes_28 : decode cX1_numberComes 28 = .ok (.iconst 0, 1) := by decide +kernel
theorem dX1_numberComes_29 : decode cX1_numberComes 29 = .ok (.ireturn, 1) := by decide +kernel
theorem dX2_init_0 : decode cX2_init 0 = .ok (.aload_n 0, 1) := by decide +kernel
theorem dX2_init_1 : decode cX2_init 1 = .ok (.invokespecial 3, 3) := by decide +kernel
theorem dX2_init_4 : decode cX2_init 4 = .ok (.aload_n 0, 1) := by decide +kernel
theorem dX2_init_5 : decode cX2_init 5 = .ok (.bipush 12, 2) := by decide +kernel
theorem dX2_init_7 : decode cX2_init 7 = .ok (.newarray .int, 2) := by decide +kernel
theorem dX2_init_9 : decode cX2_init 9 = .ok (.putfield 9, 3) := by decide +kernel
theorem dX2_init_12 : decode cX2_init 12 = .ok (.aload_n 0, 1) := by decide +kernel
theorem dX2_init_13 : decode cX2_init 13 = .ok (.sipush 10000, 3) := by decide +kernel
theorem dX2_init_16 : decode cX2_init 16 = .ok (.newarray .int, 2) := by decide +kernel
theorem dX2_init_18 : decode cX2_init 18 = .ok (.putfield 15, 3) := by decide +kernel
theorem dX2_init_21 : decode cX2_init 21 = .ok (.aload_n 0, 1) := by decide +kernel
theorem dX2_init_22 : decode cX2_init 22 = .ok (.aconst_null, 1) := by decide +kernel
theorem dX2_init_23 : decode cX2_init 23 = .ok (.putfield 18, 3) := by decide +kernel
theorem dX2_init_26 : decode cX2_init 26 = .ok (.return_, 1) := by decide +kernel
theorem dX2_spell_0 : decode cX2_spell 0 = .ok (.iload_n 1, 1) := by decide +kernel
theorem dX2_spell_1 : decode cX2_spell 1 = .ok (.ifCond .lt 13, 3) := by decide +kernel
theorem dX2_spell_4 : decode cX2_spell 4 = .ok (.iload_n 1, 1) := by decide +kernel
theorem dX2_spell_5 : decode cX2_spell 5 = .ok (.i2l, 1) := by decide +kernel
theorem dX2_spell_6 : decode cX2_spell 6 = .ok (.iload_n 2, 1) := by decide +kernel
theorem dX2_spell_7 : decode cX2_spell 7 = .ok (.invokestatic 22, 3) := by decide +kernel
theorem dX2_spell_10 : decode cX2_spell 10 = .ok (.lcmp, 1) := by decide +kernel
theorem dX2_spell_11 : decode cX2_spell 11 = .ok (.ifCond .lt 5, 3) := by decide +kernel
theorem dX2_spell_14 : decode cX2_spell 14 = .ok (.iconst (-1), 1) := by decide +kernel
theorem dX2_spell_15 : decode cX2_spell 15 = .ok (.ireturn, 1) := by decide +kernel
theorem dX2_spell_16 : decode cX2_spell 16 = .ok (.iconst 0, 1) := by decide +kernel
theorem dX2_spell_17 : decode cX2_spell 17 = .ok (.istore_n 3, 1) := by decide +kernel
theorem dX2_spell_18 : decode cX2_spell 18 = .ok (.iload_n 1, 1) := by decide +kernel
theorem dX2_spell_19 : decode cX2_spell 19 = .ok (.istore 4, 2) := by decide +kernel
theorem dX2_spell_21 : decode cX2_spell 21 = .ok (.iload 4, 2) := by decide +kernel
theorem dX2_spell_23 : decode cX2_spell 23 = .ok (.ifCond .le 22, 3) := by decide +kernel
theorem dX2_spell_26 : decode cX2_spell 26 = .ok (.iload_n 3, 1) := by decide +kernel
theorem dX2_spell_27 : decode cX2_spell 27 = .ok (.bipush 9, 2) := by decide +kernel
theorem dX2_spell_29 : decode cX2_spell 29 = .ok (.if_icmp .ge 16, 3) := by decide +kernel
theorem dX2_spell_32 : decode cX2_spell 32 = .ok (.iinc 3 1, 3) := by decide +kernel
theorem dX2_spell_35 : decode cX2_spell 35 = .ok (.iload 4, 2) := by decide +kernel
theorem dX2_spell_37 : decode cX2_spell 37 = .ok (.bipush 10, 2) := by decide +kernel
theorem dX2_spell_39 : decode cX2_spell 39 = .ok (.idiv, 1) := by decide +kernel
theorem dX2_spell_40 : decode cX2_spell 40 = .ok (.istore 4, 2) := by decide +kernel
theorem dX2_spell_42 : decode cX2_spell 42 = .ok (.goto (-21), 3) := by decide +kernel
theorem dX2_spell_45 : decode cX2_spell 45 = .ok (.iload_n 1, 1) := by decide +kernel
theorem dX2_spell_46 : decode cX2_spell 46 = .ok (.istore 4, 2) := by decide +kernel
theorem dX2_spell_48 : decode cX2_spell 48 = .ok (.iload_n 3, 1) := by decide +kernel
theorem dX2_spell_49 : decode cX2_spell 49 = .ok (.iconst 1, 1) := by decide +kernel
theorem dX2_spell_50 : decode cX2_spell 50 = .ok (.isub, 1) := by decide +kernel
theorem dX2_spell_51 : decode cX2_spell 51 = .ok (.istore 5, 2) := by decide +kernel
theorem dX2_spell_53 : decode cX2_spell 53 = .ok (.iload 5, 2) := by decide +kernel
theorem dX2_spell_55 : decode cX2_spell 55 = .ok (.ifCond .lt 46, 3) := by decide +kernel
theorem dX2_spell_58 : decode cX2_spell 58 = .ok (.iload 4, 2) := by decide +kernel
theorem dX2_spell_60 : decode cX2_spell 60 = .ok (.bipush 10, 2) := by decide +kernel
theorem dX2_spell_62 : decode cX2_spell 62 = .ok (.irem, 1) := by decide +kernel
theorem dX2_spell_63 : decode cX2_spell 63 = .ok (.iconst 1, 1) := by decide +kernel
theorem dX2_spell_64 : decode cX2_spell 64 = .ok (.isub, 1) := by decide +kernel
theorem dX2_spell_65 : decode cX2_spell 65 = .ok (.istore 6, 2) := by decide +kernel
theorem dX2_spell_67 : decode cX2_spell 67 = .ok (.iload 6, 2) := by decide +kernel
theorem dX2_spell_69 : decode cX2_spell 69 = .ok (.invokestatic 26, 3) := by decide +kernel
theorem dX2_spell_72 : decode cX2_spell 72 = .ok (.ifCond .ne 5, 3) := by decide +kernel
theorem dX2_spell_75 : decode cX2_spell 75 = .ok (.iconst (-1), 1) := by decide +kernel
theorem dX2_spell_76 : decode cX2_spell 76 = .ok (.ireturn, 1) := by decide +kernel
theorem dX2_spell_77 : decode cX2_spell 77 = .ok (.aload_n 0, 1) := by decide +kernel
theorem dX2_spell_78 : decode cX2_spell 78 = .ok (.getfield 9, 3) := by decide +kernel
theorem dX2_spell_81 : decode cX2_spell 81 = .ok (.iload 5, 2) := by decide +kernel
theorem dX2_spell_83 : decode cX2_spell 83 = .ok (.iload 6, 2) := by decide +kernel
theorem dX2_spell_85 : decode cX2_spell 85 = .ok (.invokestatic 30, 3) := by decide +kernel
theorem dX2_spell_88 : decode cX2_spell 88 = .ok (.iload 4, 2) := by decide +kernel
theorem dX2_spell_90 : decode cX2_spell 90 = .ok (.bipush 10, 2) := by decide +kernel
theorem dX2_spell_92 : decode cX2_spell 92 = .ok (.idiv, 1) := by decide +kernel
theorem dX2_spell_93 : decode cX2_spell 93 = .ok (.istore 4, 2) := by decide +kernel
theorem dX2_spell_95 : decode cX2_spell 95 = .ok (.iinc 5 (-1), 3) := by decide +kernel
theorem dX2_spell_98 : decode cX2_spell 98 = .ok (.goto (-45), 3) := by decide +kernel
theorem dX2_spell_101 : decode cX2_spell 101 = .ok (.iload_n 3, 1) := by decide +kernel
theorem dX2_spell_102 : decode cX2_spell 102 = .ok (.ireturn, 1) := by decide +kernel
theorem dX2_shortestIn_0 : decode cX2_shortestIn 0 = .ok (.aload_n 1, 1) := by decide +kernel
theorem dX2_shortestIn_1 : decode cX2_shortestIn 1 = .ok (.getfield 34, 3) := by decide +kernel
theorem dX2_shortestIn_4 : decode cX2_shortestIn 4 = .ok (.invokestatic 40, 3) := by decide +kernel
theorem dX2_shortestIn_7 : decode cX2_shortestIn 7 = .ok (.istore_n 2, 1) := by decide +kernel
theorem dX2_shortestIn_8 : decode cX2_shortestIn 8 = .ok (.iload_n 2, 1) := by decide +kernel
theorem dX2_shortestIn_9 : decode cX2_shortestIn 9 = .ok (.ifCond .eq 14, 3) := by decide +kernel
theorem dX2_shortestIn_12 : decode cX2_shortestIn 12 = .ok (.iload_n 2, 1) := by decide +kernel
theorem dX2_shortestIn_13 : decode cX2_shortestIn 13 = .ok (.iconst 1, 1) := by decide +kernel
theorem dX2_shortestIn_14 : decode cX2_shortestIn 14 = .ok (.if_icmp .ne 7, 3) := by decide +kernel
theorem dX2_shortestIn_17 : decode cX2_shortestIn 17 = .ok (.iconst 0, 1) := by decide +kernel
theorem dX2_shortestIn_18 : decode cX2_shortestIn 18 = .ok (.goto 4, 3) := by decide +kernel
theorem dX2_shortestIn_21 : decode cX2_shortestIn 21 = .ok (.iconst (-1), 1) := by decide +kernel
theorem dX2_shortestIn_22 : decode cX2_shortestIn 22 = .ok (.ireturn, 1) := by decide +kernel
theorem dX2_shortestIn_23 : decode cX2_shortestIn 23 = .ok (.aload_n 0, 1) := by decide +kernel
theorem dX2_shortestIn_24 : decode cX2_shortestIn 24 = .ok (.aload_n 1, 1) := by decide +kernel
theorem dX2_shortestIn_25 : decode cX2_shortestIn 25 = .ok (.iconst 1, 1) := by decide +kernel
theorem dX2_shortestIn_26 : decode cX2_shortestIn 26 = .ok (.iconst 0, 1) := by decide +kernel
theorem dX2_shortestIn_27 : decode cX2_shortestIn 27 = .ok (.invokevirtual 44, 3) := by decide +kernel
theorem dX2_shortestIn_30 : decode cX2_shortestIn 30 = .ok (.iconst 1, 1) := by decide +kernel
theorem dX2_shortestIn_31 : decode cX2_shortestIn 31 = .ok (.istore_n 3, 1) := by decide +kernel
theorem dX2_shortestIn_32 : decode cX2_shortestIn 32 = .ok (.iload_n 3, 1) := by decide +kernel
theorem dX2_shortestIn_33 : decode cX2_shortestIn 33 = .ok (.bipush 12, 2) := by decide +kernel
theorem dX2_shortestIn_35 : decode cX2_shortestIn 35 = .ok (.if_icmp .gt 28, 3) := by decide +kernel
theorem dX2_shortestIn_38 : decode cX2_shortestIn 38 = .ok (.aload_n 0, 1) := by decide +kernel
theorem dX2_shortestIn_39 : decode cX2_shortestIn 39 = .ok (.aload_n 1, 1) := by decide +kernel
theorem dX2_shortestIn_40 : decode cX2_shortestIn 40 = .ok (.getfield 34, 3) := by decide +kernel
theorem dX2_shortestIn_43 : decode cX2_shortestIn 43 = .ok (.aload_n 1, 1) := by decide +kernel
theorem dX2_shortestIn_44 : decode cX2_shortestIn 44 = .ok (.getfield 48, 3) := by decide +kernel
theorem dX2_shortestIn_47 : decode cX2_shortestIn 47 = .ok (.iconst 0, 1) := by decide +kernel
theorem dX2_shortestIn_48 : decode cX2_shortestIn 48 = .ok (.iload_n 3, 1) := by decide +kernel
theorem dX2_shortestIn_49 : decode cX2_shortestIn 49 = .ok (.invokestatic 51, 3) := by decide +kernel
theorem dX2_shortestIn_52 : decode cX2_shortestIn 52 = .ok (.ifCond .eq 5, 3) := by decide +kernel
theorem dX2_shortestIn_55 : decode cX2_shortestIn 55 = .ok (.iload_n 3, 1) := by decide +kernel
theorem dX2_shortestIn_56 : decode cX2_shortestIn 56 = .ok (.ireturn, 1) := by decide +kernel
theorem dX2_shortestIn_57 : decode cX2_shortestIn 57 = .ok (.iinc 3 1, 3) := by decide +kernel
theorem dX2_shortestIn_60 : decode cX2_shortestIn 60 = .ok (.goto (-28), 3) := by decide +kernel
theorem dX2_shortestIn_63 : decode cX2_shortestIn 63 = .ok (.iconst (-1), 1) := by decide +kernel
theorem dX2_shortestIn_64 : decode cX2_shortestIn 64 = .ok (.ireturn, 1) := by decide +kernel
theorem dX2_longestOut_0 : decode cX2_longestOut 0 = .ok (.aload_n 1, 1) := by decide +kernel
theorem dX2_longestOut_1 : decode cX2_longestOut 1 = .ok (.getfield 34, 3) := by decide +kernel
theorem dX2_longestOut_4 : decode cX2_longestOut 4 = .ok (.invokestatic 40, 3) := by decide +kernel
theorem dX2_longestOut_7 : decode cX2_longestOut 7 = .ok (.ifCond .eq 5, 3) := by decide +kernel
theorem dX2_longestOut_10 : decode cX2_longestOut 10 = .ok (.iconst 0, 1) := by decide +kernel
theorem dX2_longestOut_11 : decode cX2_longestOut 11 = .ok (.ireturn, 1) := by decide +kernel
theorem dX2_longestOut_12 : decode cX2_longestOut 12 = .ok (.aload_n 0, 1) := by decide +kernel
theorem dX2_longestOut_13 : decode cX2_longestOut 13 = .ok (.aload_n 1, 1) := by decide +kernel
theorem dX2_longestOut_14 : decode cX2_longestOut 14 = .ok (.iconst 0, 1) := by decide +kernel
theorem dX2_longestOut_15 : decode cX2_longestOut 15 = .ok (.iload_n 2, 1) := by decide +kernel
theorem dX2_longestOut_16 : decode cX2_longestOut 16 = .ok (.invokevirtual 44, 3) := by decide +kernel
theorem dX2_longestOut_19 : decode cX2_longestOut 19 = .ok (.bipush 12, 2) := by decide +kernel
theorem dX2_longestOut_21 : decode cX2_longestOut 21 = .ok (.istore_n 3, 1) := by decide +kernel
theorem dX2_longestOut_22 : decode cX2_longestOut 22 = .ok (.iload_n 3, 1) := by decide +kernel
theorem dX2_longestOut_23 : decode cX2_longestOut 23 = .ok (.ifCond .le 28, 3) := by decide +kernel
theorem dX2_longestOut_26 : decode cX2_longestOut 26 = .ok (.aload_n 0, 1) := by decide +kernel
theorem dX2_longestOut_27 : decode cX2_longestOut 27 = .ok (.aload_n 1, 1) := by decide +kernel
theorem dX2_longestOut_28 : decode cX2_longestOut 28 = .ok (.getfield 34, 3) := by decide +kernel
theorem dX2_longestOut_31 : decode cX2_longestOut 31 = .ok (.aload_n 1, 1) := by decide +kernel
theorem dX2_longestOut_32 : decode cX2_longestOut 32 = .ok (.getfield 48, 3) := by decide +kernel
theorem dX2_longestOut_35 : decode cX2_longestOut 35 = .ok (.iconst 0, 1) := by decide +kernel
theorem dX2_longestOut_36 : decode cX2_longestOut 36 = .ok (.iload_n 3, 1) := by decide +kernel
theorem dX2_longestOut_37 : decode cX2_longestOut 37 = .ok (.invokestatic 51, 3) := by decide +kernel
theorem dX2_longestOut_40 : decode cX2_longestOut 40 = .ok (.ifCond .eq 5, 3) := by decide +kernel
theorem dX2_longestOut_43 : decode cX2_longestOut 43 = .ok (.iload_n 3, 1) := by decide +kernel
theorem dX2_longestOut_44 : decode cX2_longestOut 44 = .ok (.ireturn, 1) := by decide +kernel
theorem dX2_longestOut_45 : decode cX2_longestOut 45 = .ok (.iinc 3 (-1), 3) := by decide +kernel
theorem dX2_longestOut_48 : decode cX2_longestOut 48 = .ok (.goto (-26), 3) := by decide +kernel
theorem dX2_longestOut_51 : decode cX2_longestOut 51 = .ok (.iconst 0, 1) := by decide +kernel
theorem dX2_longestOut_52 : decode cX2_longestOut 52 = .ok (.ireturn, 1) := by decide +kernel
theorem dX2_seek_0 : decode cX2_seek 0 = .ok (.aload_n 0, 1) := by decide +kernel
theorem dX2_seek_1 : decode cX2_seek 1 = .ok (.aload_n 1, 1) := by decide +kernel
theorem dX2_seek_2 : decode cX2_seek 2 = .ok (.putfield 18, 3) := by decide +kernel
theorem dX2_seek_5 : decode cX2_seek 5 = .ok (.aload_n 0, 1) := by decide +kernel
theorem dX2_seek_6 : decode cX2_seek 6 = .ok (.iload_n 2, 1) := by decide +kernel
theorem dX2_seek_7 : decode cX2_seek 7 = .ok (.putfield 55, 3) := by decide +kernel
theorem dX2_seek_10 : decode cX2_seek 10 = .ok (.aload_n 0, 1) := by decide +kernel
theorem dX2_seek_11 : decode cX2_seek 11 = .ok (.iload_n 3, 1) := by decide +kernel
theorem dX2_seek_12 : decode cX2_seek 12 = .ok (.putfield 58, 3) := by decide +kernel
theorem dX2_seek_15 : decode cX2_seek 15 = .ok (.aload_n 0, 1) := by decide +kernel
theorem dX2_seek_16 : decode cX2_seek 16 = .ok (.getfield 15, 3) := by decide +kernel
theorem dX2_seek_19 : decode cX2_seek 19 = .ok (.iconst 0, 1) := by decide +kernel
theorem dX2_seek_20 : decode cX2_seek 20 = .ok (.invokestatic 62, 3) := by decide +kernel
theorem dX2_seek_23 : decode cX2_seek 23 = .ok (.aload_n 0, 1) := by decide +kernel
theorem dX2_seek_24 : decode cX2_seek 24 = .ok (.aload_n 1, 1) := by decide +kernel
theorem dX2_seek_25 : decode cX2_seek 25 = .ok (.getfield 68, 3) := by decide +kernel
theorem dX2_seek_28 : decode cX2_seek 28 = .ok (.iconst 1, 1) := by decide +kernel
theorem dX2_seek_29 : decode cX2_seek 29 = .ok (.iconst 0, 1) := by decide +kernel
theorem dX2_seek_30 : decode cX2_seek 30 = .ok (.invokestatic 71, 3) := by decide +kernel
theorem dX2_seek_33 : decode cX2_seek 33 = .ok (.putfield 75, 3) := by decide +kernel
theorem dX2_seek_36 : decode cX2_seek 36 = .ok (.aload_n 0, 1) := by decide +kernel
theorem dX2_seek_37 : decode cX2_seek 37 = .ok (.iconst 0, 1) := by decide +kernel
theorem dX2_seek_38 : decode cX2_seek 38 = .ok (.putfield 78, 3) := by decide +kernel
theorem dX2_seek_41 : decode cX2_seek 41 = .ok (.iconst 0, 1) := by decide +kernel
theorem dX2_seek_42 : decode cX2_seek 42 = .ok (.istore 4, 2) := by decide +kernel
theorem dX2_seek_44 : decode cX2_seek 44 = .ok (.iload 4, 2) := by decide +kernel
theorem dX2_seek_46 : decode cX2_seek 46 = .ok (.bipush 6, 2) := by decide +kernel
theorem dX2_seek_48 : decode cX2_seek 48 = .ok (.if_icmp .ge 30, 3) := by decide +kernel
theorem dX2_seek_51 : decode cX2_seek 51 = .ok (.aload_n 0, 1) := by decide +kernel
theorem dX2_seek_52 : decode cX2_seek 52 = .ok (.aload_n 0, 1) := by decide +kernel
theorem dX2_seek_53 : decode cX2_seek 53 = .ok (.getfield 78, 3) := by decide +kernel
theorem dX2_seek_56 : decode cX2_seek 56 = .ok (.aload_n 1, 1) := by decide +kernel
theorem dX2_seek_57 : decode cX2_seek 57 = .ok (.getfield 68, 3) := by decide +kernel
theorem dX2_seek_60 : decode cX2_seek 60 = .ok (.iload 4, 2) := by decide +kernel
theorem dX2_seek_62 : decode cX2_seek 62 = .ok (.iconst 0, 1) := by decide +kernel
theorem dX2_seek_63 : decode cX2_seek 63 = .ok (.invokestatic 71, 3) := by decide +kernel
theorem dX2_seek_66 : decode cX2_seek 66 = .ok (.invokestatic 81, 3) := by decide +kernel
theorem dX2_seek_69 : decode cX2_seek 69 = .ok (.putfield 78, 3) := by decide +kernel
theorem dX2_seek_72 : decode cX2_seek 72 = .ok (.iinc 4 1, 3) := by decide +kernel
theorem dX2_seek_75 : decode cX2_seek 75 = .ok (.goto (-31), 3) := by decide +kernel
theorem dX2_seek_78 : decode cX2_seek 78 = .ok (.return_, 1) := by decide +kernel
theorem dX2_reaches_0 : decode cX2_reaches 0 = .ok (.aload_n 0, 1) := by decide +kernel
theorem dX2_reaches_1 : decode cX2_reaches 1 = .ok (.getfield 18, 3) := by decide +kernel
theorem dX2_reaches_4 : decode cX2_reaches 4 = .ok (.ifnull 28, 3) := by decide +kernel
theorem dX2_reaches_7 : decode cX2_reaches 7 = .ok (.iload 4, 2) := by decide +kernel
theorem dX2_reaches_9 : decode cX2_reaches 9 = .ok (.iconst 1, 1) := by decide +kernel
theorem dX2_reaches_10 : decode cX2_reaches 10 = .ok (.if_icmp .lt 22, 3) := by decide +kernel
theorem dX2_reaches_13 : decode cX2_reaches 13 = .ok (.iload_n 3, 1) := by decide +kernel
theorem dX2_reaches_14 : decode cX2_reaches 14 = .ok (.iload 4, 2) := by decide +kernel
theorem dX2_reaches_16 : decode cX2_reaches 16 = .ok (.iadd, 1) := by decide +kernel
theorem dX2_reaches_17 : decode cX2_reaches 17 = .ok (.bipush 12, 2) := by decide +kernel
theorem dX2_reaches_19 : decode cX2_reaches 19 = .ok (.if_icmp .gt 13, 3) := by decide +kernel
theorem dX2_reaches_22 : decode cX2_reaches 22 = .ok (.aload_n 0, 1) := by decide +kernel
theorem dX2_reaches_23 : decode cX2_reaches 23 = .ok (.iload_n 1, 1) := by decide +kernel
theorem dX2_reaches_24 : decode cX2_reaches 24 = .ok (.iload 4, 2) := by decide +kernel
theorem dX2_reaches_26 : decode cX2_reaches 26 = .ok (.invokestatic 87, 3) := by decide +kernel
theorem dX2_reaches_29 : decode cX2_reaches 29 = .ok (.ifCond .eq 5, 3) := by decide +kernel
theorem dX2_reaches_32 : decode cX2_reaches 32 = .ok (.iconst 0, 1) := by decide +kernel
theorem dX2_reaches_33 : decode cX2_reaches 33 = .ok (.ireturn, 1) := by decide +kernel
theorem dX2_reaches_34 : decode cX2_reaches 34 = .ok (.iconst 1, 1) := by decide +kernel
theorem dX2_reaches_35 : decode cX2_reaches 35 = .ok (.iload 4, 2) := by decide +kernel
theorem dX2_reaches_37 : decode cX2_reaches 37 = .ok (.iload_n 2, 1) := by decide +kernel
theorem dX2_reaches_38 : decode cX2_reaches 38 = .ok (.iconst 2, 1) := by decide +kernel
theorem dX2_reaches_39 : decode cX2_reaches 39 = .ok (.irem, 1) := by decide +kernel
theorem dX2_reaches_40 : decode cX2_reaches 40 = .ok (.ifCond .ne 7, 3) := by decide +kernel
theorem dX2_reaches_43 : decode cX2_reaches 43 = .ok (.iconst 0, 1) := by decide +kernel
theorem dX2_reaches_44 : decode cX2_reaches 44 = .ok (.goto 5, 3) := by decide +kernel
theorem dX2_reaches_47 : decode cX2_reaches 47 = .ok (.bipush 13, 2) := by decide +kernel
theorem dX2_reaches_49 : decode cX2_reaches 49 = .ok (.iadd, 1) := by decide +kernel
theorem dX2_reaches_50 : decode cX2_reaches 50 = .ok (.ishl, 1) := by decide +kernel
theorem dX2_reaches_51 : decode cX2_reaches 51 = .ok (.istore 5, 2) := by decide +kernel
theorem dX2_reaches_53 : decode cX2_reaches 53 = .ok (.iload_n 1, 1) := by decide +kernel
theorem dX2_reaches_54 : decode cX2_reaches 54 = .ok (.sipush 10000, 3) := by decide +kernel
theorem dX2_reaches_57 : decode cX2_reaches 57 = .ok (.irem, 1) := by decide +kernel
theorem dX2_reaches_58 : decode cX2_reaches 58 = .ok (.istore 6, 2) := by decide +kernel
theorem dX2_reaches_60 : decode cX2_reaches 60 = .ok (.aload_n 0, 1) := by decide +kernel
theorem dX2_reaches_61 : decode cX2_reaches 61 = .ok (.getfield 15, 3) := by decide +kernel
theorem dX2_reaches_64 : decode cX2_reaches 64 = .ok (.iload 6, 2) := by decide +kernel
theorem dX2_reaches_66 : decode cX2_reaches 66 = .ok (.invokestatic 91, 3) := by decide +kernel
theorem dX2_reaches_69 : decode cX2_reaches 69 = .ok (.iload 5, 2) := by decide +kernel
theorem dX2_reaches_71 : decode cX2_reaches 71 = .ok (.iand, 1) := by decide +kernel
theorem dX2_reaches_72 : decode cX2_reaches 72 = .ok (.ifCond .eq 5, 3) := by decide +kernel
theorem dX2_reaches_75 : decode cX2_reaches 75 = .ok (.iconst 0, 1) := by decide +kernel
theorem dX2_reaches_76 : decode cX2_reaches 76 = .ok (.ireturn, 1) := by decide +kernel
theorem dX2_reaches_77 : decode cX2_reaches 77 = .ok (.iconst 0, 1) := by decide +kernel
theorem dX2_reaches_78 : decode cX2_reaches 78 = .ok (.istore 7, 2) := by decide +kernel
theorem dX2_reaches_80 : decode cX2_reaches 80 = .ok (.iload 7, 2) := by decide +kernel
theorem dX2_reaches_82 : decode cX2_reaches 82 = .ok (.bipush 6, 2) := by decide +kernel
theorem dX2_reaches_84 : decode cX2_reaches 84 = .ok (.if_icmp .ge 121, 3) := by decide +kernel
theorem dX2_reaches_87 : decode cX2_reaches 87 = .ok (.aload_n 0, 1) := by decide +kernel
theorem dX2_reaches_88 : decode cX2_reaches 88 = .ok (.getfield 58, 3) := by decide +kernel
theorem dX2_reaches_91 : decode cX2_reaches 91 = .ok (.ifCond .eq 18, 3) := by decide +kernel
theorem dX2_reaches_94 : decode cX2_reaches 94 = .ok (.iload 7, 2) := by decide +kernel
theorem dX2_reaches_96 : decode cX2_reaches 96 = .ok (.iconst 3, 1) := by decide +kernel
theorem dX2_reaches_97 : decode cX2_reaches 97 = .ok (.if_icmp .eq 102, 3) := by decide +kernel
theorem dX2_reaches_100 : decode cX2_reaches 100 = .ok (.iload 7, 2) := by decide +kernel
theorem dX2_reaches_102 : decode cX2_reaches 102 = .ok (.iconst 4, 1) := by decide +kernel
theorem dX2_reaches_103 : decode cX2_reaches 103 = .ok (.if_icmp .ne 6, 3) := by decide +kernel
theorem dX2_reaches_106 : decode cX2_reaches 106 = .ok (.goto 93, 3) := by decide +kernel
theorem dX2_reaches_109 : decode cX2_reaches 109 = .ok (.aload_n 0, 1) := by decide +kernel
theorem dX2_reaches_110 : decode cX2_reaches 110 = .ok (.getfield 18, 3) := by decide +kernel
theorem dX2_reaches_113 : decode cX2_reaches 113 = .ok (.iload_n 1, 1) := by decide +kernel
theorem dX2_reaches_114 : decode cX2_reaches 114 = .ok (.iload_n 2, 1) := by decide +kernel
theorem dX2_reaches_115 : decode cX2_reaches 115 = .ok (.iload 7, 2) := by decide +kernel
theorem dX2_reaches_117 : decode cX2_reaches 117 = .ok (.invokevirtual 95, 3) := by decide +kernel
theorem dX2_reaches_120 : decode cX2_reaches 120 = .ok (.istore 8, 2) := by decide +kernel
theorem dX2_reaches_122 : decode cX2_reaches 122 = .ok (.iload 4, 2) := by decide +kernel
theorem dX2_reaches_124 : decode cX2_reaches 124 = .ok (.iconst 1, 1) := by decide +kernel
theorem dX2_reaches_125 : decode cX2_reaches 125 = .ok (.if_icmp .ne 23, 3) := by decide +kernel
theorem dX2_reaches_128 : decode cX2_reaches 128 = .ok (.iload 8, 2) := by decide +kernel
theorem dX2_reaches_130 : decode cX2_reaches 130 = .ok (.invokestatic 40, 3) := by decide +kernel
theorem dX2_reaches_133 : decode cX2_reaches 133 = .ok (.aload_n 0, 1) := by decide +kernel
theorem dX2_reaches_134 : decode cX2_reaches 134 = .ok (.getfield 55, 3) := by decide +kernel
theorem dX2_reaches_137 : decode cX2_reaches 137 = .ok (.if_icmp .ne 7, 3) := by decide +kernel
theorem dX2_reaches_140 : decode cX2_reaches 140 = .ok (.iconst 1, 1) := by decide +kernel
theorem dX2_reaches_141 : decode cX2_reaches 141 = .ok (.goto 39, 3) := by decide +kernel
theorem dX2_reaches_144 : decode cX2_reaches 144 = .ok (.iconst 0, 1) := by decide +kernel
theorem dX2_reaches_145 : decode cX2_reaches 145 = .ok (.goto 35, 3) := by decide +kernel
theorem dX2_reaches_148 : decode cX2_reaches 148 = .ok (.iload 8, 2) := by decide +kernel
theorem dX2_reaches_150 : decode cX2_reaches 150 = .ok (.invokestatic 40, 3) := by decide +kernel
theorem dX2_reaches_153 : decode cX2_reaches 153 = .ok (.ifCond .ne 26, 3) := by decide +kernel
theorem dX2_reaches_156 : decode cX2_reaches 156 = .ok (.aload_n 0, 1) := by decide +kernel
theorem dX2_reaches_157 : decode cX2_reaches 157 = .ok (.iload 8, 2) := by decide +kernel
theorem dX2_reaches_159 : decode cX2_reaches 159 = .ok (.iload_n 2, 1) := by decide +kernel
theorem dX2_reaches_160 : decode cX2_reaches 160 = .ok (.iconst 1, 1) := by decide +kernel
theorem dX2_reaches_161 : decode cX2_reaches 161 = .ok (.iadd, 1) := by decide +kernel
theorem dX2_reaches_162 : decode cX2_reaches 162 = .ok (.iload_n 3, 1) := by decide +kernel
theorem dX2_reaches_163 : decode cX2_reaches 163 = .ok (.iconst 1, 1) := by decide +kernel
theorem dX2_reaches_164 : decode cX2_reaches 164 = .ok (.iadd, 1) := by decide +kernel
theorem dX2_reaches_165 : decode cX2_reaches 165 = .ok (.iload 4, 2) := by decide +kernel
theorem dX2_reaches_167 : decode cX2_reaches 167 = .ok (.iconst 1, 1) := by decide +kernel
theorem dX2_reaches_168 : decode cX2_reaches 168 = .ok (.isub, 1) := by decide +kernel
theorem dX2_reaches_169 : decode cX2_reaches 169 = .ok (.invokestatic 51, 3) := by decide +kernel
theorem dX2_reaches_172 : decode cX2_reaches 172 = .ok (.ifCond .eq 7, 3) := by decide +kernel
theorem dX2_reaches_175 : decode cX2_reaches 175 = .ok (.iconst 1, 1) := by decide +kernel
theorem dX2_reaches_176 : decode cX2_reaches 176 = .ok (.goto 4, 3) := by decide +kernel
theorem dX2_reaches_179 : decode cX2_reaches 179 = .ok (.iconst 0, 1) := by decide +kernel
theorem dX2_reaches_180 : decode cX2_reaches 180 = .ok (.istore 9, 2) := by decide +kernel
theorem dX2_reaches_182 : decode cX2_reaches 182 = .ok (.iload 9, 2) := by decide +kernel
theorem dX2_reaches_184 : decode cX2_reaches 184 = .ok (.ifCond .eq 15, 3) := by decide +kernel
theorem dX2_reaches_187 : decode cX2_reaches 187 = .ok (.aload_n 0, 1) := by decide +kernel
theorem dX2_reaches_188 : decode cX2_reaches 188 = .ok (.getfield 9, 3) := by decide +kernel
theorem dX2_reaches_191 : decode cX2_reaches 191 = .ok (.iload_n 3, 1) := by decide +kernel
theorem dX2_reaches_192 : decode cX2_reaches 192 = .ok (.iload 7, 2) := by decide +kernel
theorem dX2_reaches_194 : decode cX2_reaches 194 = .ok (.invokestatic 30, 3) := by decide +kernel
theorem dX2_reaches_197 : decode cX2_reaches 197 = .ok (.iconst 1, 1) := by decide +kernel
theorem dX2_reaches_198 : decode cX2_reaches 198 = .ok (.ireturn, 1) := by decide +kernel
theorem dX2_reaches_199 : decode cX2_reaches 199 = .ok (.iinc 7 1, 3) := by decide +kernel
theorem dX2_reaches_202 : decode cX2_reaches 202 = .ok (.goto (-122), 3) := by decide +kernel
theorem dX2_reaches_205 : decode cX2_reaches 205 = .ok (.aload_n 0, 1) := by decide +kernel
theorem dX2_reaches_206 : decode cX2_reaches 206 = .ok (.getfield 15, 3) := by decide +kernel
theorem dX2_reaches_209 : decode cX2_reaches 209 = .ok (.iload 6, 2) := by decide +kernel
theorem dX2_reaches_211 : decode cX2_reaches 211 = .ok (.aload_n 0, 1) := by decide +kernel
theorem dX2_reaches_212 : decode cX2_reaches 212 = .ok (.getfield 15, 3) := by decide +kernel
theorem dX2_reaches_215 : decode cX2_reaches 215 = .ok (.iload 6, 2) := by decide +kernel
theorem dX2_reaches_217 : decode cX2_reaches 217 = .ok (.invokestatic 91, 3) := by decide +kernel
theorem dX2_reaches_220 : decode cX2_reaches 220 = .ok (.iload 5, 2) := by decide +kernel
theorem dX2_reaches_222 : decode cX2_reaches 222 = .ok (.ior, 1) := by decide +kernel
theorem dX2_reaches_223 : decode cX2_reaches 223 = .ok (.invokestatic 30, 3) := by decide +kernel
theorem dX2_reaches_226 : decode cX2_reaches 226 = .ok (.iconst 0, 1) := by decide +kernel
theorem dX2_reaches_227 : decode cX2_reaches 227 = .ok (.ireturn, 1) := by decide +kernel
theorem dX2_isHopeless_0 : decode cX2_isHopeless 0 = .ok (.iload_n 1, 1) := by decide +kernel
theorem dX2_isHopeless_1 : decode cX2_isHopeless 1 = .ok (.invokestatic 98, 3) := by decide +kernel
theorem dX2_isHopeless_4 : decode cX2_isHopeless 4 = .ok (.iload_n 2, 1) := by decide +kernel
theorem dX2_isHopeless_5 : decode cX2_isHopeless 5 = .ok (.iconst 1, 1) := by decide +kernel
theorem dX2_isHopeless_6 : decode cX2_isHopeless 6 = .ok (.isub, 1) := by decide +kernel
theorem dX2_isHopeless_7 : decode cX2_isHopeless 7 = .ok (.aload_n 0, 1) := by decide +kernel
theorem dX2_isHopeless_8 : decode cX2_isHopeless 8 = .ok (.getfield 78, 3) := by decide +kernel
theorem dX2_isHopeless_11 : decode cX2_isHopeless 11 = .ok (.imul, 1) := by decide +kernel
theorem dX2_isHopeless_12 : decode cX2_isHopeless 12 = .ok (.iadd, 1) := by decide +kernel
theorem dX2_isHopeless_13 : decode cX2_isHopeless 13 = .ok (.aload_n 0, 1) := by decide +kernel
theorem dX2_isHopeless_14 : decode cX2_isHopeless 14 = .ok (.getfield 75, 3) := by decide +kernel
theorem dX2_isHopeless_17 : decode cX2_isHopeless 17 = .ok (.iadd, 1) := by decide +kernel
theorem dX2_isHopeless_18 : decode cX2_isHopeless 18 = .ok (.istore_n 3, 1) := by decide +kernel
theorem dX2_isHopeless_19 : decode cX2_isHopeless 19 = .ok (.aload_n 0, 1) := by decide +kernel
theorem dX2_isHopeless_20 : decode cX2_isHopeless 20 = .ok (.getfield 55, 3) := by decide +kernel
theorem dX2_isHopeless_23 : decode cX2_isHopeless 23 = .ok (.iconst 1, 1) := by decide +kernel
theorem dX2_isHopeless_24 : decode cX2_isHopeless 24 = .ok (.if_icmp .ne 25, 3) := by decide +kernel
theorem dX2_isHopeless_27 : decode cX2_isHopeless 27 = .ok (.aload_n 0, 1) := by decide +kernel
theorem dX2_isHopeless_28 : decode cX2_isHopeless 28 = .ok (.getfield 18, 3) := by decide +kernel
theorem dX2_isHopeless_31 : decode cX2_isHopeless 31 = .ok (.ifnull 18, 3) := by decide +kernel
theorem dX2_isHopeless_34 : decode cX2_isHopeless 34 = .ok (.iload_n 3, 1) := by decide +kernel
theorem dX2_isHopeless_35 : decode cX2_isHopeless 35 = .ok (.aload_n 0, 1) := by decide +kernel
theorem dX2_isHopeless_36 : decode cX2_isHopeless 36 = .ok (.getfield 18, 3) := by decide +kernel
theorem dX2_isHopeless_39 : decode cX2_isHopeless 39 = .ok (.getfield 101, 3) := by decide +kernel
theorem dX2_isHopeless_42 : decode cX2_isHopeless 42 = .ok (.if_icmp .ge 7, 3) := by decide +kernel
theorem dX2_isHopeless_45 : decode cX2_isHopeless 45 = .ok (.iconst 1, 1) := by decide +kernel
theorem dX2_isHopeless_46 : decode cX2_isHopeless 46 = .ok (.goto 4, 3) := by decide +kernel
theorem dX2_isHopeless_49 : decode cX2_isHopeless 49 = .ok (.iconst 0, 1) := by decide +kernel
theorem dX2_isHopeless_50 : decode cX2_isHopeless 50 = .ok (.ireturn, 1) := by decide +kernel
theorem dX2_weighIn_0 : decode cX2_weighIn 0 = .ok (.aload_n 0, 1) := by decide +kernel
theorem dX2_weighIn_1 : decode cX2_weighIn 1 = .ok (.aload_n 1, 1) := by decide +kernel
theorem dX2_weighIn_2 : decode cX2_weighIn 2 = .ok (.putfield 18, 3) := by decide +kernel
theorem dX2_weighIn_5 : decode cX2_weighIn 5 = .ok (.aload_n 0, 1) := by decide +kernel
theorem dX2_weighIn_6 : decode cX2_weighIn 6 = .ok (.iload_n 2, 1) := by decide +kernel
theorem dX2_weighIn_7 : decode cX2_weighIn 7 = .ok (.putfield 104, 3) := by decide +kernel
theorem dX2_weighIn_10 : decode cX2_weighIn 10 = .ok (.aload_n 0, 1) := by decide +kernel
theorem dX2_weighIn_11 : decode cX2_weighIn 11 = .ok (.iload_n 3, 1) := by decide +kernel
theorem dX2_weighIn_12 : decode cX2_weighIn 12 = .ok (.putfield 107, 3) := by decide +kernel
theorem dX2_weighIn_15 : decode cX2_weighIn 15 = .ok (.aload_n 0, 1) := by decide +kernel
theorem dX2_weighIn_16 : decode cX2_weighIn 16 = .ok (.aload_n 1, 1) := by decide +kernel
theorem dX2_weighIn_17 : decode cX2_weighIn 17 = .ok (.getfield 34, 3) := by decide +kernel
theorem dX2_weighIn_20 : decode cX2_weighIn 20 = .ok (.aload_n 1, 1) := by decide +kernel
theorem dX2_weighIn_21 : decode cX2_weighIn 21 = .ok (.getfield 48, 3) := by decide +kernel
theorem dX2_weighIn_24 : decode cX2_weighIn 24 = .ok (.iconst 0, 1) := by decide +kernel
theorem dX2_weighIn_25 : decode cX2_weighIn 25 = .ok (.invokestatic 110, 3) := by decide +kernel
theorem dX2_weighIn_28 : decode cX2_weighIn 28 = .ok (.lreturn, 1) := by decide +kernel
theorem dX2_weigh_0 : decode cX2_weigh 0 = .ok (.aload_n 0, 1) := by decide +kernel
theorem dX2_weigh_1 : decode cX2_weigh 1 = .ok (.getfield 18, 3) := by decide +kernel
theorem dX2_weigh_4 : decode cX2_weigh 4 = .ok (.ifnull 24, 3) := by decide +kernel
theorem dX2_weigh_7 : decode cX2_weigh 7 = .ok (.iload_n 3, 1) := by decide +kernel
theorem dX2_weigh_8 : decode cX2_weigh 8 = .ok (.aload_n 0, 1) := by decide +kernel
theorem dX2_weigh_9 : decode cX2_weigh 9 = .ok (.getfield 104, 3) := by decide +kernel
theorem dX2_weigh_12 : decode cX2_weigh 12 = .ok (.if_icmp .ge 16, 3) := by decide +kernel
theorem dX2_weigh_15 : decode cX2_weigh 15 = .ok (.iload_n 3, 1) := by decide +kernel
theorem dX2_weigh_16 : decode cX2_weigh 16 = .ok (.bipush 7, 2) := by decide +kernel
theorem dX2_weigh_18 : decode cX2_weigh 18 = .ok (.if_icmp .ge 10, 3) := by decide +kernel
theorem dX2_weigh_21 : decode cX2_weigh 21 = .ok (.iload_n 1, 1) := by decide +kernel
theorem dX2_weigh_22 : decode cX2_weigh 22 = .ok (.invokestatic 40, 3) := by decide +kernel
theorem dX2_weigh_25 : decode cX2_weigh 25 = .ok (.ifCond .eq 25, 3) := by decide +kernel
theorem dX2_weigh_28 : decode cX2_weigh 28 = .ok (.iload_n 1, 1) := by decide +kernel
theorem dX2_weigh_29 : decode cX2_weigh 29 = .ok (.invokestatic 40, 3) := by decide +kernel
theorem dX2_weigh_32 : decode cX2_weigh 32 = .ok (.iconst 1, 1) := by decide +kernel
theorem dX2_weigh_33 : decode cX2_weigh 33 = .ok (.if_icmp .ne 15, 3) := by decide +kernel
theorem dX2_weigh_36 : decode cX2_weigh 36 = .ok (.aload_n 0, 1) := by decide +kernel
theorem dX2_weigh_37 : decode cX2_weigh 37 = .ok (.getfield 104, 3) := by decide +kernel
theorem dX2_weigh_40 : decode cX2_weigh 40 = .ok (.iload_n 3, 1) := by decide +kernel
theorem dX2_weigh_41 : decode cX2_weigh 41 = .ok (.isub, 1) := by decide +kernel
theorem dX2_weigh_42 : decode cX2_weigh 42 = .ok (.invokestatic 22, 3) := by decide +kernel
theorem dX2_weigh_45 : decode cX2_weigh 45 = .ok (.goto 4, 3) := by decide +kernel
theorem dX2_weigh_48 : decode cX2_weigh 48 = .ok (.lconst 0, 1) := by decide +kernel
theorem dX2_weigh_49 : decode cX2_weigh 49 = .ok (.lreturn, 1) := by decide +kernel
theorem dX2_weigh_50 : decode cX2_weigh 50 = .ok (.aload_n 0, 1) := by decide +kernel
theorem dX2_weigh_51 : decode cX2_weigh 51 = .ok (.getfield 18, 3) := by decide +kernel
theorem dX2_weigh_54 : decode cX2_weigh 54 = .ok (.iload_n 1, 1) := by decide +kernel
theorem dX2_weigh_55 : decode cX2_weigh 55 = .ok (.iload_n 2, 1) := by decide +kernel
theorem dX2_weigh_56 : decode cX2_weigh 56 = .ok (.aload_n 0, 1) := by decide +kernel
theorem dX2_weigh_57 : decode cX2_weigh 57 = .ok (.getfield 9, 3) := by decide +kernel
theorem dX2_weigh_60 : decode cX2_weigh 60 = .ok (.iload_n 3, 1) := by decide +kernel
theorem dX2_weigh_61 : decode cX2_weigh 61 = .ok (.invokestatic 91, 3) := by decide +kernel
theorem dX2_weigh_64 : decode cX2_weigh 64 = .ok (.invokevirtual 95, 3) := by decide +kernel
theorem dX2_weigh_67 : decode cX2_weigh 67 = .ok (.istore 4, 2) := by decide +kernel
theorem dX2_weigh_69 : decode cX2_weigh 69 = .ok (.aload_n 0, 1) := by decide +kernel
theorem dX2_weigh_70 : decode cX2_weigh 70 = .ok (.getfield 107, 3) := by decide +kernel
theorem dX2_weigh_73 : decode cX2_weigh 73 = .ok (.i2l, 1) := by decide +kernel
theorem dX2_weigh_74 : decode cX2_weigh 74 = .ok (.aload_n 0, 1) := by decide +kernel
theorem dX2_weigh_75 : decode cX2_weigh 75 = .ok (.iload 4, 2) := by decide +kernel
theorem dX2_weigh_77 : decode cX2_weigh 77 = .ok (.iload_n 2, 1) := by decide +kernel
theorem dX2_weigh_78 : decode cX2_weigh 78 = .ok (.iconst 1, 1) := by decide +kernel
theorem dX2_weigh_79 : decode cX2_weigh 79 = .ok (.iadd, 1) := by decide +kernel
theorem dX2_weigh_80 : decode cX2_weigh 80 = .ok (.iload_n 3, 1) := by decide +kernel
theorem dX2_weigh_81 : decode cX2_weigh 81 = .ok (.iconst 1, 1) := by decide +kernel
theorem dX2_weigh_82 : decode cX2_weigh 82 = .ok (.iadd, 1) := by decide +kernel
theorem dX2_weigh_83 : decode cX2_weigh 83 = .ok (.invokestatic 110, 3) := by decide +kernel
theorem dX2_weigh_86 : decode cX2_weigh 86 = .ok (.lmul, 1) := by decide +kernel
theorem dX2_weigh_87 : decode cX2_weigh 87 = .ok (.bipush 10, 2) := by decide +kernel
theorem dX2_weigh_89 : decode cX2_weigh 89 = .ok (.aload_n 0, 1) := by decide +kernel
theorem dX2_weigh_90 : decode cX2_weigh 90 = .ok (.getfield 107, 3) := by decide +kernel
theorem dX2_weigh_93 : decode cX2_weigh 93 = .ok (.isub, 1) := by decide +kernel
theorem dX2_weigh_94 : decode cX2_weigh 94 = .ok (.i2l, 1) := by decide +kernel
theorem dX2_weigh_95 : decode cX2_weigh 95 = .ok (.aload_n 0, 1) := by decide +kernel
theorem dX2_weigh_96 : decode cX2_weigh 96 = .ok (.iload_n 1, 1) := by decide +kernel
theorem dX2_weigh_97 : decode cX2_weigh 97 = .ok (.iload_n 2, 1) := by decide +kernel
theorem dX2_weigh_98 : decode cX2_weigh 98 = .ok (.iload_n 3, 1) := by decide +kernel
theorem dX2_weigh_99 : decode cX2_weigh 99 = .ok (.iconst 1, 1) := by decide +kernel
theorem dX2_weigh_100 : decode cX2_weigh 100 = .ok (.iadd, 1) := by decide +kernel
theorem dX2_weigh_101 : decode cX2_weigh 101 = .ok (.invokestatic 110, 3) := by decide +kernel
theorem dX2_weigh_104 : decode cX2_weigh 104 = .ok (.lmul, 1) := by decide +kernel
theorem dX2_weigh_105 : decode cX2_weigh 105 = .ok (.ladd, 1) := by decide +kernel
theorem dX2_weigh_106 : decode cX2_weigh 106 = .ok (.lreturn, 1) := by decide +kernel
theorem dJ9_abs_067f4_0 : decode cJ9_abs_067f4 0 = .ok (.lload_n 0, 1) := by decide +kernel
theorem dJ9_abs_067f4_1 : decode cJ9_abs_067f4 1 = .ok (.lconst 0, 1) := by decide +kernel
theorem dJ9_abs_067f4_2 : decode cJ9_abs_067f4 2 = .ok (.lcmp, 1) := by decide +kernel
theorem dJ9_abs_067f4_3 : decode cJ9_abs_067f4 3 = .ok (.ifCond .ge 8, 3) := by decide +kernel
theorem dJ9_abs_067f4_6 : decode cJ9_abs_067f4 6 = .ok (.lload_n 0, 1) := by decide +kernel
theorem dJ9_abs_067f4_7 : decode cJ9_abs_067f4 7 = .ok (.lneg, 1) := by decide +kernel
theorem dJ9_abs_067f4_8 : decode cJ9_abs_067f4 8 = .ok (.goto 4, 3) := by decide +kernel
theorem dJ9_abs_067f4_11 : decode cJ9_abs_067f4 11 = .ok (.lload_n 0, 1) := by decide +kernel
theorem dJ9_abs_067f4_12 : decode cJ9_abs_067f4 12 = .ok (.lreturn, 1) := by decide +kernel
theorem dJ9_max_7cf53_0 : decode cJ9_max_7cf53 0 = .ok (.iload_n 0, 1) := by decide +kernel
theorem dJ9_max_7cf53_1 : decode cJ9_max_7cf53 1 = .ok (.iload_n 1, 1) := by decide +kernel
theorem dJ9_max_7cf53_2 : decode cJ9_max_7cf53 2 = .ok (.if_icmp .lt 7, 3) := by decide +kernel
theorem dJ9_max_7cf53_5 : decode cJ9_max_7cf53 5 = .ok (.iload_n 0, 1) := by decide +kernel
theorem dJ9_max_7cf53_6 : decode cJ9_max_7cf53 6 = .ok (.goto 4, 3) := by decide +kernel
theorem dJ9_max_7cf53_9 : decode cJ9_max_7cf53 9 = .ok (.iload_n 1, 1) := by decide +kernel
theorem dJ9_max_7cf53_10 : decode cJ9_max_7cf53 10 = .ok (.ireturn, 1) := by decide +kernel
theorem dJ9_min_7cf53_0 : decode cJ9_min_7cf53 0 = .ok (.iload_n 0, 1) := by decide +kernel
theorem dJ9_min_7cf53_1 : decode cJ9_min_7cf53 1 = .ok (.iload_n 1, 1) := by decide +kernel
theorem dJ9_min_7cf53_2 : decode cJ9_min_7cf53 2 = .ok (.if_icmp .gt 7, 3) := by decide +kernel
theorem dJ9_min_7cf53_5 : decode cJ9_min_7cf53 5 = .ok (.iload_n 0, 1) := by decide +kernel
theorem dJ9_min_7cf53_6 : decode cJ9_min_7cf53 6 = .ok (.goto 4, 3) := by decide +kernel
theorem dJ9_min_7cf53_9 : decode cJ9_min_7cf53 9 = .ok (.iload_n 1, 1) := by decide +kernel
theorem dJ9_min_7cf53_10 : decode cJ9_min_7cf53 10 = .ok (.ireturn, 1) := by decide +kernel
theorem dJ0_length_8abf5_0 : decode cJ0_length_8abf5 0 = .ok (.aload_n 0, 1) := by decide +kernel
theorem dJ0_length_8abf5_1 : decode cJ0_length_8abf5 1 = .ok (.getfield 9, 3) := by decide +kernel
theorem dJ0_length_8abf5_4 : decode cJ0_length_8abf5 4 = .ok (.arraylength, 1) := by decide +kernel
theorem dJ0_length_8abf5_5 : decode cJ0_length_8abf5 5 = .ok (.aload_n 0, 1) := by decide +kernel
theorem dJ0_length_8abf5_6 : decode cJ0_length_8abf5 6 = .ok (.invokevirtual 335, 3) := by decide +kernel
theorem dJ0_length_8abf5_9 : decode cJ0_length_8abf5 9 = .ok (.ishr, 1) := by decide +kernel
theorem dJ0_length_8abf5_10 : decode cJ0_length_8abf5 10 = .ok (.ireturn, 1) := by decide +kernel
theorem dJ0_charAt_5068e_0 : decode cJ0_charAt_5068e 0 = .ok (.aload_n 0, 1) := by decide +kernel
theorem dJ0_charAt_5068e_1 : decode cJ0_charAt_5068e 1 = .ok (.invokevirtual 492, 3) := by decide +kernel
theorem dJ0_charAt_5068e_4 : decode cJ0_charAt_5068e 4 = .ok (.ifCond .eq 12, 3) := by decide +kernel
theorem dJ0_charAt_5068e_7 : decode cJ0_charAt_5068e 7 = .ok (.aload_n 0, 1) := by decide +kernel
theorem dJ0_charAt_5068e_8 : decode cJ0_charAt_5068e 8 = .ok (.getfield 9, 3) := by decide +kernel
theorem dJ0_charAt_5068e_11 : decode cJ0_charAt_5068e 11 = .ok (.iload_n 1, 1) := by decide +kernel
theorem dJ0_charAt_5068e_12 : decode cJ0_charAt_5068e 12 = .ok (.invokestatic 495, 3) := by decide +kernel
theorem dJ0_charAt_5068e_15 : decode cJ0_charAt_5068e 15 = .ok (.ireturn, 1) := by decide +kernel
theorem dJ0_charAt_5068e_16 : decode cJ0_charAt_5068e 16 = .ok (.aload_n 0, 1) := by decide +kernel
theorem dJ0_charAt_5068e_17 : decode cJ0_charAt_5068e 17 = .ok (.getfield 9, 3) := by decide +kernel
theorem dJ0_charAt_5068e_20 : decode cJ0_charAt_5068e 20 = .ok (.iload_n 1, 1) := by decide +kernel
theorem dJ0_charAt_5068e_21 : decode cJ0_charAt_5068e 21 = .ok (.invokestatic 498, 3) := by decide +kernel
theorem dJ0_charAt_5068e_24 : decode cJ0_charAt_5068e 24 = .ok (.ireturn, 1) := by decide +kernel
theorem dJ0_coder_7d493_0 : decode cJ0_coder_7d493 0 = .ok (.getstatic 38, 3) := by decide +kernel
theorem dJ0_coder_7d493_3 : decode cJ0_coder_7d493 3 = .ok (.ifCond .eq 10, 3) := by decide +kernel
theorem dJ0_coder_7d493_6 : decode cJ0_coder_7d493 6 = .ok (.aload_n 0, 1) := by decide +kernel
theorem dJ0_coder_7d493_7 : decode cJ0_coder_7d493 7 = .ok (.getfield 15, 3) := by decide +kernel
theorem dJ0_coder_7d493_10 : decode cJ0_coder_7d493 10 = .ok (.goto 4, 3) := by decide +kernel
theorem dJ0_coder_7d493_13 : decode cJ0_coder_7d493 13 = .ok (.iconst 1, 1) := by decide +kernel
