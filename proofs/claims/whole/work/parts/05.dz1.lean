theorem dX4_read_82 : decode cX4_read 82 = .ok (.istore_n 2, 1) := by decide +kernel
theorem dX4_read_83 : decode cX4_read 83 = .ok (.iload_n 2, 1) := by decide +kernel
theorem dX4_read_84 : decode cX4_read 84 = .ok (.bipush 73, 2) := by decide +kernel
theorem dX4_read_86 : decode cX4_read 86 = .ok (.if_icmp .ge 21, 3) := by decide +kernel
theorem dX4_read_89 : decode cX4_read 89 = .ok (.aload_n 0, 1) := by decide +kernel
theorem dX4_read_90 : decode cX4_read 90 = .ok (.getfield 7, 3) := by decide +kernel
theorem dX4_read_93 : decode cX4_read 93 = .ok (.iload_n 2, 1) := by decide +kernel
theorem dX4_read_94 : decode cX4_read 94 = .ok (.aload_n 0, 1) := by decide +kernel
theorem dX4_read_95 : decode cX4_read 95 = .ok (.getfield 25, 3) := by decide +kernel
theorem dX4_read_98 : decode cX4_read 98 = .ok (.iload_n 2, 1) := by decide +kernel
theorem dX4_read_99 : decode cX4_read 99 = .ok (.iaload, 1) := by decide +kernel
theorem dX4_read_100 : decode cX4_read 100 = .ok (.iastore, 1) := by decide +kernel
theorem dX4_read_101 : decode cX4_read 101 = .ok (.iinc 2 1, 3) := by decide +kernel
theorem dX4_read_104 : decode cX4_read 104 = .ok (.goto (-21), 3) := by decide +kernel
theorem dX4_read_107 : decode cX4_read 107 = .ok (.bipush (-10), 2) := by decide +kernel
theorem dX4_read_109 : decode cX4_read 109 = .ok (.aload_n 0, 1) := by decide +kernel
theorem dX4_read_110 : decode cX4_read 110 = .ok (.getfield 111, 3) := by decide +kernel
theorem dX4_read_113 : decode cX4_read 113 = .ok (.isub, 1) := by decide +kernel
theorem dX4_read_114 : decode cX4_read 114 = .ok (.ireturn, 1) := by decide +kernel
theorem dX4_remember_0 : decode cX4_remember 0 = .ok (.aload_n 0, 1) := by decide +kernel
theorem dX4_remember_1 : decode cX4_remember 1 = .ok (.getfield 7, 3) := by decide +kernel
theorem dX4_remember_4 : decode cX4_remember 4 = .ok (.bipush 40, 2) := by decide +kernel
theorem dX4_remember_6 : decode cX4_remember 6 = .ok (.iaload, 1) := by decide +kernel
theorem dX4_remember_7 : decode cX4_remember 7 = .ok (.bipush 8, 2) := by decide +kernel
theorem dX4_remember_9 : decode cX4_remember 9 = .ok (.if_icmp .ne 43, 3) := by decide +kernel
theorem dX4_remember_12 : decode cX4_remember 12 = .ok (.bipush 45, 2) := by decide +kernel
theorem dX4_remember_14 : decode cX4_remember 14 = .ok (.istore_n 1, 1) := by decide +kernel
theorem dX4_remember_15 : decode cX4_remember 15 = .ok (.iload_n 1, 1) := by decide +kernel
theorem dX4_remember_16 : decode cX4_remember 16 = .ok (.bipush 73, 2) := by decide +kernel
theorem dX4_remember_18 : decode cX4_remember 18 = .ok (.if_icmp .ge 23, 3) := by decide +kernel
theorem dX4_remember_21 : decode cX4_remember 21 = .ok (.aload_n 0, 1) := by decide +kernel
theorem dX4_remember_22 : decode cX4_remember 22 = .ok (.getfield 7, 3) := by decide +kernel
theorem dX4_remember_25 : decode cX4_remember 25 = .ok (.iload_n 1, 1) := by decide +kernel
theorem dX4_remember_26 : decode cX4_remember 26 = .ok (.iconst 4, 1) := by decide +kernel
theorem dX4_remember_27 : decode cX4_remember 27 = .ok (.isub, 1) := by decide +kernel
theorem dX4_remember_28 : decode cX4_remember 28 = .ok (.aload_n 0, 1) := by decide +kernel
theorem dX4_remember_29 : decode cX4_remember 29 = .ok (.getfield 7, 3) := by decide +kernel
theorem dX4_remember_32 : decode cX4_remember 32 = .ok (.iload_n 1, 1) := by decide +kernel
theorem dX4_remember_33 : decode cX4_remember 33 = .ok (.iaload, 1) := by decide +kernel
theorem dX4_remember_34 : decode cX4_remember 34 = .ok (.iastore, 1) := by decide +kernel
theorem dX4_remember_35 : decode cX4_remember 35 = .ok (.iinc 1 1, 3) := by decide +kernel
theorem dX4_remember_38 : decode cX4_remember 38 = .ok (.goto (-23), 3) := by decide +kernel
theorem dX4_remember_41 : decode cX4_remember 41 = .ok (.aload_n 0, 1) := by decide +kernel
theorem dX4_remember_42 : decode cX4_remember 42 = .ok (.getfield 7, 3) := by decide +kernel
theorem dX4_remember_45 : decode cX4_remember 45 = .ok (.bipush 40, 2) := by decide +kernel
theorem dX4_remember_47 : decode cX4_remember 47 = .ok (.dup2, 1) := by decide +kernel
theorem dX4_remember_48 : decode cX4_remember 48 = .ok (.iaload, 1) := by decide +kernel
theorem dX4_remember_49 : decode cX4_remember 49 = .ok (.iconst 1, 1) := by decide +kernel
theorem dX4_remember_50 : decode cX4_remember 50 = .ok (.isub, 1) := by decide +kernel
theorem dX4_remember_51 : decode cX4_remember 51 = .ok (.iastore, 1) := by decide +kernel
theorem dX4_remember_52 : decode cX4_remember 52 = .ok (.bipush 41, 2) := by decide +kernel
theorem dX4_remember_54 : decode cX4_remember 54 = .ok (.iconst 4, 1) := by decide +kernel
theorem dX4_remember_55 : decode cX4_remember 55 = .ok (.aload_n 0, 1) := by decide +kernel
theorem dX4_remember_56 : decode cX4_remember 56 = .ok (.getfield 7, 3) := by decide +kernel
theorem dX4_remember_59 : decode cX4_remember 59 = .ok (.bipush 40, 2) := by decide +kernel
theorem dX4_remember_61 : decode cX4_remember 61 = .ok (.iaload, 1) := by decide +kernel
theorem dX4_remember_62 : decode cX4_remember 62 = .ok (.imul, 1) := by decide +kernel
theorem dX4_remember_63 : decode cX4_remember 63 = .ok (.iadd, 1) := by decide +kernel
theorem dX4_remember_64 : decode cX4_remember 64 = .ok (.istore_n 1, 1) := by decide +kernel
theorem dX4_remember_65 : decode cX4_remember 65 = .ok (.aload_n 0, 1) := by decide +kernel
theorem dX4_remember_66 : decode cX4_remember 66 = .ok (.getfield 7, 3) := by decide +kernel
theorem dX4_remember_69 : decode cX4_remember 69 = .ok (.iload_n 1, 1) := by decide +kernel
theorem dX4_remember_70 : decode cX4_remember 70 = .ok (.aload_n 0, 1) := by decide +kernel
theorem dX4_remember_71 : decode cX4_remember 71 = .ok (.getfield 7, 3) := by decide +kernel
theorem dX4_remember_74 : decode cX4_remember 74 = .ok (.iconst 1, 1) := by decide +kernel
theorem dX4_remember_75 : decode cX4_remember 75 = .ok (.iaload, 1) := by decide +kernel
theorem dX4_remember_76 : decode cX4_remember 76 = .ok (.iastore, 1) := by decide +kernel
theorem dX4_remember_77 : decode cX4_remember 77 = .ok (.aload_n 0, 1) := by decide +kernel
theorem dX4_remember_78 : decode cX4_remember 78 = .ok (.getfield 7, 3) := by decide +kernel
theorem dX4_remember_81 : decode cX4_remember 81 = .ok (.iload_n 1, 1) := by decide +kernel
theorem dX4_remember_82 : decode cX4_remember 82 = .ok (.iconst 1, 1) := by decide +kernel
theorem dX4_remember_83 : decode cX4_remember 83 = .ok (.iadd, 1) := by decide +kernel
theorem dX4_remember_84 : decode cX4_remember 84 = .ok (.aload_n 0, 1) := by decide +kernel
theorem dX4_remember_85 : decode cX4_remember 85 = .ok (.getfield 7, 3) := by decide +kernel
theorem dX4_remember_88 : decode cX4_remember 88 = .ok (.iconst 2, 1) := by decide +kernel
theorem dX4_remember_89 : decode cX4_remember 89 = .ok (.iaload, 1) := by decide +kernel
theorem dX4_remember_90 : decode cX4_remember 90 = .ok (.iastore, 1) := by decide +kernel
theorem dX4_remember_91 : decode cX4_remember 91 = .ok (.aload_n 0, 1) := by decide +kernel
theorem dX4_remember_92 : decode cX4_remember 92 = .ok (.getfield 7, 3) := by decide +kernel
theorem dX4_remember_95 : decode cX4_remember 95 = .ok (.iload_n 1, 1) := by decide +kernel
theorem dX4_remember_96 : decode cX4_remember 96 = .ok (.iconst 2, 1) := by decide +kernel
theorem dX4_remember_97 : decode cX4_remember 97 = .ok (.iadd, 1) := by decide +kernel
theorem dX4_remember_98 : decode cX4_remember 98 = .ok (.aload_n 0, 1) := by decide +kernel
theorem dX4_remember_99 : decode cX4_remember 99 = .ok (.getfield 7, 3) := by decide +kernel
theorem dX4_remember_102 : decode cX4_remember 102 = .ok (.iconst 5, 1) := by decide +kernel
theorem dX4_remember_103 : decode cX4_remember 103 = .ok (.iaload, 1) := by decide +kernel
theorem dX4_remember_104 : decode cX4_remember 104 = .ok (.iastore, 1) := by decide +kernel
theorem dX4_remember_105 : decode cX4_remember 105 = .ok (.aload_n 0, 1) := by decide +kernel
theorem dX4_remember_106 : decode cX4_remember 106 = .ok (.getfield 7, 3) := by decide +kernel
theorem dX4_remember_109 : decode cX4_remember 109 = .ok (.iload_n 1, 1) := by decide +kernel
theorem dX4_remember_110 : decode cX4_remember 110 = .ok (.iconst 3, 1) := by decide +kernel
theorem dX4_remember_111 : decode cX4_remember 111 = .ok (.iadd, 1) := by decide +kernel
theorem dX4_remember_112 : decode cX4_remember 112 = .ok (.aload_n 0, 1) := by decide +kernel
theorem dX4_remember_113 : decode cX4_remember 113 = .ok (.getfield 7, 3) := by decide +kernel
theorem dX4_remember_116 : decode cX4_remember 116 = .ok (.bipush 6, 2) := by decide +kernel
theorem dX4_remember_118 : decode cX4_remember 118 = .ok (.iaload, 1) := by decide +kernel
theorem dX4_remember_119 : decode cX4_remember 119 = .ok (.iastore, 1) := by decide +kernel
theorem dX4_remember_120 : decode cX4_remember 120 = .ok (.aload_n 0, 1) := by decide +kernel
theorem dX4_remember_121 : decode cX4_remember 121 = .ok (.getfield 7, 3) := by decide +kernel
theorem dX4_remember_124 : decode cX4_remember 124 = .ok (.bipush 40, 2) := by decide +kernel
theorem dX4_remember_126 : decode cX4_remember 126 = .ok (.dup2, 1) := by decide +kernel
theorem dX4_remember_127 : decode cX4_remember 127 = .ok (.iaload, 1) := by decide +kernel
theorem dX4_remember_128 : decode cX4_remember 128 = .ok (.iconst 1, 1) := by decide +kernel
theorem dX4_remember_129 : decode cX4_remember 129 = .ok (.iadd, 1) := by decide +kernel
theorem dX4_remember_130 : decode cX4_remember 130 = .ok (.iastore, 1) := by decide +kernel
theorem dX4_remember_131 : decode cX4_remember 131 = .ok (.return_, 1) := by decide +kernel
theorem dX4_say_0 : decode cX4_say 0 = .ok (.iload_n 1, 1) := by decide +kernel
theorem dX4_say_1 : decode cX4_say 1 = .ok (.i2l, 1) := by decide +kernel
theorem dX4_say_2 : decode cX4_say 2 = .ok (.lconst 0, 1) := by decide +kernel
theorem dX4_say_3 : decode cX4_say 3 = .ok (.ldc2_w 89, 3) := by decide +kernel
theorem dX4_say_6 : decode cX4_say 6 = .ok (.invokestatic 58, 3) := by decide +kernel
theorem dX4_say_9 : decode cX4_say 9 = .ok (.ifCond .ne 10, 3) := by decide +kernel
theorem dX4_say_12 : decode cX4_say 12 = .ok (.aload_n 0, 1) := by decide +kernel
theorem dX4_say_13 : decode cX4_say 13 = .ok (.bipush (-2), 2) := by decide +kernel
theorem dX4_say_15 : decode cX4_say 15 = .ok (.invokevirtual 91, 3) := by decide +kernel
theorem dX4_say_18 : decode cX4_say 18 = .ok (.ireturn, 1) := by decide +kernel
theorem dX4_say_19 : decode cX4_say 19 = .ok (.aload_n 0, 1) := by decide +kernel
theorem dX4_say_20 : decode cX4_say 20 = .ok (.getfield 7, 3) := by decide +kernel
theorem dX4_say_23 : decode cX4_say 23 = .ok (.bipush 6, 2) := by decide +kernel
theorem dX4_say_25 : decode cX4_say 25 = .ok (.iaload, 1) := by decide +kernel
theorem dX4_say_26 : decode cX4_say 26 = .ok (.ifCond .eq 10, 3) := by decide +kernel
theorem dX4_say_29 : decode cX4_say 29 = .ok (.aload_n 0, 1) := by decide +kernel
theorem dX4_say_30 : decode cX4_say 30 = .ok (.bipush (-3), 2) := by decide +kernel
theorem dX4_say_32 : decode cX4_say 32 = .ok (.invokevirtual 91, 3) := by decide +kernel
theorem dX4_say_35 : decode cX4_say 35 = .ok (.ireturn, 1) := by decide +kernel
theorem dX4_say_36 : decode cX4_say 36 = .ok (.aload_n 0, 1) := by decide +kernel
theorem dX4_say_37 : decode cX4_say 37 = .ok (.invokevirtual 168, 3) := by decide +kernel
theorem dX4_say_40 : decode cX4_say 40 = .ok (.aload_n 0, 1) := by decide +kernel
theorem dX4_say_41 : decode cX4_say 41 = .ok (.invokevirtual 136, 3) := by decide +kernel
theorem dX4_say_44 : decode cX4_say 44 = .ok (.aload_n 0, 1) := by decide +kernel
theorem dX4_say_45 : decode cX4_say 45 = .ok (.iload_n 1, 1) := by decide +kernel
theorem dX4_say_46 : decode cX4_say 46 = .ok (.iconst 1, 1) := by decide +kernel
theorem dX4_say_47 : decode cX4_say 47 = .ok (.invokevirtual 139, 3) := by decide +kernel
theorem dX4_say_50 : decode cX4_say 50 = .ok (.aload_n 0, 1) := by decide +kernel
theorem dX4_say_51 : decode cX4_say 51 = .ok (.invokevirtual 143, 3) := by decide +kernel
theorem dX4_say_54 : decode cX4_say 54 = .ok (.aload_n 0, 1) := by decide +kernel
theorem dX4_say_55 : decode cX4_say 55 = .ok (.getfield 7, 3) := by decide +kernel
theorem dX4_say_58 : decode cX4_say 58 = .ok (.bipush 6, 2) := by decide +kernel
theorem dX4_say_60 : decode cX4_say 60 = .ok (.iaload, 1) := by decide +kernel
theorem dX4_say_61 : decode cX4_say 61 = .ok (.ireturn, 1) := by decide +kernel
theorem dX4_open_0 : decode cX4_open 0 = .ok (.aload_n 0, 1) := by decide +kernel
theorem dX4_open_1 : decode cX4_open 1 = .ok (.getfield 7, 3) := by decide +kernel
theorem dX4_open_4 : decode cX4_open 4 = .ok (.bipush 6, 2) := by decide +kernel
theorem dX4_open_6 : decode cX4_open 6 = .ok (.iaload, 1) := by decide +kernel
theorem dX4_open_7 : decode cX4_open 7 = .ok (.iconst 1, 1) := by decide +kernel
theorem dX4_open_8 : decode cX4_open 8 = .ok (.if_icmp .eq 10, 3) := by decide +kernel
theorem dX4_open_11 : decode cX4_open 11 = .ok (.aload_n 0, 1) := by decide +kernel
theorem dX4_open_12 : decode cX4_open 12 = .ok (.bipush (-3), 2) := by decide +kernel
theorem dX4_open_14 : decode cX4_open 14 = .ok (.invokevirtual 91, 3) := by decide +kernel
theorem dX4_open_17 : decode cX4_open 17 = .ok (.ireturn, 1) := by decide +kernel
theorem dX4_open_18 : decode cX4_open 18 = .ok (.aload_n 0, 1) := by decide +kernel
theorem dX4_open_19 : decode cX4_open 19 = .ok (.invokevirtual 168, 3) := by decide +kernel
theorem dX4_open_22 : decode cX4_open 22 = .ok (.aload_n 0, 1) := by decide +kernel
theorem dX4_open_23 : decode cX4_open 23 = .ok (.getfield 7, 3) := by decide +kernel
theorem dX4_open_26 : decode cX4_open 26 = .ok (.iconst 2, 1) := by decide +kernel
theorem dX4_open_27 : decode cX4_open 27 = .ok (.iaload, 1) := by decide +kernel
theorem dX4_open_28 : decode cX4_open 28 = .ok (.istore_n 1, 1) := by decide +kernel
theorem dX4_open_29 : decode cX4_open 29 = .ok (.aload_n 0, 1) := by decide +kernel
theorem dX4_open_30 : decode cX4_open 30 = .ok (.getfield 7, 3) := by decide +kernel
theorem dX4_open_33 : decode cX4_open 33 = .ok (.iconst 2, 1) := by decide +kernel
theorem dX4_open_34 : decode cX4_open 34 = .ok (.iconst 0, 1) := by decide +kernel
theorem dX4_open_35 : decode cX4_open 35 = .ok (.iastore, 1) := by decide +kernel
theorem dX4_open_36 : decode cX4_open 36 = .ok (.aload_n 0, 1) := by decide +kernel
theorem dX4_open_37 : decode cX4_open 37 = .ok (.getfield 7, 3) := by decide +kernel
theorem dX4_open_40 : decode cX4_open 40 = .ok (.bipush 6, 2) := by decide +kernel
theorem dX4_open_42 : decode cX4_open 42 = .ok (.iconst 0, 1) := by decide +kernel
theorem dX4_open_43 : decode cX4_open 43 = .ok (.iastore, 1) := by decide +kernel
theorem dX4_open_44 : decode cX4_open 44 = .ok (.iload_n 1, 1) := by decide +kernel
theorem dX4_open_45 : decode cX4_open 45 = .ok (.ireturn, 1) := by decide +kernel
theorem dX4_undo_0 : decode cX4_undo 0 = .ok (.aload_n 0, 1) := by decide +kernel
theorem dX4_undo_1 : decode cX4_undo 1 = .ok (.getfield 7, 3) := by decide +kernel
theorem dX4_undo_4 : decode cX4_undo 4 = .ok (.bipush 40, 2) := by decide +kernel
theorem dX4_undo_6 : decode cX4_undo 6 = .ok (.iaload, 1) := by decide +kernel
theorem dX4_undo_7 : decode cX4_undo 7 = .ok (.ifCond .ne 10, 3) := by decide +kernel
theorem dX4_undo_10 : decode cX4_undo 10 = .ok (.aload_n 0, 1) := by decide +kernel
theorem dX4_undo_11 : decode cX4_undo 11 = .ok (.bipush (-3), 2) := by decide +kernel
theorem dX4_undo_13 : decode cX4_undo 13 = .ok (.invokevirtual 91, 3) := by decide +kernel
theorem dX4_undo_16 : decode cX4_undo 16 = .ok (.ireturn, 1) := by decide +kernel
theorem dX4_undo_17 : decode cX4_undo 17 = .ok (.aload_n 0, 1) := by decide +kernel
theorem dX4_undo_18 : decode cX4_undo 18 = .ok (.getfield 7, 3) := by decide +kernel
theorem dX4_undo_21 : decode cX4_undo 21 = .ok (.bipush 40, 2) := by decide +kernel
theorem dX4_undo_23 : decode cX4_undo 23 = .ok (.dup2, 1) := by decide +kernel
theorem dX4_undo_24 : decode cX4_undo 24 = .ok (.iaload, 1) := by decide +kernel
theorem dX4_undo_25 : decode cX4_undo 25 = .ok (.iconst 1, 1) := by decide +kernel
theorem dX4_undo_26 : decode cX4_undo 26 = .ok (.isub, 1) := by decide +kernel
theorem dX4_undo_27 : decode cX4_undo 27 = .ok (.iastore, 1) := by decide +kernel
theorem dX4_undo_28 : decode cX4_undo 28 = .ok (.bipush 41, 2) := by decide +kernel
theorem dX4_undo_30 : decode cX4_undo 30 = .ok (.iconst 4, 1) := by decide +kernel
theorem dX4_undo_31 : decode cX4_undo 31 = .ok (.aload_n 0, 1) := by decide +kernel
theorem dX4_undo_32 : decode cX4_undo 32 = .ok (.getfield 7, 3) := by decide +kernel
theorem dX4_undo_35 : decode cX4_undo 35 = .ok (.bipush 40, 2) := by decide +kernel
theorem dX4_undo_37 : decode cX4_undo 37 = .ok (.iaload, 1) := by decide +kernel
theorem dX4_undo_38 : decode cX4_undo 38 = .ok (.imul, 1) := by decide +kernel
theorem dX4_undo_39 : decode cX4_undo 39 = .ok (.iadd, 1) := by decide +kernel
theorem dX4_undo_40 : decode cX4_undo 40 = .ok (.istore_n 1, 1) := by decide +kernel
theorem dX4_undo_41 : decode cX4_undo 41 = .ok (.aload_n 0, 1) := by decide +kernel
theorem dX4_undo_42 : decode cX4_undo 42 = .ok (.getfield 7, 3) := by decide +kernel
theorem dX4_undo_45 : decode cX4_undo 45 = .ok (.iconst 1, 1) := by decide +kernel
theorem dX4_undo_46 : decode cX4_undo 46 = .ok (.aload_n 0, 1) := by decide +kernel
theorem dX4_undo_47 : decode cX4_undo 47 = .ok (.getfield 7, 3) := by decide +kernel
theorem dX4_undo_50 : decode cX4_undo 50 = .ok (.iload_n 1, 1) := by decide +kernel
theorem dX4_undo_51 : decode cX4_undo 51 = .ok (.iaload, 1) := by decide +kernel
theorem dX4_undo_52 : decode cX4_undo 52 = .ok (.iastore, 1) := by decide +kernel
theorem dX4_undo_53 : decode cX4_undo 53 = .ok (.aload_n 0, 1) := by decide +kernel
theorem dX4_undo_54 : decode cX4_undo 54 = .ok (.getfield 7, 3) := by decide +kernel
theorem dX4_undo_57 : decode cX4_undo 57 = .ok (.iconst 2, 1) := by decide +kernel
theorem dX4_undo_58 : decode cX4_undo 58 = .ok (.aload_n 0, 1) := by decide +kernel
theorem dX4_undo_59 : decode cX4_undo 59 = .ok (.getfield 7, 3) := by decide +kernel
theorem dX4_undo_62 : decode cX4_undo 62 = .ok (.iload_n 1, 1) := by decide +kernel
theorem dX4_undo_63 : decode cX4_undo 63 = .ok (.iconst 1, 1) := by decide +kernel
theorem dX4_undo_64 : decode cX4_undo 64 = .ok (.iadd, 1) := by decide +kernel
theorem dX4_undo_65 : decode cX4_undo 65 = .ok (.iaload, 1) := by decide +kernel
theorem dX4_undo_66 : decode cX4_undo 66 = .ok (.iastore, 1) := by decide +kernel
theorem dX4_undo_67 : decode cX4_undo 67 = .ok (.aload_n 0, 1) := by decide +kernel
theorem dX4_undo_68 : decode cX4_undo 68 = .ok (.getfield 7, 3) := by decide +kernel
theorem dX4_undo_71 : decode cX4_undo 71 = .ok (.iconst 5, 1) := by decide +kernel
theorem dX4_undo_72 : decode cX4_undo 72 = .ok (.aload_n 0, 1) := by decide +kernel
theorem dX4_undo_73 : decode cX4_undo 73 = .ok (.getfield 7, 3) := by decide +kernel
theorem dX4_undo_76 : decode cX4_undo 76 = .ok (.iload_n 1, 1) := by decide +kernel
theorem dX4_undo_77 : decode cX4_undo 77 = .ok (.iconst 2, 1) := by decide +kernel
theorem dX4_undo_78 : decode cX4_undo 78 = .ok (.iadd, 1) := by decide +kernel
theorem dX4_undo_79 : decode cX4_undo 79 = .ok (.iaload, 1) := by decide +kernel
theorem dX4_undo_80 : decode cX4_undo 80 = .ok (.iastore, 1) := by decide +kernel
theorem dX4_undo_81 : decode cX4_undo 81 = .ok (.aload_n 0, 1) := by decide +kernel
theorem dX4_undo_82 : decode cX4_undo 82 = .ok (.getfield 7, 3) := by decide +kernel
theorem dX4_undo_85 : decode cX4_undo 85 = .ok (.bipush 6, 2) := by decide +kernel
theorem dX4_undo_87 : decode cX4_undo 87 = .ok (.aload_n 0, 1) := by decide +kernel
theorem dX4_undo_88 : decode cX4_undo 88 = .ok (.getfield 7, 3) := by decide +kernel
theorem dX4_undo_91 : decode cX4_undo 91 = .ok (.iload_n 1, 1) := by decide +kernel
theorem dX4_undo_92 : decode cX4_undo 92 = .ok (.iconst 3, 1) := by decide +kernel
theorem dX4_undo_93 : decode cX4_undo 93 = .ok (.iadd, 1) := by decide +kernel
theorem dX4_undo_94 : decode cX4_undo 94 = .ok (.iaload, 1) := by decide +kernel
theorem dX4_undo_95 : decode cX4_undo 95 = .ok (.iastore, 1) := by decide +kernel
theorem dX4_undo_96 : decode cX4_undo 96 = .ok (.iconst 0, 1) := by decide +kernel
theorem dX4_undo_97 : decode cX4_undo 97 = .ok (.istore_n 2, 1) := by decide +kernel
theorem dX4_undo_98 : decode cX4_undo 98 = .ok (.iload_n 2, 1) := by decide +kernel
theorem dX4_undo_99 : decode cX4_undo 99 = .ok (.iconst 4, 1) := by decide +kernel
theorem dX4_undo_100 : decode cX4_undo 100 = .ok (.if_icmp .ge 18, 3) := by decide +kernel
theorem dX4_undo_103 : decode cX4_undo 103 = .ok (.aload_n 0, 1) := by decide +kernel
theorem dX4_undo_104 : decode cX4_undo 104 = .ok (.getfield 7, 3) := by decide +kernel
theorem dX4_undo_107 : decode cX4_undo 107 = .ok (.iload_n 1, 1) := by decide +kernel
theorem dX4_undo_108 : decode cX4_undo 108 = .ok (.iload_n 2, 1) := by decide +kernel
theorem dX4_undo_109 : decode cX4_undo 109 = .ok (.iadd, 1) := by decide +kernel
theorem dX4_undo_110 : decode cX4_undo 110 = .ok (.iconst 0, 1) := by decide +kernel
theorem dX4_undo_111 : decode cX4_undo 111 = .ok (.iastore, 1) := by decide +kernel
theorem dX4_undo_112 : decode cX4_undo 112 = .ok (.iinc 2 1, 3) := by decide +kernel
theorem dX4_undo_115 : decode cX4_undo 115 = .ok (.goto (-17), 3) := by decide +kernel
theorem dX4_undo_118 : decode cX4_undo 118 = .ok (.aload_n 0, 1) := by decide +kernel
theorem dX4_undo_119 : decode cX4_undo 119 = .ok (.getfield 7, 3) := by decide +kernel
theorem dX4_undo_122 : decode cX4_undo 122 = .ok (.iconst 5, 1) := by decide +kernel
theorem dX4_undo_123 : decode cX4_undo 123 = .ok (.iaload, 1) := by decide +kernel
theorem dX4_undo_124 : decode cX4_undo 124 = .ok (.ireturn, 1) := by decide +kernel
theorem dX4_now_0 : decode cX4_now 0 = .ok (.iload_n 1, 1) := by decide +kernel
theorem dX4_now_1 : decode cX4_now 1 = .ok (.i2l, 1) := by decide +kernel
theorem dX4_now_2 : decode cX4_now 2 = .ok (.lconst 0, 1) := by decide +kernel
theorem dX4_now_3 : decode cX4_now 3 = .ok (.ldc2_w 171, 3) := by decide +kernel
theorem dX4_now_6 : decode cX4_now 6 = .ok (.invokestatic 58, 3) := by decide +kernel
theorem dX4_now_9 : decode cX4_now 9 = .ok (.ifCond .eq 12, 3) := by decide +kernel
theorem dX4_now_12 : decode cX4_now 12 = .ok (.aload_n 0, 1) := by decide +kernel
theorem dX4_now_13 : decode cX4_now 13 = .ok (.getfield 7, 3) := by decide +kernel
theorem dX4_now_16 : decode cX4_now 16 = .ok (.iload_n 1, 1) := by decide +kernel
theorem dX4_now_17 : decode cX4_now 17 = .ok (.iaload, 1) := by decide +kernel
theorem dX4_now_18 : decode cX4_now 18 = .ok (.goto 9, 3) := by decide +kernel
theorem dX4_now_21 : decode cX4_now 21 = .ok (.aload_n 0, 1) := by decide +kernel
theorem dX4_now_22 : decode cX4_now 22 = .ok (.bipush (-2), 2) := by decide +kernel
theorem dX4_now_24 : decode cX4_now 24 = .ok (.invokevirtual 91, 3) := by decide +kernel
theorem dX4_now_27 : decode cX4_now 27 = .ok (.ireturn, 1) := by decide +kernel
theorem dX4_moves_0 : decode cX4_moves 0 = .ok (.iload_n 1, 1) := by decide +kernel
theorem dX4_moves_1 : decode cX4_moves 1 = .ok (.i2l, 1) := by decide +kernel
theorem dX4_moves_2 : decode cX4_moves 2 = .ok (.lconst 0, 1) := by decide +kernel
theorem dX4_moves_3 : decode cX4_moves 3 = .ok (.ldc2_w 89, 3) := by decide +kernel
theorem dX4_moves_6 : decode cX4_moves 6 = .ok (.invokestatic 58, 3) := by decide +kernel
theorem dX4_moves_9 : decode cX4_moves 9 = .ok (.ifCond .eq 13, 3) := by decide +kernel
theorem dX4_moves_12 : decode cX4_moves 12 = .ok (.iload_n 2, 1) := by decide +kernel
theorem dX4_moves_13 : decode cX4_moves 13 = .ok (.i2l, 1) := by decide +kernel
theorem dX4_moves_14 : decode cX4_moves 14 = .ok (.lconst 0, 1) := by decide +kernel
theorem dX4_moves_15 : decode cX4_moves 15 = .ok (.lconst 1, 1) := by decide +kernel
theorem dX4_moves_16 : decode cX4_moves 16 = .ok (.invokestatic 58, 3) := by decide +kernel
theorem dX4_moves_19 : decode cX4_moves 19 = .ok (.ifCond .ne 10, 3) := by decide +kernel
theorem dX4_moves_22 : decode cX4_moves 22 = .ok (.aload_n 0, 1) := by decide +kernel
theorem dX4_moves_23 : decode cX4_moves 23 = .ok (.bipush (-100), 2) := by decide +kernel
theorem dX4_moves_25 : decode cX4_moves 25 = .ok (.invokevirtual 62, 3) := by decide +kernel
theorem dX4_moves_28 : decode cX4_moves 28 = .ok (.ireturn, 1) := by decide +kernel
theorem dX4_moves_29 : decode cX4_moves 29 = .ok (.iload_n 2, 1) := by decide +kernel
theorem dX4_moves_30 : decode cX4_moves 30 = .ok (.ifCond .ne 23, 3) := by decide +kernel
theorem dX4_moves_33 : decode cX4_moves 33 = .ok (.aload_n 0, 1) := by decide +kernel
theorem dX4_moves_34 : decode cX4_moves 34 = .ok (.aload_n 0, 1) := by decide +kernel
theorem dX4_moves_35 : decode cX4_moves 35 = .ok (.getfield 7, 3) := by decide +kernel
theorem dX4_moves_38 : decode cX4_moves 38 = .ok (.iconst 0, 1) := by decide +kernel
theorem dX4_moves_39 : decode cX4_moves 39 = .ok (.iaload, 1) := by decide +kernel
theorem dX4_moves_40 : decode cX4_moves 40 = .ok (.iload_n 1, 1) := by decide +kernel
theorem dX4_moves_41 : decode cX4_moves 41 = .ok (.aload_n 0, 1) := by decide +kernel
theorem dX4_moves_42 : decode cX4_moves 42 = .ok (.getfield 7, 3) := by decide +kernel
theorem dX4_moves_45 : decode cX4_moves 45 = .ok (.iconst 5, 1) := by decide +kernel
theorem dX4_moves_46 : decode cX4_moves 46 = .ok (.iaload, 1) := by decide +kernel
theorem dX4_moves_47 : decode cX4_moves 47 = .ok (.invokevirtual 79, 3) := by decide +kernel
theorem dX4_moves_50 : decode cX4_moves 50 = .ok (.goto 20, 3) := by decide +kernel
theorem dX4_moves_53 : decode cX4_moves 53 = .ok (.aload_n 0, 1) := by decide +kernel
theorem dX4_moves_54 : decode cX4_moves 54 = .ok (.aload_n 0, 1) := by decide +kernel
theorem dX4_moves_55 : decode cX4_moves 55 = .ok (.getfield 7, 3) := by decide +kernel
theorem dX4_moves_58 : decode cX4_moves 58 = .ok (.iconst 0, 1) := by decide +kernel
theorem dX4_moves_59 : decode cX4_moves 59 = .ok (.iaload, 1) := by decide +kernel
theorem dX4_moves_60 : decode cX4_moves 60 = .ok (.iload_n 1, 1) := by decide +kernel
theorem dX4_moves_61 : decode cX4_moves 61 = .ok (.aload_n 0, 1) := by decide +kernel
theorem dX4_moves_62 : decode cX4_moves 62 = .ok (.getfield 7, 3) := by decide +kernel
theorem dX4_moves_65 : decode cX4_moves 65 = .ok (.iconst 5, 1) := by decide +kernel
theorem dX4_moves_66 : decode cX4_moves 66 = .ok (.iaload, 1) := by decide +kernel
theorem dX4_moves_67 : decode cX4_moves 67 = .ok (.invokevirtual 86, 3) := by decide +kernel
theorem dX4_moves_70 : decode cX4_moves 70 = .ok (.ireturn, 1) := by decide +kernel
theorem dX4_takeRow_0 : decode cX4_takeRow 0 = .ok (.aload_n 0, 1) := by decide +kernel
theorem dX4_takeRow_1 : decode cX4_takeRow 1 = .ok (.iconst 0, 1) := by decide +kernel
theorem dX4_takeRow_2 : decode cX4_takeRow 2 = .ok (.putfield 173, 3) := by decide +kernel
theorem dX4_takeRow_5 : decode cX4_takeRow 5 = .ok (.iload_n 1, 1) := by decide +kernel
theorem dX4_takeRow_6 : decode cX4_takeRow 6 = .ok (.istore_n 3, 1) := by decide +kernel
theorem dX4_takeRow_7 : decode cX4_takeRow 7 = .ok (.iload_n 3, 1) := by decide +kernel
theorem dX4_takeRow_8 : decode cX4_takeRow 8 = .ok (.ifCond .le 30, 3) := by decide +kernel
theorem dX4_takeRow_11 : decode cX4_takeRow 11 = .ok (.aload_n 0, 1) := by decide +kernel
theorem dX4_takeRow_12 : decode cX4_takeRow 12 = .ok (.getfield 173, 3) := by decide +kernel
theorem dX4_takeRow_15 : decode cX4_takeRow 15 = .ok (.bipush 9, 2) := by decide +kernel
theorem dX4_takeRow_17 : decode cX4_takeRow 17 = .ok (.if_icmp .ge 21, 3) := by decide +kernel
theorem dX4_takeRow_20 : decode cX4_takeRow 20 = .ok (.aload_n 0, 1) := by decide +kernel
theorem dX4_takeRow_21 : decode cX4_takeRow 21 = .ok (.dup, 1) := by decide +kernel
theorem dX4_takeRow_22 : decode cX4_takeRow 22 = .ok (.getfield 173, 3) := by decide +kernel
theorem dX4_takeRow_25 : decode cX4_takeRow 25 = .ok (.iconst 1, 1) := by decide +kernel
theorem dX4_takeRow_26 : decode cX4_takeRow 26 = .ok (.iadd, 1) := by decide +kernel
theorem dX4_takeRow_27 : decode cX4_takeRow 27 = .ok (.putfield 173, 3) := by decide +kernel
theorem dX4_takeRow_30 : decode cX4_takeRow 30 = .ok (.iload_n 3, 1) := by decide +kernel
theorem dX4_takeRow_31 : decode cX4_takeRow 31 = .ok (.bipush 10, 2) := by decide +kernel
theorem dX4_takeRow_33 : decode cX4_takeRow 33 = .ok (.idiv, 1) := by decide +kernel
theorem dX4_takeRow_34 : decode cX4_takeRow 34 = .ok (.istore_n 3, 1) := by decide +kernel
theorem dX4_takeRow_35 : decode cX4_takeRow 35 = .ok (.goto (-28), 3) := by decide +kernel
theorem dX4_takeRow_38 : decode cX4_takeRow 38 = .ok (.iload_n 1, 1) := by decide +kernel
theorem dX4_takeRow_39 : decode cX4_takeRow 39 = .ok (.ifCond .lt 15, 3) := by decide +kernel
theorem dX4_takeRow_42 : decode cX4_takeRow 42 = .ok (.iload_n 3, 1) := by decide +kernel
theorem dX4_takeRow_43 : decode cX4_takeRow 43 = .ok (.ifCond .gt 11, 3) := by decide +kernel
theorem dX4_takeRow_46 : decode cX4_takeRow 46 = .ok (.aload_n 0, 1) := by decide +kernel
theorem dX4_takeRow_47 : decode cX4_takeRow 47 = .ok (.getfield 173, 3) := by decide +kernel
theorem dX4_takeRow_50 : decode cX4_takeRow 50 = .ok (.iload_n 2, 1) := by decide +kernel
theorem dX4_takeRow_51 : decode cX4_takeRow 51 = .ok (.if_icmp .le 5, 3) := by decide +kernel
theorem dX4_takeRow_54 : decode cX4_takeRow 54 = .ok (.iconst 0, 1) := by decide +kernel
theorem dX4_takeRow_55 : decode cX4_takeRow 55 = .ok (.ireturn, 1) := by decide +kernel
theorem dX4_takeRow_56 : decode cX4_takeRow 56 = .ok (.iload_n 1, 1) := by decide +kernel
theorem dX4_takeRow_57 : decode cX4_takeRow 57 = .ok (.istore_n 3, 1) := by decide +kernel
theorem dX4_takeRow_58 : decode cX4_takeRow 58 = .ok (.iconst 1, 1) := by decide +kernel
theorem dX4_takeRow_59 : decode cX4_takeRow 59 = .ok (.istore 4, 2) := by decide +kernel
theorem dX4_takeRow_61 : decode cX4_takeRow 61 = .ok (.aload_n 0, 1) := by decide +kernel
theorem dX4_takeRow_62 : decode cX4_takeRow 62 = .ok (.getfield 173, 3) := by decide +kernel
theorem dX4_takeRow_65 : decode cX4_takeRow 65 = .ok (.iconst 1, 1) := by decide +kernel
theorem dX4_takeRow_66 : decode cX4_takeRow 66 = .ok (.isub, 1) := by decide +kernel
theorem dX4_takeRow_67 : decode cX4_takeRow 67 = .ok (.istore 5, 2) := by decide +kernel
theorem dX4_takeRow_69 : decode cX4_takeRow 69 = .ok (.iload 5, 2) := by decide +kernel
theorem dX4_takeRow_71 : decode cX4_takeRow 71 = .ok (.ifCond .lt 57, 3) := by decide +kernel
theorem dX4_takeRow_74 : decode cX4_takeRow 74 = .ok (.aload_n 0, 1) := by decide +kernel
theorem dX4_takeRow_75 : decode cX4_takeRow 75 = .ok (.getfield 28, 3) := by decide +kernel
theorem dX4_takeRow_78 : decode cX4_takeRow 78 = .ok (.iload 5, 2) := by decide +kernel
theorem dX4_takeRow_80 : decode cX4_takeRow 80 = .ok (.iload_n 3, 1) := by decide +kernel
theorem dX4_takeRow_81 : decode cX4_takeRow 81 = .ok (.bipush 10, 2) := by decide +kernel
theorem dX4_takeRow_83 : decode cX4_takeRow 83 = .ok (.irem, 1) := by decide +kernel
theorem dX4_takeRow_84 : decode cX4_takeRow 84 = .ok (.iconst 1, 1) := by decide +kernel
theorem dX4_takeRow_85 : decode cX4_takeRow 85 = .ok (.isub, 1) := by decide +kernel
theorem dX4_takeRow_86 : decode cX4_takeRow 86 = .ok (.iastore, 1) := by decide +kernel
theorem dX4_takeRow_87 : decode cX4_takeRow 87 = .ok (.iload 4, 2) := by decide +kernel
theorem dX4_takeRow_89 : decode cX4_takeRow 89 = .ok (.ifCond .eq 25, 3) := by decide +kernel
theorem dX4_takeRow_92 : decode cX4_takeRow 92 = .ok (.aload_n 0, 1) := by decide +kernel
theorem dX4_takeRow_93 : decode cX4_takeRow 93 = .ok (.getfield 28, 3) := by decide +kernel
theorem dX4_takeRow_96 : decode cX4_takeRow 96 = .ok (.iload 5, 2) := by decide +kernel
theorem dX4_takeRow_98 : decode cX4_takeRow 98 = .ok (.iaload, 1) := by decide +kernel
theorem dX4_takeRow_99 : decode cX4_takeRow 99 = .ok (.i2l, 1) := by decide +kernel
theorem dX4_takeRow_100 : decode cX4_takeRow 100 = .ok (.lconst 0, 1) := by decide +kernel
theorem dX4_takeRow_101 : decode cX4_takeRow 101 = .ok (.ldc2_w 89, 3) := by decide +kernel
theorem dX4_takeRow_104 : decode cX4_takeRow 104 = .ok (.invokestatic 58, 3) := by decide +kernel
theorem dX4_takeRow_107 : decode cX4_takeRow 107 = .ok (.ifCond .eq 7, 3) := by decide +kernel
theorem dX4_takeRow_110 : decode cX4_takeRow 110 = .ok (.iconst 1, 1) := by decide +kernel
theorem dX4_takeRow_111 : decode cX4_takeRow 111 = .ok (.goto 4, 3) := by decide +kernel
theorem dX4_takeRow_114 : decode cX4_takeRow 114 = .ok (.iconst 0, 1) := by decide +kernel
theorem dX4_takeRow_115 : decode cX4_takeRow 115 = .ok (.istore 4, 2) := by decide +kernel
theorem dX4_takeRow_117 : decode cX4_takeRow 117 = .ok (.iload_n 3, 1) := by decide +kernel
theorem dX4_takeRow_118 : decode cX4_takeRow 118 = .ok (.bipush 10, 2) := by decide +kernel
theorem dX4_takeRow_120 : decode cX4_takeRow 120 = .ok (.idiv, 1) := by decide +kernel
theorem dX4_takeRow_121 : decode cX4_takeRow 121 = .ok (.istore_n 3, 1) := by decide +kernel
theorem dX4_takeRow_122 : decode cX4_takeRow 122 = .ok (.iinc 5 (-1), 3) := by decide +kernel
theorem dX4_takeRow_125 : decode cX4_takeRow 125 = .ok (.goto (-56), 3) := by decide +kernel
theorem dX4_takeRow_128 : decode cX4_takeRow 128 = .ok (.iload 4, 2) := by decide +kernel
theorem dX4_takeRow_130 : decode cX4_takeRow 130 = .ok (.ireturn, 1) := by decide +kernel
theorem dX4_words_0 : decode cX4_words 0 = .ok (.aload_n 0, 1) := by decide +kernel
theorem dX4_words_1 : decode cX4_words 1 = .ok (.iload_n 1, 1) := by decide +kernel
theorem dX4_words_2 : decode cX4_words 2 = .ok (.bipush 9, 2) := by decide +kernel
theorem dX4_words_4 : decode cX4_words 4 = .ok (.invokevirtual 176, 3) := by decide +kernel
theorem dX4_words_7 : decode cX4_words 7 = .ok (.ifCond .eq 15, 3) := by decide +kernel
theorem dX4_words_10 : decode cX4_words 10 = .ok (.iload_n 2, 1) := by decide +kernel
theorem dX4_words_11 : decode cX4_words 11 = .ok (.i2l, 1) := by decide +kernel
theorem dX4_words_12 : decode cX4_words 12 = .ok (.lconst 0, 1) := by decide +kernel
theorem dX4_words_13 : decode cX4_words 13 = .ok (.ldc2_w 180, 3) := by decide +kernel
theorem dX4_words_16 : decode cX4_words 16 = .ok (.invokestatic 58, 3) := by decide +kernel
theorem dX4_words_19 : decode cX4_words 19 = .ok (.ifCond .ne 10, 3) := by decide +kernel
theorem dX4_words_22 : decode cX4_words 22 = .ok (.aload_n 0, 1) := by decide +kernel
theorem dX4_words_23 : decode cX4_words 23 = .ok (.bipush (-2), 2) := by decide +kernel
theorem dX4_words_25 : decode cX4_words 25 = .ok (.invokevirtual 91, 3) := by decide +kernel
theorem dX4_words_28 : decode cX4_words 28 = .ok (.ireturn, 1) := by decide +kernel
theorem dX4_words_29 : decode cX4_words 29 = .ok (.aload_n 0, 1) := by decide +kernel
theorem dX4_words_30 : decode cX4_words 30 = .ok (.invokevirtual 136, 3) := by decide +kernel
theorem dX4_words_33 : decode cX4_words 33 = .ok (.iconst 0, 1) := by decide +kernel
theorem dX4_words_34 : decode cX4_words 34 = .ok (.istore_n 3, 1) := by decide +kernel
theorem dX4_words_35 : decode cX4_words 35 = .ok (.iload_n 3, 1) := by decide +kernel
theorem dX4_words_36 : decode cX4_words 36 = .ok (.aload_n 0, 1) := by decide +kernel
theorem dX4_words_37 : decode cX4_words 37 = .ok (.getfield 173, 3) := by decide +kernel
theorem dX4_words_40 : decode cX4_words 40 = .ok (.if_icmp .ge 27, 3) := by decide +kernel
theorem dX4_words_43 : decode cX4_words 43 = .ok (.aload_n 0, 1) := by decide +kernel
theorem dX4_words_44 : decode cX4_words 44 = .ok (.getfield 76, 3) := by decide +kernel
theorem dX4_words_47 : decode cX4_words 47 = .ok (.ifCond .ne 20, 3) := by decide +kernel
theorem dX4_words_50 : decode cX4_words 50 = .ok (.aload_n 0, 1) := by decide +kernel
theorem dX4_words_51 : decode cX4_words 51 = .ok (.aload_n 0, 1) := by decide +kernel
theorem dX4_words_52 : decode cX4_words 52 = .ok (.getfield 28, 3) := by decide +kernel
theorem dX4_words_55 : decode cX4_words 55 = .ok (.iload_n 3, 1) := by decide +kernel
theorem dX4_words_56 : decode cX4_words 56 = .ok (.iaload, 1) := by decide +kernel
theorem dX4_words_57 : decode cX4_words 57 = .ok (.iconst 1, 1) := by decide +kernel
theorem dX4_words_58 : decode cX4_words 58 = .ok (.invokevirtual 139, 3) := by decide +kernel
theorem dX4_words_61 : decode cX4_words 61 = .ok (.iinc 3 1, 3) := by decide +kernel
theorem dX4_words_64 : decode cX4_words 64 = .ok (.goto (-29), 3) := by decide +kernel
theorem dX4_words_67 : decode cX4_words 67 = .ok (.iload_n 2, 1) := by decide +kernel
theorem dX4_words_68 : decode cX4_words 68 = .ok (.ifCond .ne 10, 3) := by decide +kernel
theorem dX4_words_71 : decode cX4_words 71 = .ok (.aload_n 0, 1) := by decide +kernel
theorem dX4_words_72 : decode cX4_words 72 = .ok (.getfield 66, 3) := by decide +kernel
theorem dX4_words_75 : decode cX4_words 75 = .ok (.goto 28, 3) := by decide +kernel
theorem dX4_words_78 : decode cX4_words 78 = .ok (.iload_n 2, 1) := by decide +kernel
theorem dX4_words_79 : decode cX4_words 79 = .ok (.iconst 1, 1) := by decide +kernel
theorem dX4_words_80 : decode cX4_words 80 = .ok (.if_icmp .ne 10, 3) := by decide +kernel
theorem dX4_words_83 : decode cX4_words 83 = .ok (.aload_n 0, 1) := by decide +kernel
theorem dX4_words_84 : decode cX4_words 84 = .ok (.getfield 70, 3) := by decide +kernel
theorem dX4_words_87 : decode cX4_words 87 = .ok (.goto 16, 3) := by decide +kernel
theorem dX4_words_90 : decode cX4_words 90 = .ok (.iload_n 2, 1) := by decide +kernel
theorem dX4_words_91 : decode cX4_words 91 = .ok (.iconst 2, 1) := by decide +kernel
theorem dX4_words_92 : decode cX4_words 92 = .ok (.if_icmp .ne 10, 3) := by decide +kernel
theorem dX4_words_95 : decode cX4_words 95 = .ok (.aload_n 0, 1) := by decide +kernel
theorem dX4_words_96 : decode cX4_words 96 = .ok (.getfield 76, 3) := by decide +kernel
theorem dX4_words_99 : decode cX4_words 99 = .ok (.goto 4, 3) := by decide +kernel
theorem dX4_words_102 : decode cX4_words 102 = .ok (.iload_n 3, 1) := by decide +kernel
theorem dX4_words_103 : decode cX4_words 103 = .ok (.ireturn, 1) := by decide +kernel
theorem dX4_placeOf_0 : decode cX4_placeOf 0 = .ok (.bipush 100, 2) := by decide +kernel
theorem dX4_placeOf_2 : decode cX4_placeOf 2 = .ok (.iload_n 0, 1) := by decide +kernel
theorem dX4_placeOf_3 : decode cX4_placeOf 3 = .ok (.imul, 1) := by decide +kernel
theorem dX4_placeOf_4 : decode cX4_placeOf 4 = .ok (.iload_n 1, 1) := by decide +kernel
theorem dX4_placeOf_5 : decode cX4_placeOf 5 = .ok (.iadd, 1) := by decide +kernel
theorem dX4_placeOf_6 : decode cX4_placeOf 6 = .ok (.iconst 2, 1) := by decide +kernel
theorem dX4_placeOf_7 : decode cX4_placeOf 7 = .ok (.imul, 1) := by decide +kernel
theorem dX4_placeOf_8 : decode cX4_placeOf 8 = .ok (.iload_n 2, 1) := by decide +kernel
theorem dX4_placeOf_9 : decode cX4_placeOf 9 = .ok (.iconst 2, 1) := by decide +kernel
theorem dX4_placeOf_10 : decode cX4_placeOf 10 = .ok (.irem, 1) := by decide +kernel
theorem dX4_placeOf_11 : decode cX4_placeOf 11 = .ok (.iadd, 1) := by decide +kernel
theorem dX4_placeOf_12 : decode cX4_placeOf 12 = .ok (.ireturn, 1) := by decide +kernel
theorem dX4_standAt_0 : decode cX4_standAt 0 = .ok (.aload_n 0, 1) := by decide +kernel
theorem dX4_standAt_1 : decode cX4_standAt 1 = .ok (.iload_n 1, 1) := by decide +kernel
theorem dX4_standAt_2 : decode cX4_standAt 2 = .ok (.iconst 2, 1) := by decide +kernel
theorem dX4_standAt_3 : decode cX4_standAt 3 = .ok (.idiv, 1) := by decide +kernel
theorem dX4_standAt_4 : decode cX4_standAt 4 = .ok (.bipush 100, 2) := by decide +kernel
theorem dX4_standAt_6 : decode cX4_standAt 6 = .ok (.idiv, 1) := by decide +kernel
theorem dX4_standAt_7 : decode cX4_standAt 7 = .ok (.putfield 66, 3) := by decide +kernel
theorem dX4_standAt_10 : decode cX4_standAt 10 = .ok (.aload_n 0, 1) := by decide +kernel
theorem dX4_standAt_11 : decode cX4_standAt 11 = .ok (.iload_n 1, 1) := by decide +kernel
theorem dX4_standAt_12 : decode cX4_standAt 12 = .ok (.iconst 2, 1) := by decide +kernel
theorem dX4_standAt_13 : decode cX4_standAt 13 = .ok (.idiv, 1) := by decide +kernel
theorem dX4_standAt_14 : decode cX4_standAt 14 = .ok (.bipush 100, 2) := by decide +kernel
theorem dX4_standAt_16 : decode cX4_standAt 16 = .ok (.irem, 1) := by decide +kernel
theorem dX4_standAt_17 : decode cX4_standAt 17 = .ok (.putfield 70, 3) := by decide +kernel
theorem dX4_standAt_20 : decode cX4_standAt 20 = .ok (.aload_n 0, 1) := by decide +kernel
theorem dX4_standAt_21 : decode cX4_standAt 21 = .ok (.iload_n 1, 1) := by decide +kernel
theorem dX4_standAt_22 : decode cX4_standAt 22 = .ok (.iconst 2, 1) := by decide +kernel
theorem dX4_standAt_23 : decode cX4_standAt 23 = .ok (.irem, 1) := by decide +kernel
theorem dX4_standAt_24 : decode cX4_standAt 24 = .ok (.putfield 73, 3) := by decide +kernel
theorem dX4_standAt_27 : decode cX4_standAt 27 = .ok (.aload_n 0, 1) := by decide +kernel
theorem dX4_standAt_28 : decode cX4_standAt 28 = .ok (.iconst 0, 1) := by decide +kernel
theorem dX4_standAt_29 : decode cX4_standAt 29 = .ok (.putfield 76, 3) := by decide +kernel
theorem dX4_standAt_32 : decode cX4_standAt 32 = .ok (.return_, 1) := by decide +kernel
theorem dX4_findFar_0 : decode cX4_findFar 0 = .ok (.iconst 0, 1) := by decide +kernel
theorem dX4_findFar_1 : decode cX4_findFar 1 = .ok (.istore_n 1, 1) := by decide +kernel
theorem dX4_findFar_2 : decode cX4_findFar 2 = .ok (.iload_n 1, 1) := by decide +kernel
theorem dX4_findFar_3 : decode cX4_findFar 3 = .ok (.sipush 20000, 3) := by decide +kernel
theorem dX4_findFar_6 : decode cX4_findFar 6 = .ok (.if_icmp .ge 17, 3) := by decide +kernel
theorem dX4_findFar_9 : decode cX4_findFar 9 = .ok (.aload_n 0, 1) := by decide +kernel
theorem dX4_findFar_10 : decode cX4_findFar 10 = .ok (.getfield 31, 3) := by decide +kernel
theorem dX4_findFar_13 : decode cX4_findFar 13 = .ok (.iload_n 1, 1) := by decide +kernel
theorem dX4_findFar_14 : decode cX4_findFar 14 = .ok (.bipush 13, 2) := by decide +kernel
theorem dX4_findFar_16 : decode cX4_findFar 16 = .ok (.iastore, 1) := by decide +kernel
theorem dX4_findFar_17 : decode cX4_findFar 17 = .ok (.iinc 1 1, 3) := by decide +kernel
theorem dX4_findFar_20 : decode cX4_findFar 20 = .ok (.goto (-18), 3) := by decide +kernel
theorem dX4_findFar_23 : decode cX4_findFar 23 = .ok (.iconst 1, 1) := by decide +kernel
theorem dX4_findFar_24 : decode cX4_findFar 24 = .ok (.istore_n 1, 1) := by decide +kernel
theorem dX4_findFar_25 : decode cX4_findFar 25 = .ok (.iload_n 1, 1) := by decide +kernel
theorem dX4_findFar_26 : decode cX4_findFar 26 = .ok (.bipush 12, 2) := by decide +kernel
theorem dX4_findFar_28 : decode cX4_findFar 28 = .ok (.if_icmp .gt 141, 3) := by decide +kernel
theorem dX4_findFar_31 : decode cX4_findFar 31 = .ok (.iconst 0, 1) := by decide +kernel
theorem dX4_findFar_32 : decode cX4_findFar 32 = .ok (.istore_n 2, 1) := by decide +kernel
theorem dX4_findFar_33 : decode cX4_findFar 33 = .ok (.iload_n 2, 1) := by decide +kernel
theorem dX4_findFar_34 : decode cX4_findFar 34 = .ok (.sipush 20000, 3) := by decide +kernel
theorem dX4_findFar_37 : decode cX4_findFar 37 = .ok (.if_icmp .ge 126, 3) := by decide +kernel
theorem dX4_findFar_40 : decode cX4_findFar 40 = .ok (.iconst 0, 1) := by decide +kernel
theorem dX4_findFar_41 : decode cX4_findFar 41 = .ok (.istore_n 3, 1) := by decide +kernel
theorem dX4_findFar_42 : decode cX4_findFar 42 = .ok (.iload_n 3, 1) := by decide +kernel
theorem dX4_findFar_43 : decode cX4_findFar 43 = .ok (.bipush 6, 2) := by decide +kernel
theorem dX4_findFar_45 : decode cX4_findFar 45 = .ok (.if_icmp .ge 112, 3) := by decide +kernel
theorem dX4_findFar_48 : decode cX4_findFar 48 = .ok (.aload_n 0, 1) := by decide +kernel
theorem dX4_findFar_49 : decode cX4_findFar 49 = .ok (.getfield 31, 3) := by decide +kernel
theorem dX4_findFar_52 : decode cX4_findFar 52 = .ok (.iload_n 2, 1) := by decide +kernel
theorem dX4_findFar_53 : decode cX4_findFar 53 = .ok (.iaload, 1) := by decide +kernel
theorem dX4_findFar_54 : decode cX4_findFar 54 = .ok (.iload_n 1, 1) := by decide +kernel
theorem dX4_findFar_55 : decode cX4_findFar 55 = .ok (.if_icmp .le 102, 3) := by decide +kernel
theorem dX4_findFar_58 : decode cX4_findFar 58 = .ok (.aload_n 0, 1) := by decide +kernel
theorem dX4_findFar_59 : decode cX4_findFar 59 = .ok (.iload_n 2, 1) := by decide +kernel
theorem dX4_findFar_60 : decode cX4_findFar 60 = .ok (.invokevirtual 182, 3) := by decide +kernel
theorem dX4_findFar_63 : decode cX4_findFar 63 = .ok (.aload_n 0, 1) := by decide +kernel
theorem dX4_findFar_64 : decode cX4_findFar 64 = .ok (.iload_n 3, 1) := by decide +kernel
theorem dX4_findFar_65 : decode cX4_findFar 65 = .ok (.iconst 1, 1) := by decide +kernel
theorem dX4_findFar_66 : decode cX4_findFar 66 = .ok (.invokevirtual 139, 3) := by decide +kernel
theorem dX4_findFar_69 : decode cX4_findFar 69 = .ok (.iload_n 1, 1) := by decide +kernel
theorem dX4_findFar_70 : decode cX4_findFar 70 = .ok (.iconst 1, 1) := by decide +kernel
theorem dX4_findFar_71 : decode cX4_findFar 71 = .ok (.if_icmp .ne 19, 3) := by decide +kernel
theorem dX4_findFar_74 : decode cX4_findFar 74 = .ok (.aload_n 0, 1) := by decide +kernel
theorem dX4_findFar_75 : decode cX4_findFar 75 = .ok (.getfield 76, 3) := by decide +kernel
theorem dX4_findFar_78 : decode cX4_findFar 78 = .ok (.iconst 1, 1) := by decide +kernel
theorem dX4_findFar_79 : decode cX4_findFar 79 = .ok (.if_icmp .ne 7, 3) := by decide +kernel
theorem dX4_findFar_82 : decode cX4_findFar 82 = .ok (.iconst 1, 1) := by decide +kernel
theorem dX4_findFar_83 : decode cX4_findFar 83 = .ok (.goto 45, 3) := by decide +kernel
theorem dX4_findFar_86 : decode cX4_findFar 86 = .ok (.iconst 0, 1) := by decide +kernel
theorem dX4_findFar_87 : decode cX4_findFar 87 = .ok (.goto 41, 3) := by decide +kernel
theorem dX4_findFar_90 : decode cX4_findFar 90 = .ok (.aload_n 0, 1) := by decide +kernel
theorem dX4_findFar_91 : decode cX4_findFar 91 = .ok (.getfield 76, 3) := by decide +kernel
theorem dX4_findFar_94 : decode cX4_findFar 94 = .ok (.ifCond .ne 33, 3) := by decide +kernel
theorem dX4_findFar_97 : decode cX4_findFar 97 = .ok (.aload_n 0, 1) := by decide +kernel
theorem dX4_findFar_98 : decode cX4_findFar 98 = .ok (.getfield 31, 3) := by decide +kernel
theorem dX4_findFar_101 : decode cX4_findFar 101 = .ok (.aload_n 0, 1) := by decide +kernel
theorem dX4_findFar_102 : decode cX4_findFar 102 = .ok (.getfield 66, 3) := by decide +kernel
theorem dX4_findFar_105 : decode cX4_findFar 105 = .ok (.aload_n 0, 1) := by decide +kernel
theorem dX4_findFar_106 : decode cX4_findFar 106 = .ok (.getfield 70, 3) := by decide +kernel
theorem dX4_findFar_109 : decode cX4_findFar 109 = .ok (.aload_n 0, 1) := by decide +kernel
theorem dX4_findFar_110 : decode cX4_findFar 110 = .ok (.getfield 73, 3) := by decide +kernel
theorem dX4_findFar_113 : decode cX4_findFar 113 = .ok (.invokestatic 185, 3) := by decide +kernel
theorem dX4_findFar_116 : decode cX4_findFar 116 = .ok (.iaload, 1) := by decide +kernel
theorem dX4_findFar_117 : decode cX4_findFar 117 = .ok (.iload_n 1, 1) := by decide +kernel
theorem dX4_findFar_118 : decode cX4_findFar 118 = .ok (.iconst 1, 1) := by decide +kernel
theorem dX4_findFar_119 : decode cX4_findFar 119 = .ok (.isub, 1) := by decide +kernel
theorem dX4_findFar_120 : decode cX4_findFar 120 = .ok (.if_icmp .ne 7, 3) := by decide +kernel
theorem dX4_findFar_123 : decode cX4_findFar 123 = .ok (.iconst 1, 1) := by decide +kernel
theorem dX4_findFar_124 : decode cX4_findFar 124 = .ok (.goto 4, 3) := by decide +kernel
theorem dX4_findFar_127 : decode cX4_findFar 127 = .ok (.iconst 0, 1) := by decide +kernel
theorem dX4_findFar_128 : decode cX4_findFar 128 = .ok (.istore 4, 2) := by decide +kernel
theorem dX4_findFar_130 : decode cX4_findFar 130 = .ok (.aload_n 0, 1) := by decide +kernel
theorem dX4_findFar_131 : decode cX4_findFar 131 = .ok (.getfield 31, 3) := by decide +kernel
theorem dX4_findFar_134 : decode cX4_findFar 134 = .ok (.iload_n 2, 1) := by decide +kernel
theorem dX4_findFar_135 : decode cX4_findFar 135 = .ok (.iload 4, 2) := by decide +kernel
theorem dX4_findFar_137 : decode cX4_findFar 137 = .ok (.ifCond .eq 7, 3) := by decide +kernel
theorem dX4_findFar_140 : decode cX4_findFar 140 = .ok (.iload_n 1, 1) := by decide +kernel
theorem dX4_findFar_141 : decode cX4_findFar 141 = .ok (.goto 9, 3) := by decide +kernel
theorem dX4_findFar_144 : decode cX4_findFar 144 = .ok (.aload_n 0, 1) := by decide +kernel
theorem dX4_findFar_145 : decode cX4_findFar 145 = .ok (.getfield 31, 3) := by decide +kernel
theorem dX4_findFar_148 : decode cX4_findFar 148 = .ok (.iload_n 2, 1) := by decide +kernel
theorem dX4_findFar_149 : decode cX4_findFar 149 = .ok (.iaload, 1) := by decide +kernel
theorem dX4_findFar_150 : decode cX4_findFar 150 = .ok (.iastore, 1) := by decide +kernel
theorem dX4_findFar_151 : decode cX4_findFar 151 = .ok (.iinc 3 1, 3) := by decide +kernel
theorem dX4_findFar_154 : decode cX4_findFar 154 = .ok (.goto (-112), 3) := by decide +kernel
theorem dX4_findFar_157 : decode cX4_findFar 157 = .ok (.iinc 2 1, 3) := by decide +kernel
theorem dX4_findFar_160 : decode cX4_findFar 160 = .ok (.goto (-127), 3) := by decide +kernel
theorem dX4_findFar_163 : decode cX4_findFar 163 = .ok (.iinc 1 1, 3) := by decide +kernel
theorem dX4_findFar_166 : decode cX4_findFar 166 = .ok (.goto (-141), 3) := by decide +kernel
theorem dX4_findFar_169 : decode cX4_findFar 169 = .ok (.return_, 1) := by decide +kernel
theorem dX4_walkIn_0 : decode cX4_walkIn 0 = .ok (.aload_n 0, 1) := by decide +kernel
theorem dX4_walkIn_1 : decode cX4_walkIn 1 = .ok (.invokevirtual 136, 3) := by decide +kernel
theorem dX4_walkIn_4 : decode cX4_walkIn 4 = .ok (.iconst 0, 1) := by decide +kernel
theorem dX4_walkIn_5 : decode cX4_walkIn 5 = .ok (.istore_n 2, 1) := by decide +kernel
theorem dX4_walkIn_6 : decode cX4_walkIn 6 = .ok (.iload_n 2, 1) := by decide +kernel
theorem dX4_walkIn_7 : decode cX4_walkIn 7 = .ok (.iload_n 1, 1) := by decide +kernel
theorem dX4_walkIn_8 : decode cX4_walkIn 8 = .ok (.if_icmp .ge 147, 3) := by decide +kernel
theorem dX4_walkIn_11 : decode cX4_walkIn 11 = .ok (.aload_n 0, 1) := by decide +kernel
theorem dX4_walkIn_12 : decode cX4_walkIn 12 = .ok (.getfield 66, 3) := by decide +kernel
theorem dX4_walkIn_15 : decode cX4_walkIn 15 = .ok (.istore_n 3, 1) := by decide +kernel
theorem dX4_walkIn_16 : decode cX4_walkIn 16 = .ok (.aload_n 0, 1) := by decide +kernel
theorem dX4_walkIn_17 : decode cX4_walkIn 17 = .ok (.getfield 70, 3) := by decide +kernel
theorem dX4_walkIn_20 : decode cX4_walkIn 20 = .ok (.istore 4, 2) := by decide +kernel
theorem dX4_walkIn_22 : decode cX4_walkIn 22 = .ok (.aload_n 0, 1) := by decide +kernel
theorem dX4_walkIn_23 : decode cX4_walkIn 23 = .ok (.getfield 73, 3) := by decide +kernel
theorem dX4_walkIn_26 : decode cX4_walkIn 26 = .ok (.istore 5, 2) := by decide +kernel
theorem dX4_walkIn_28 : decode cX4_walkIn 28 = .ok (.iconst 0, 1) := by decide +kernel
theorem dX4_walkIn_29 : decode cX4_walkIn 29 = .ok (.istore 6, 2) := by decide +kernel
theorem dX4_walkIn_31 : decode cX4_walkIn 31 = .ok (.iconst 0, 1) := by decide +kernel
theorem dX4_walkIn_32 : decode cX4_walkIn 32 = .ok (.istore 7, 2) := by decide +kernel
theorem dX4_walkIn_34 : decode cX4_walkIn 34 = .ok (.iload 7, 2) := by decide +kernel
theorem dX4_walkIn_36 : decode cX4_walkIn 36 = .ok (.bipush 6, 2) := by decide +kernel
theorem dX4_walkIn_38 : decode cX4_walkIn 38 = .ok (.if_icmp .ge 111, 3) := by decide +kernel
theorem dX4_walkIn_41 : decode cX4_walkIn 41 = .ok (.iload 6, 2) := by decide +kernel
theorem dX4_walkIn_43 : decode cX4_walkIn 43 = .ok (.ifCond .ne 106, 3) := by decide +kernel
theorem dX4_walkIn_46 : decode cX4_walkIn 46 = .ok (.aload_n 0, 1) := by decide +kernel
theorem dX4_walkIn_47 : decode cX4_walkIn 47 = .ok (.iload_n 3, 1) := by decide +kernel
theorem dX4_walkIn_48 : decode cX4_walkIn 48 = .ok (.putfield 66, 3) := by decide +kernel
theorem dX4_walkIn_51 : decode cX4_walkIn 51 = .ok (.aload_n 0, 1) := by decide +kernel
theorem dX4_walkIn_52 : decode cX4_walkIn 52 = .ok (.iload 4, 2) := by decide +kernel
theorem dX4_walkIn_54 : decode cX4_walkIn 54 = .ok (.putfield 70, 3) := by decide +kernel
theorem dX4_walkIn_57 : decode cX4_walkIn 57 = .ok (.aload_n 0, 1) := by decide +kernel
theorem dX4_walkIn_58 : decode cX4_walkIn 58 = .ok (.iload 5, 2) := by decide +kernel
theorem dX4_walkIn_60 : decode cX4_walkIn 60 = .ok (.putfield 73, 3) := by decide +kernel
theorem dX4_walkIn_63 : decode cX4_walkIn 63 = .ok (.aload_n 0, 1) := by decide +kernel
theorem dX4_walkIn_64 : decode cX4_walkIn 64 = .ok (.iload 7, 2) := by decide +kernel
theorem dX4_walkIn_66 : decode cX4_walkIn 66 = .ok (.iconst 1, 1) := by decide +kernel
theorem dX4_walkIn_67 : decode cX4_walkIn 67 = .ok (.invokevirtual 139, 3) := by decide +kernel
theorem dX4_walkIn_70 : decode cX4_walkIn 70 = .ok (.aload_n 0, 1) := by decide +kernel
theorem dX4_walkIn_71 : decode cX4_walkIn 71 = .ok (.getfield 39, 3) := by decide +kernel
theorem dX4_walkIn_74 : decode cX4_walkIn 74 = .ok (.iload_n 2, 1) := by decide +kernel
theorem dX4_walkIn_75 : decode cX4_walkIn 75 = .ok (.iload 7, 2) := by decide +kernel
theorem dX4_walkIn_77 : decode cX4_walkIn 77 = .ok (.iastore, 1) := by decide +kernel
theorem dX4_walkIn_78 : decode cX4_walkIn 78 = .ok (.iload_n 2, 1) := by decide +kernel
theorem dX4_walkIn_79 : decode cX4_walkIn 79 = .ok (.iload_n 1, 1) := by decide +kernel
theorem dX4_walkIn_80 : decode cX4_walkIn 80 = .ok (.iconst 1, 1) := by decide +kernel
theorem dX4_walkIn_81 : decode cX4_walkIn 81 = .ok (.isub, 1) := by decide +kernel
theorem dX4_walkIn_82 : decode cX4_walkIn 82 = .ok (.if_icmp .ne 19, 3) := by decide +kernel
theorem dX4_walkIn_85 : decode cX4_walkIn 85 = .ok (.aload_n 0, 1) := by decide +kernel
theorem dX4_walkIn_86 : decode cX4_walkIn 86 = .ok (.getfield 76, 3) := by decide +kernel
theorem dX4_walkIn_89 : decode cX4_walkIn 89 = .ok (.iconst 1, 1) := by decide +kernel
theorem dX4_walkIn_90 : decode cX4_walkIn 90 = .ok (.if_icmp .ne 7, 3) := by decide +kernel
theorem dX4_walkIn_93 : decode cX4_walkIn 93 = .ok (.iconst 1, 1) := by decide +kernel
theorem dX4_walkIn_94 : decode cX4_walkIn 94 = .ok (.goto 47, 3) := by decide +kernel
theorem dX4_walkIn_97 : decode cX4_walkIn 97 = .ok (.iconst 0, 1) := by decide +kernel
theorem dX4_walkIn_98 : decode cX4_walkIn 98 = .ok (.goto 43, 3) := by decide +kernel
theorem dX4_walkIn_101 : decode cX4_walkIn 101 = .ok (.aload_n 0, 1) := by decide +kernel
theorem dX4_walkIn_102 : decode cX4_walkIn 102 = .ok (.getfield 76, 3) := by decide +kernel
theorem dX4_walkIn_105 : decode cX4_walkIn 105 = .ok (.ifCond .ne 35, 3) := by decide +kernel
theorem dX4_walkIn_108 : decode cX4_walkIn 108 = .ok (.aload_n 0, 1) := by decide +kernel
theorem dX4_walkIn_109 : decode cX4_walkIn 109 = .ok (.getfield 31, 3) := by decide +kernel
theorem dX4_walkIn_112 : decode cX4_walkIn 112 = .ok (.aload_n 0, 1) := by decide +kernel
theorem dX4_walkIn_113 : decode cX4_walkIn 113 = .ok (.getfield 66, 3) := by decide +kernel
theorem dX4_walkIn_116 : decode cX4_walkIn 116 = .ok (.aload_n 0, 1) := by decide +kernel
theorem dX4_walkIn_117 : decode cX4_walkIn 117 = .ok (.getfield 70, 3) := by decide +kernel
theorem dX4_walkIn_120 : decode cX4_walkIn 120 = .ok (.aload_n 0, 1) := by decide +kernel
theorem dX4_walkIn_121 : decode cX4_walkIn 121 = .ok (.getfield 73, 3) := by decide +kernel
theorem dX4_walkIn_124 : decode cX4_walkIn 124 = .ok (.invokestatic 185, 3) := by decide +kernel
theorem dX4_walkIn_127 : decode cX4_walkIn 127 = .ok (.iaload, 1) := by decide +kernel
theorem dX4_walkIn_128 : decode cX4_walkIn 128 = .ok (.iload_n 1, 1) := by decide +kernel
theorem dX4_walkIn_129 : decode cX4_walkIn 129 = .ok (.iconst 1, 1) := by decide +kernel
theorem dX4_walkIn_130 : decode cX4_walkIn 130 = .ok (.isub, 1) := by decide +kernel
theorem dX4_walkIn_131 : decode cX4_walkIn 131 = .ok (.iload_n 2, 1) := by decide +kernel
theorem dX4_walkIn_132 : decode cX4_walkIn 132 = .ok (.isub, 1) := by decide +kernel
theorem dX4_walkIn_133 : decode cX4_walkIn 133 = .ok (.if_icmp .ne 7, 3) := by decide +kernel
theorem dX4_walkIn_136 : decode cX4_walkIn 136 = .ok (.iconst 1, 1) := by decide +kernel
theorem dX4_walkIn_137 : decode cX4_walkIn 137 = .ok (.goto 4, 3) := by decide +kernel
theorem dX4_walkIn_140 : decode cX4_walkIn 140 = .ok (.iconst 0, 1) := by decide +kernel
theorem dX4_walkIn_141 : decode cX4_walkIn 141 = .ok (.istore 6, 2) := by decide +kernel
theorem dX4_walkIn_143 : decode cX4_walkIn 143 = .ok (.iinc 7 1, 3) := by decide +kernel
theorem dX4_walkIn_146 : decode cX4_walkIn 146 = .ok (.goto (-112), 3) := by decide +kernel
theorem dX4_walkIn_149 : decode cX4_walkIn 149 = .ok (.iinc 2 1, 3) := by decide +kernel
theorem dX4_walkIn_152 : decode cX4_walkIn 152 = .ok (.goto (-146), 3) := by decide +kernel
theorem dX4_walkIn_155 : decode cX4_walkIn 155 = .ok (.return_, 1) := by decide +kernel
theorem dX4_fewest_0 : decode cX4_fewest 0 = .ok (.iload_n 1, 1) := by decide +kernel
theorem dX4_fewest_1 : decode cX4_fewest 1 = .ok (.iconst (-1), 1) := by decide +kernel
theorem dX4_fewest_2 : decode cX4_fewest 2 = .ok (.if_icmp .ge 10, 3) := by decide +kernel
theorem dX4_fewest_5 : decode cX4_fewest 5 = .ok (.aload_n 0, 1) := by decide +kernel
theorem dX4_fewest_6 : decode cX4_fewest 6 = .ok (.bipush (-10), 2) := by decide +kernel
theorem dX4_fewest_8 : decode cX4_fewest 8 = .ok (.invokevirtual 62, 3) := by decide +kernel
theorem dX4_fewest_11 : decode cX4_fewest 11 = .ok (.ireturn, 1) := by decide +kernel
theorem dX4_fewest_12 : decode cX4_fewest 12 = .ok (.aload_n 0, 1) := by decide +kernel
theorem dX4_fewest_13 : decode cX4_fewest 13 = .ok (.getfield 7, 3) := by decide +kernel
theorem dX4_fewest_16 : decode cX4_fewest 16 = .ok (.bipush 6, 2) := by decide +kernel
theorem dX4_fewest_18 : decode cX4_fewest 18 = .ok (.iaload, 1) := by decide +kernel
theorem dX4_fewest_19 : decode cX4_fewest 19 = .ok (.iconst 2, 1) := by decide +kernel
theorem dX4_fewest_20 : decode cX4_fewest 20 = .ok (.if_icmp .ne 5, 3) := by decide +kernel
theorem dX4_fewest_23 : decode cX4_fewest 23 = .ok (.iconst (-1), 1) := by decide +kernel
theorem dX4_fewest_24 : decode cX4_fewest 24 = .ok (.ireturn, 1) := by decide +kernel
theorem dX4_fewest_25 : decode cX4_fewest 25 = .ok (.iconst 0, 1) := by decide +kernel
theorem dX4_fewest_26 : decode cX4_fewest 26 = .ok (.istore_n 2, 1) := by decide +kernel
theorem dX4_fewest_27 : decode cX4_fewest 27 = .ok (.aload_n 0, 1) := by decide +kernel
theorem dX4_fewest_28 : decode cX4_fewest 28 = .ok (.getfield 7, 3) := by decide +kernel
theorem dX4_fewest_31 : decode cX4_fewest 31 = .ok (.bipush 6, 2) := by decide +kernel
theorem dX4_fewest_33 : decode cX4_fewest 33 = .ok (.iaload, 1) := by decide +kernel
theorem dX4_fewest_34 : decode cX4_fewest 34 = .ok (.ifCond .ne 34, 3) := by decide +kernel
theorem dX4_fewest_37 : decode cX4_fewest 37 = .ok (.aload_n 0, 1) := by decide +kernel
theorem dX4_fewest_38 : decode cX4_fewest 38 = .ok (.invokevirtual 188, 3) := by decide +kernel
theorem dX4_fewest_41 : decode cX4_fewest 41 = .ok (.aload_n 0, 1) := by decide +kernel
theorem dX4_fewest_42 : decode cX4_fewest 42 = .ok (.getfield 31, 3) := by decide +kernel
theorem dX4_fewest_45 : decode cX4_fewest 45 = .ok (.aload_n 0, 1) := by decide +kernel
theorem dX4_fewest_46 : decode cX4_fewest 46 = .ok (.getfield 7, 3) := by decide +kernel
theorem dX4_fewest_49 : decode cX4_fewest 49 = .ok (.iconst 1, 1) := by decide +kernel
theorem dX4_fewest_50 : decode cX4_fewest 50 = .ok (.iaload, 1) := by decide +kernel
theorem dX4_fewest_51 : decode cX4_fewest 51 = .ok (.aload_n 0, 1) := by decide +kernel
theorem dX4_fewest_52 : decode cX4_fewest 52 = .ok (.getfield 7, 3) := by decide +kernel
theorem dX4_fewest_55 : decode cX4_fewest 55 = .ok (.iconst 2, 1) := by decide +kernel
theorem dX4_fewest_56 : decode cX4_fewest 56 = .ok (.iaload, 1) := by decide +kernel
theorem dX4_fewest_57 : decode cX4_fewest 57 = .ok (.aload_n 0, 1) := by decide +kernel
theorem dX4_fewest_58 : decode cX4_fewest 58 = .ok (.getfield 7, 3) := by decide +kernel
theorem dX4_fewest_61 : decode cX4_fewest 61 = .ok (.iconst 5, 1) := by decide +kernel
theorem dX4_fewest_62 : decode cX4_fewest 62 = .ok (.iaload, 1) := by decide +kernel
theorem dX4_fewest_63 : decode cX4_fewest 63 = .ok (.invokestatic 185, 3) := by decide +kernel
theorem dX4_fewest_66 : decode cX4_fewest 66 = .ok (.iaload, 1) := by decide +kernel
theorem dX4_fewest_67 : decode cX4_fewest 67 = .ok (.istore_n 2, 1) := by decide +kernel
theorem dX4_fewest_68 : decode cX4_fewest 68 = .ok (.iload_n 2, 1) := by decide +kernel
theorem dX4_fewest_69 : decode cX4_fewest 69 = .ok (.bipush 12, 2) := by decide +kernel
theorem dX4_fewest_71 : decode cX4_fewest 71 = .ok (.if_icmp .le 5, 3) := by decide +kernel
theorem dX4_fewest_74 : decode cX4_fewest 74 = .ok (.iconst (-1), 1) := by decide +kernel
theorem dX4_fewest_75 : decode cX4_fewest 75 = .ok (.ireturn, 1) := by decide +kernel
theorem dX4_fewest_76 : decode cX4_fewest 76 = .ok (.iload_n 1, 1) := by decide +kernel
theorem dX4_fewest_77 : decode cX4_fewest 77 = .ok (.iconst (-1), 1) := by decide +kernel
theorem dX4_fewest_78 : decode cX4_fewest 78 = .ok (.if_icmp .ne 5, 3) := by decide +kernel
theorem dX4_fewest_81 : decode cX4_fewest 81 = .ok (.iload_n 2, 1) := by decide +kernel
theorem dX4_fewest_82 : decode cX4_fewest 82 = .ok (.ireturn, 1) := by decide +kernel
theorem dX4_fewest_83 : decode cX4_fewest 83 = .ok (.aload_n 0, 1) := by decide +kernel
theorem dX4_fewest_84 : decode cX4_fewest 84 = .ok (.iload_n 2, 1) := by decide +kernel
theorem dX4_fewest_85 : decode cX4_fewest 85 = .ok (.invokevirtual 191, 3) := by decide +kernel
theorem dX4_fewest_88 : decode cX4_fewest 88 = .ok (.iload_n 1, 1) := by decide +kernel
theorem dX4_fewest_89 : decode cX4_fewest 89 = .ok (.iload_n 2, 1) := by decide +kernel
theorem dX4_fewest_90 : decode cX4_fewest 90 = .ok (.if_icmp .ge 12, 3) := by decide +kernel
theorem dX4_fewest_93 : decode cX4_fewest 93 = .ok (.aload_n 0, 1) := by decide +kernel
theorem dX4_fewest_94 : decode cX4_fewest 94 = .ok (.getfield 39, 3) := by decide +kernel
theorem dX4_fewest_97 : decode cX4_fewest 97 = .ok (.iload_n 1, 1) := by decide +kernel
theorem dX4_fewest_98 : decode cX4_fewest 98 = .ok (.iaload, 1) := by decide +kernel
theorem dX4_fewest_99 : decode cX4_fewest 99 = .ok (.goto 5, 3) := by decide +kernel
theorem dX4_fewest_102 : decode cX4_fewest 102 = .ok (.bipush (-5), 2) := by decide +kernel
theorem dX4_fewest_104 : decode cX4_fewest 104 = .ok (.ireturn, 1) := by decide +kernel
theorem dX4_isSaid_0 : decode cX4_isSaid 0 = .ok (.iload_n 0, 1) := by decide +kernel
theorem dX4_isSaid_1 : decode cX4_isSaid 1 = .ok (.ifCond .eq 13, 3) := by decide +kernel
theorem dX4_isSaid_4 : decode cX4_isSaid 4 = .ok (.iload_n 1, 1) := by decide +kernel
theorem dX4_isSaid_5 : decode cX4_isSaid 5 = .ok (.iconst 3, 1) := by decide +kernel
theorem dX4_isSaid_6 : decode cX4_isSaid 6 = .ok (.if_icmp .eq 12, 3) := by decide +kernel
theorem dX4_isSaid_9 : decode cX4_isSaid 9 = .ok (.iload_n 1, 1) := by decide +kernel
theorem dX4_isSaid_10 : decode cX4_isSaid 10 = .ok (.iconst 4, 1) := by decide +kernel
theorem dX4_isSaid_11 : decode cX4_isSaid 11 = .ok (.if_icmp .eq 7, 3) := by decide +kernel
theorem dX4_isSaid_14 : decode cX4_isSaid 14 = .ok (.iconst 1, 1) := by decide +kernel
theorem dX4_isSaid_15 : decode cX4_isSaid 15 = .ok (.goto 4, 3) := by decide +kernel
theorem dX4_isSaid_18 : decode cX4_isSaid 18 = .ok (.iconst 0, 1) := by decide +kernel
theorem dX4_isSaid_19 : decode cX4_isSaid 19 = .ok (.ireturn, 1) := by decide +kernel
theorem dX4_canStay_0 : decode cX4_canStay 0 = .ok (.iconst 0, 1) := by decide +kernel
theorem dX4_canStay_1 : decode cX4_canStay 1 = .ok (.istore 4, 2) := by decide +kernel
theorem dX4_canStay_3 : decode cX4_canStay 3 = .ok (.iconst 0, 1) := by decide +kernel
theorem dX4_canStay_4 : decode cX4_canStay 4 = .ok (.istore 5, 2) := by decide +kernel
theorem dX4_canStay_6 : decode cX4_canStay 6 = .ok (.iload 5, 2) := by decide +kernel
theorem dX4_canStay_8 : decode cX4_canStay 8 = .ok (.bipush 6, 2) := by decide +kernel
theorem dX4_canStay_10 : decode cX4_canStay 10 = .ok (.if_icmp .ge 80, 3) := by decide +kernel
theorem dX4_canStay_13 : decode cX4_canStay 13 = .ok (.iload 4, 2) := by decide +kernel
theorem dX4_canStay_15 : decode cX4_canStay 15 = .ok (.ifCond .ne 75, 3) := by decide +kernel
theorem dX4_canStay_18 : decode cX4_canStay 18 = .ok (.aload_n 0, 1) := by decide +kernel
theorem dX4_canStay_19 : decode cX4_canStay 19 = .ok (.iload_n 2, 1) := by decide +kernel
theorem dX4_canStay_20 : decode cX4_canStay 20 = .ok (.invokevirtual 182, 3) := by decide +kernel
theorem dX4_canStay_23 : decode cX4_canStay 23 = .ok (.aload_n 0, 1) := by decide +kernel
theorem dX4_canStay_24 : decode cX4_canStay 24 = .ok (.iload 5, 2) := by decide +kernel
theorem dX4_canStay_26 : decode cX4_canStay 26 = .ok (.iconst 1, 1) := by decide +kernel
theorem dX4_canStay_27 : decode cX4_canStay 27 = .ok (.invokevirtual 139, 3) := by decide +kernel
theorem dX4_canStay_30 : decode cX4_canStay 30 = .ok (.aload_n 0, 1) := by decide +kernel
theorem dX4_canStay_31 : decode cX4_canStay 31 = .ok (.getfield 76, 3) := by decide +kernel
theorem dX4_canStay_34 : decode cX4_canStay 34 = .ok (.ifCond .ne 47, 3) := by decide +kernel
theorem dX4_canStay_37 : decode cX4_canStay 37 = .ok (.iload_n 1, 1) := by decide +kernel
theorem dX4_canStay_38 : decode cX4_canStay 38 = .ok (.iload 5, 2) := by decide +kernel
theorem dX4_canStay_40 : decode cX4_canStay 40 = .ok (.invokestatic 194, 3) := by decide +kernel
theorem dX4_canStay_43 : decode cX4_canStay 43 = .ok (.ifCond .eq 38, 3) := by decide +kernel
theorem dX4_canStay_46 : decode cX4_canStay 46 = .ok (.aload_n 0, 1) := by decide +kernel
theorem dX4_canStay_47 : decode cX4_canStay 47 = .ok (.getfield 35, 3) := by decide +kernel
theorem dX4_canStay_50 : decode cX4_canStay 50 = .ok (.sipush 20000, 3) := by decide +kernel
theorem dX4_canStay_53 : decode cX4_canStay 53 = .ok (.iload_n 3, 1) := by decide +kernel
theorem dX4_canStay_54 : decode cX4_canStay 54 = .ok (.iconst 1, 1) := by decide +kernel
theorem dX4_canStay_55 : decode cX4_canStay 55 = .ok (.isub, 1) := by decide +kernel
theorem dX4_canStay_56 : decode cX4_canStay 56 = .ok (.imul, 1) := by decide +kernel
theorem dX4_canStay_57 : decode cX4_canStay 57 = .ok (.aload_n 0, 1) := by decide +kernel
theorem dX4_canStay_58 : decode cX4_canStay 58 = .ok (.getfield 66, 3) := by decide +kernel
theorem dX4_canStay_61 : decode cX4_canStay 61 = .ok (.aload_n 0, 1) := by decide +kernel
theorem dX4_canStay_62 : decode cX4_canStay 62 = .ok (.getfield 70, 3) := by decide +kernel
theorem dX4_canStay_65 : decode cX4_canStay 65 = .ok (.aload_n 0, 1) := by decide +kernel
theorem dX4_canStay_66 : decode cX4_canStay 66 = .ok (.getfield 73, 3) := by decide +kernel
theorem dX4_canStay_69 : decode cX4_canStay 69 = .ok (.invokestatic 185, 3) := by decide +kernel
theorem dX4_canStay_72 : decode cX4_canStay 72 = .ok (.iadd, 1) := by decide +kernel
theorem dX4_canStay_73 : decode cX4_canStay 73 = .ok (.baload, 1) := by decide +kernel
theorem dX4_canStay_74 : decode cX4_canStay 74 = .ok (.ifCond .eq 7, 3) := by decide +kernel
theorem dX4_canStay_77 : decode cX4_canStay 77 = .ok (.iconst 1, 1) := by decide +kernel
theorem dX4_canStay_78 : decode cX4_canStay 78 = .ok (.goto 4, 3) := by decide +kernel
theorem dX4_canStay_81 : decode cX4_canStay 81 = .ok (.iconst 0, 1) := by decide +kernel
theorem dX4_canStay_82 : decode cX4_canStay 82 = .ok (.istore 4, 2) := by decide +kernel
theorem dX4_canStay_84 : decode cX4_canStay 84 = .ok (.iinc 5 1, 3) := by decide +kernel
theorem dX4_canStay_87 : decode cX4_canStay 87 = .ok (.goto (-81), 3) := by decide +kernel
theorem dX4_canStay_90 : decode cX4_canStay 90 = .ok (.iload 4, 2) := by decide +kernel
theorem dX4_canStay_92 : decode cX4_canStay 92 = .ok (.ireturn, 1) := by decide +kernel
theorem dX4_findStays_0 : decode cX4_findStays 0 = .ok (.iconst 0, 1) := by decide +kernel
theorem dX4_findStays_1 : decode cX4_findStays 1 = .ok (.istore_n 2, 1) := by decide +kernel
theorem dX4_findStays_2 : decode cX4_findStays 2 = .ok (.iload_n 2, 1) := by decide +kernel
theorem dX4_findStays_3 : decode cX4_findStays 3 = .ok (.sipush 20000, 3) := by decide +kernel
theorem dX4_findStays_6 : decode cX4_findStays 6 = .ok (.if_icmp .ge 16, 3) := by decide +kernel
theorem dX4_findStays_9 : decode cX4_findStays 9 = .ok (.aload_n 0, 1) := by decide +kernel
theorem dX4_findStays_10 : decode cX4_findStays 10 = .ok (.getfield 35, 3) := by decide +kernel
theorem dX4_findStays_13 : decode cX4_findStays 13 = .ok (.iload_n 2, 1) := by decide +kernel
theorem dX4_findStays_14 : decode cX4_findStays 14 = .ok (.iconst 1, 1) := by decide +kernel
theorem dX4_findStays_15 : decode cX4_findStays 15 = .ok (.bastore, 1) := by decide +kernel
theorem dX4_findStays_16 : decode cX4_findStays 16 = .ok (.iinc 2 1, 3) := by decide +kernel
theorem dX4_findStays_19 : decode cX4_findStays 19 = .ok (.goto (-17), 3) := by decide +kernel
theorem dX4_findStays_22 : decode cX4_findStays 22 = .ok (.iconst 1, 1) := by decide +kernel
theorem dX4_findStays_23 : decode cX4_findStays 23 = .ok (.istore_n 2, 1) := by decide +kernel
theorem dX4_findStays_24 : decode cX4_findStays 24 = .ok (.iload_n 2, 1) := by decide +kernel
theorem dX4_findStays_25 : decode cX4_findStays 25 = .ok (.bipush 12, 2) := by decide +kernel
theorem dX4_findStays_27 : decode cX4_findStays 27 = .ok (.if_icmp .gt 43, 3) := by decide +kernel
theorem dX4_findStays_30 : decode cX4_findStays 30 = .ok (.iconst 0, 1) := by decide +kernel
theorem dX4_findStays_31 : decode cX4_findStays 31 = .ok (.istore_n 3, 1) := by decide +kernel
theorem dX4_findStays_32 : decode cX4_findStays 32 = .ok (.iload_n 3, 1) := by decide +kernel
theorem dX4_findStays_33 : decode cX4_findStays 33 = .ok (.sipush 20000, 3) := by decide +kernel
theorem dX4_findStays_36 : decode cX4_findStays 36 = .ok (.if_icmp .ge 28, 3) := by decide +kernel
theorem dX4_findStays_39 : decode cX4_findStays 39 = .ok (.aload_n 0, 1) := by decide +kernel
theorem dX4_findStays_40 : decode cX4_findStays 40 = .ok (.getfield 35, 3) := by decide +kernel
theorem dX4_findStays_43 : decode cX4_findStays 43 = .ok (.sipush 20000, 3) := by decide +kernel
theorem dX4_findStays_46 : decode cX4_findStays 46 = .ok (.iload_n 2, 1) := by decide +kernel
theorem dX4_findStays_47 : decode cX4_findStays 47 = .ok (.imul, 1) := by decide +kernel
theorem dX4_findStays_48 : decode cX4_findStays 48 = .ok (.iload_n 3, 1) := by decide +kernel
theorem dX4_findStays_49 : decode cX4_findStays 49 = .ok (.iadd, 1) := by decide +kernel
theorem dX4_findStays_50 : decode cX4_findStays 50 = .ok (.aload_n 0, 1) := by decide +kernel
theorem dX4_findStays_51 : decode cX4_findStays 51 = .ok (.iload_n 1, 1) := by decide +kernel
theorem dX4_findStays_52 : decode cX4_findStays 52 = .ok (.iload_n 3, 1) := by decide +kernel
theorem dX4_findStays_53 : decode cX4_findStays 53 = .ok (.iload_n 2, 1) := by decide +kernel
theorem dX4_findStays_54 : decode cX4_findStays 54 = .ok (.invokevirtual 197, 3) := by decide +kernel
theorem dX4_findStays_57 : decode cX4_findStays 57 = .ok (.bastore, 1) := by decide +kernel
theorem dX4_findStays_58 : decode cX4_findStays 58 = .ok (.iinc 3 1, 3) := by decide +kernel
theorem dX4_findStays_61 : decode cX4_findStays 61 = .ok (.goto (-29), 3) := by decide +kernel
theorem dX4_findStays_64 : decode cX4_findStays 64 = .ok (.iinc 2 1, 3) := by decide +kernel
theorem dX4_findStays_67 : decode cX4_findStays 67 = .ok (.goto (-43), 3) := by decide +kernel
theorem dX4_findStays_70 : decode cX4_findStays 70 = .ok (.return_, 1) := by decide +kernel
theorem dX4_longestStay_0 : decode cX4_longestStay 0 = .ok (.aload_n 0, 1) := by decide +kernel
theorem dX4_longestStay_1 : decode cX4_longestStay 1 = .ok (.getfield 7, 3) := by decide +kernel
theorem dX4_longestStay_4 : decode cX4_longestStay 4 = .ok (.iconst 1, 1) := by decide +kernel
theorem dX4_longestStay_5 : decode cX4_longestStay 5 = .ok (.iaload, 1) := by decide +kernel
theorem dX4_longestStay_6 : decode cX4_longestStay 6 = .ok (.aload_n 0, 1) := by decide +kernel
theorem dX4_longestStay_7 : decode cX4_longestStay 7 = .ok (.getfield 7, 3) := by decide +kernel
theorem dX4_longestStay_10 : decode cX4_longestStay 10 = .ok (.iconst 2, 1) := by decide +kernel
theorem dX4_longestStay_11 : decode cX4_longestStay 11 = .ok (.iaload, 1) := by decide +kernel
theorem dX4_longestStay_12 : decode cX4_longestStay 12 = .ok (.aload_n 0, 1) := by decide +kernel
theorem dX4_longestStay_13 : decode cX4_longestStay 13 = .ok (.getfield 7, 3) := by decide +kernel
theorem dX4_longestStay_16 : decode cX4_longestStay 16 = .ok (.iconst 5, 1) := by decide +kernel
theorem dX4_longestStay_17 : decode cX4_longestStay 17 = .ok (.iaload, 1) := by decide +kernel
theorem dX4_longestStay_18 : decode cX4_longestStay 18 = .ok (.invokestatic 185, 3) := by decide +kernel
theorem dX4_longestStay_21 : decode cX4_longestStay 21 = .ok (.istore_n 1, 1) := by decide +kernel
theorem dX4_longestStay_22 : decode cX4_longestStay 22 = .ok (.iconst 0, 1) := by decide +kernel
theorem dX4_longestStay_23 : decode cX4_longestStay 23 = .ok (.istore_n 2, 1) := by decide +kernel
theorem dX4_longestStay_24 : decode cX4_longestStay 24 = .ok (.iconst 1, 1) := by decide +kernel
theorem dX4_longestStay_25 : decode cX4_longestStay 25 = .ok (.istore_n 3, 1) := by decide +kernel
theorem dX4_longestStay_26 : decode cX4_longestStay 26 = .ok (.iload_n 3, 1) := by decide +kernel
theorem dX4_longestStay_27 : decode cX4_longestStay 27 = .ok (.bipush 12, 2) := by decide +kernel
theorem dX4_longestStay_29 : decode cX4_longestStay 29 = .ok (.if_icmp .gt 30, 3) := by decide +kernel
theorem dX4_longestStay_32 : decode cX4_longestStay 32 = .ok (.aload_n 0, 1) := by decide +kernel
theorem dX4_longestStay_33 : decode cX4_longestStay 33 = .ok (.getfield 35, 3) := by decide +kernel
theorem dX4_longestStay_36 : decode cX4_longestStay 36 = .ok (.sipush 20000, 3) := by decide +kernel
theorem dX4_longestStay_39 : decode cX4_longestStay 39 = .ok (.iload_n 3, 1) := by decide +kernel
theorem dX4_longestStay_40 : decode cX4_longestStay 40 = .ok (.imul, 1) := by decide +kernel
theorem dX4_longestStay_41 : decode cX4_longestStay 41 = .ok (.iload_n 1, 1) := by decide +kernel
theorem dX4_longestStay_42 : decode cX4_longestStay 42 = .ok (.iadd, 1) := by decide +kernel
theorem dX4_longestStay_43 : decode cX4_longestStay 43 = .ok (.baload, 1) := by decide +kernel
theorem dX4_longestStay_44 : decode cX4_longestStay 44 = .ok (.ifCond .eq 7, 3) := by decide +kernel
theorem dX4_longestStay_47 : decode cX4_longestStay 47 = .ok (.iload_n 3, 1) := by decide +kernel
theorem dX4_longestStay_48 : decode cX4_longestStay 48 = .ok (.goto 4, 3) := by decide +kernel
theorem dX4_longestStay_51 : decode cX4_longestStay 51 = .ok (.iload_n 2, 1) := by decide +kernel
theorem dX4_longestStay_52 : decode cX4_longestStay 52 = .ok (.istore_n 2, 1) := by decide +kernel
theorem dX4_longestStay_53 : decode cX4_longestStay 53 = .ok (.iinc 3 1, 3) := by decide +kernel
theorem dX4_longestStay_56 : decode cX4_longestStay 56 = .ok (.goto (-30), 3) := by decide +kernel
theorem dX4_longestStay_59 : decode cX4_longestStay 59 = .ok (.iload_n 2, 1) := by decide +kernel
theorem dX4_longestStay_60 : decode cX4_longestStay 60 = .ok (.ireturn, 1) := by decide +kernel
theorem dX4_walkOut_0 : decode cX4_walkOut 0 = .ok (.aload_n 0, 1) := by decide +kernel
theorem dX4_walkOut_1 : decode cX4_walkOut 1 = .ok (.invokevirtual 136, 3) := by decide +kernel
theorem dX4_walkOut_4 : decode cX4_walkOut 4 = .ok (.iconst 0, 1) := by decide +kernel
theorem dX4_walkOut_5 : decode cX4_walkOut 5 = .ok (.istore_n 3, 1) := by decide +kernel
theorem dX4_walkOut_6 : decode cX4_walkOut 6 = .ok (.iload_n 3, 1) := by decide +kernel
theorem dX4_walkOut_7 : decode cX4_walkOut 7 = .ok (.iload_n 2, 1) := by decide +kernel
theorem dX4_walkOut_8 : decode cX4_walkOut 8 = .ok (.if_icmp .ge 140, 3) := by decide +kernel
theorem dX4_walkOut_11 : decode cX4_walkOut 11 = .ok (.aload_n 0, 1) := by decide +kernel
theorem dX4_walkOut_12 : decode cX4_walkOut 12 = .ok (.getfield 66, 3) := by decide +kernel
theorem dX4_walkOut_15 : decode cX4_walkOut 15 = .ok (.istore 4, 2) := by decide +kernel
theorem dX4_walkOut_17 : decode cX4_walkOut 17 = .ok (.aload_n 0, 1) := by decide +kernel
theorem dX4_walkOut_18 : decode cX4_walkOut 18 = .ok (.getfield 70, 3) := by decide +kernel
theorem dX4_walkOut_21 : decode cX4_walkOut 21 = .ok (.istore 5, 2) := by decide +kernel
theorem dX4_walkOut_23 : decode cX4_walkOut 23 = .ok (.aload_n 0, 1) := by decide +kernel
theorem dX4_walkOut_24 : decode cX4_walkOut 24 = .ok (.getfield 73, 3) := by decide +kernel
theorem dX4_walkOut_27 : decode cX4_walkOut 27 = .ok (.istore 6, 2) := by decide +kernel
theorem dX4_walkOut_29 : decode cX4_walkOut 29 = .ok (.iconst 0, 1) := by decide +kernel
theorem dX4_walkOut_30 : decode cX4_walkOut 30 = .ok (.istore 7, 2) := by decide +kernel
theorem dX4_walkOut_32 : decode cX4_walkOut 32 = .ok (.iconst 0, 1) := by decide +kernel
theorem dX4_walkOut_33 : decode cX4_walkOut 33 = .ok (.istore 8, 2) := by decide +kernel
theorem dX4_walkOut_35 : decode cX4_walkOut 35 = .ok (.iload 8, 2) := by decide +kernel
theorem dX4_walkOut_37 : decode cX4_walkOut 37 = .ok (.bipush 6, 2) := by decide +kernel
theorem dX4_walkOut_39 : decode cX4_walkOut 39 = .ok (.if_icmp .ge 103, 3) := by decide +kernel
theorem dX4_walkOut_42 : decode cX4_walkOut 42 = .ok (.iload 7, 2) := by decide +kernel
theorem dX4_walkOut_44 : decode cX4_walkOut 44 = .ok (.ifCond .ne 98, 3) := by decide +kernel
theorem dX4_walkOut_47 : decode cX4_walkOut 47 = .ok (.aload_n 0, 1) := by decide +kernel
theorem dX4_walkOut_48 : decode cX4_walkOut 48 = .ok (.iload 4, 2) := by decide +kernel
theorem dX4_walkOut_50 : decode cX4_walkOut 50 = .ok (.putfield 66, 3) := by decide +kernel
theorem dX4_walkOut_53 : decode cX4_walkOut 53 = .ok (.aload_n 0, 1) := by decide +kernel
theorem dX4_walkOut_54 : decode cX4_walkOut 54 = .ok (.iload 5, 2) := by decide +kernel
theorem dX4_walkOut_56 : decode cX4_walkOut 56 = .ok (.putfield 70, 3) := by decide +kernel
theorem dX4_walkOut_59 : decode cX4_walkOut 59 = .ok (.aload_n 0, 1) := by decide +kernel
theorem dX4_walkOut_60 : decode cX4_walkOut 60 = .ok (.iload 6, 2) := by decide +kernel
theorem dX4_walkOut_62 : decode cX4_walkOut 62 = .ok (.putfield 73, 3) := by decide +kernel
theorem dX4_walkOut_65 : decode cX4_walkOut 65 = .ok (.aload_n 0, 1) := by decide +kernel
theorem dX4_walkOut_66 : decode cX4_walkOut 66 = .ok (.iload 8, 2) := by decide +kernel
theorem dX4_walkOut_68 : decode cX4_walkOut 68 = .ok (.iconst 1, 1) := by decide +kernel
theorem dX4_walkOut_69 : decode cX4_walkOut 69 = .ok (.invokevirtual 139, 3) := by decide +kernel
theorem dX4_walkOut_72 : decode cX4_walkOut 72 = .ok (.aload_n 0, 1) := by decide +kernel
theorem dX4_walkOut_73 : decode cX4_walkOut 73 = .ok (.getfield 39, 3) := by decide +kernel
theorem dX4_walkOut_76 : decode cX4_walkOut 76 = .ok (.iload_n 3, 1) := by decide +kernel
theorem dX4_walkOut_77 : decode cX4_walkOut 77 = .ok (.iload 8, 2) := by decide +kernel
theorem dX4_walkOut_79 : decode cX4_walkOut 79 = .ok (.iastore, 1) := by decide +kernel
theorem dX4_walkOut_80 : decode cX4_walkOut 80 = .ok (.iload_n 1, 1) := by decide +kernel
theorem dX4_walkOut_81 : decode cX4_walkOut 81 = .ok (.iload 8, 2) := by decide +kernel
theorem dX4_walkOut_83 : decode cX4_walkOut 83 = .ok (.invokestatic 194, 3) := by decide +kernel
theorem dX4_walkOut_86 : decode cX4_walkOut 86 = .ok (.ifCond .eq 47, 3) := by decide +kernel
theorem dX4_walkOut_89 : decode cX4_walkOut 89 = .ok (.aload_n 0, 1) := by decide +kernel
theorem dX4_walkOut_90 : decode cX4_walkOut 90 = .ok (.getfield 76, 3) := by decide +kernel
theorem dX4_walkOut_93 : decode cX4_walkOut 93 = .ok (.ifCond .ne 40, 3) := by decide +kernel
theorem dX4_walkOut_96 : decode cX4_walkOut 96 = .ok (.aload_n 0, 1) := by decide +kernel
theorem dX4_walkOut_97 : decode cX4_walkOut 97 = .ok (.getfield 35, 3) := by decide +kernel
theorem dX4_walkOut_100 : decode cX4_walkOut 100 = .ok (.sipush 20000, 3) := by decide +kernel
theorem dX4_walkOut_103 : decode cX4_walkOut 103 = .ok (.iload_n 2, 1) := by decide +kernel
theorem dX4_walkOut_104 : decode cX4_walkOut 104 = .ok (.iconst 1, 1) := by decide +kernel
theorem dX4_walkOut_105 : decode cX4_walkOut 105 = .ok (.isub, 1) := by decide +kernel
theorem dX4_walkOut_106 : decode cX4_walkOut 106 = .ok (.iload_n 3, 1) := by decide +kernel
theorem dX4_walkOut_107 : decode cX4_walkOut 107 = .ok (.isub, 1) := by decide +kernel
theorem dX4_walkOut_108 : decode cX4_walkOut 108 = .ok (.imul, 1) := by decide +kernel
theorem dX4_walkOut_109 : decode cX4_walkOut 109 = .ok (.aload_n 0, 1) := by decide +kernel
theorem dX4_walkOut_110 : decode cX4_walkOut 110 = .ok (.getfield 66, 3) := by decide +kernel
theorem dX4_walkOut_113 : decode cX4_walkOut 113 = .ok (.aload_n 0, 1) := by decide +kernel
theorem dX4_walkOut_114 : decode cX4_walkOut 114 = .ok (.getfield 70, 3) := by decide +kernel
theorem dX4_walkOut_117 : decode cX4_walkOut 117 = .ok (.aload_n 0, 1) := by decide +kernel
theorem dX4_walkOut_118 : decode cX4_walkOut 118 = .ok (.getfield 73, 3) := by decide +kernel
theorem dX4_walkOut_121 : decode cX4_walkOut 121 = .ok (.invokestatic 185, 3) := by decide +kernel
theorem dX4_walkOut_124 : decode cX4_walkOut 124 = .ok (.iadd, 1) := by decide +kernel
theorem dX4_walkOut_125 : decode cX4_walkOut 125 = .ok (.baload, 1) := by decide +kernel
theorem dX4_walkOut_126 : decode cX4_walkOut 126 = .ok (.ifCond .eq 7, 3) := by decide +kernel
theorem dX4_walkOut_129 : decode cX4_walkOut 129 = .ok (.iconst 1, 1) := by decide +kernel
theorem dX4_walkOut_130 : decode cX4_walkOut 130 = .ok (.goto 4, 3) := by decide +kernel
theorem dX4_walkOut_133 : decode cX4_walkOut 133 = .ok (.iconst 0, 1) := by decide +kernel
theorem dX4_walkOut_134 : decode cX4_walkOut 134 = .ok (.istore 7, 2) := by decide +kernel
theorem dX4_walkOut_136 : decode cX4_walkOut 136 = .ok (.iinc 8 1, 3) := by decide +kernel
theorem dX4_walkOut_139 : decode cX4_walkOut 139 = .ok (.goto (-104), 3) := by decide +kernel
theorem dX4_walkOut_142 : decode cX4_walkOut 142 = .ok (.iinc 3 1, 3) := by decide +kernel
theorem dX4_walkOut_145 : decode cX4_walkOut 145 = .ok (.goto (-139), 3) := by decide +kernel
theorem dX4_walkOut_148 : decode cX4_walkOut 148 = .ok (.return_, 1) := by decide +kernel
theorem dX4_delay_0 : decode cX4_delay 0 = .ok (.iload_n 1, 1) := by decide +kernel
theorem dX4_delay_1 : decode cX4_delay 1 = .ok (.i2l, 1) := by decide +kernel
theorem dX4_delay_2 : decode cX4_delay 2 = .ok (.lconst 0, 1) := by decide +kernel
theorem dX4_delay_3 : decode cX4_delay 3 = .ok (.lconst 1, 1) := by decide +kernel
theorem dX4_delay_4 : decode cX4_delay 4 = .ok (.invokestatic 58, 3) := by decide +kernel
theorem dX4_delay_7 : decode cX4_delay 7 = .ok (.ifCond .eq 8, 3) := by decide +kernel
theorem dX4_delay_10 : decode cX4_delay 10 = .ok (.iload_n 2, 1) := by decide +kernel
theorem dX4_delay_11 : decode cX4_delay 11 = .ok (.iconst (-1), 1) := by decide +kernel
theorem dX4_delay_12 : decode cX4_delay 12 = .ok (.if_icmp .ge 10, 3) := by decide +kernel
theorem dX4_delay_15 : decode cX4_delay 15 = .ok (.aload_n 0, 1) := by decide +kernel
theorem dX4_delay_16 : decode cX4_delay 16 = .ok (.bipush (-10), 2) := by decide +kernel
theorem dX4_delay_18 : decode cX4_delay 18 = .ok (.invokevirtual 62, 3) := by decide +kernel
theorem dX4_delay_21 : decode cX4_delay 21 = .ok (.ireturn, 1) := by decide +kernel
theorem dX4_delay_22 : decode cX4_delay 22 = .ok (.iconst 0, 1) := by decide +kernel
theorem dX4_delay_23 : decode cX4_delay 23 = .ok (.istore_n 3, 1) := by decide +kernel
theorem dX4_delay_24 : decode cX4_delay 24 = .ok (.aload_n 0, 1) := by decide +kernel
theorem dX4_delay_25 : decode cX4_delay 25 = .ok (.getfield 7, 3) := by decide +kernel
theorem dX4_delay_28 : decode cX4_delay 28 = .ok (.bipush 6, 2) := by decide +kernel
theorem dX4_delay_30 : decode cX4_delay 30 = .ok (.iaload, 1) := by decide +kernel
theorem dX4_delay_31 : decode cX4_delay 31 = .ok (.ifCond .ne 13, 3) := by decide +kernel
theorem dX4_delay_34 : decode cX4_delay 34 = .ok (.aload_n 0, 1) := by decide +kernel
theorem dX4_delay_35 : decode cX4_delay 35 = .ok (.iload_n 1, 1) := by decide +kernel
theorem dX4_delay_36 : decode cX4_delay 36 = .ok (.invokevirtual 201, 3) := by decide +kernel
theorem dX4_delay_39 : decode cX4_delay 39 = .ok (.aload_n 0, 1) := by decide +kernel
theorem dX4_delay_40 : decode cX4_delay 40 = .ok (.invokevirtual 204, 3) := by decide +kernel
theorem dX4_delay_43 : decode cX4_delay 43 = .ok (.istore_n 3, 1) := by decide +kernel
theorem dX4_delay_44 : decode cX4_delay 44 = .ok (.iload_n 2, 1) := by decide +kernel
theorem dX4_delay_45 : decode cX4_delay 45 = .ok (.iconst (-1), 1) := by decide +kernel
theorem dX4_delay_46 : decode cX4_delay 46 = .ok (.if_icmp .ne 5, 3) := by decide +kernel
theorem dX4_delay_49 : decode cX4_delay 49 = .ok (.iload_n 3, 1) := by decide +kernel
theorem dX4_delay_50 : decode cX4_delay 50 = .ok (.ireturn, 1) := by decide +kernel
theorem dX4_delay_51 : decode cX4_delay 51 = .ok (.iload_n 2, 1) := by decide +kernel
theorem dX4_delay_52 : decode cX4_delay 52 = .ok (.iload_n 3, 1) := by decide +kernel
theorem dX4_delay_53 : decode cX4_delay 53 = .ok (.if_icmp .lt 6, 3) := by decide +kernel
theorem dX4_delay_56 : decode cX4_delay 56 = .ok (.bipush (-5), 2) := by decide +kernel
theorem dX4_delay_58 : decode cX4_delay 58 = .ok (.ireturn, 1) := by decide +kernel
theorem dX4_delay_59 : decode cX4_delay 59 = .ok (.aload_n 0, 1) := by decide +kernel
theorem dX4_delay_60 : decode cX4_delay 60 = .ok (.iload_n 1, 1) := by decide +kernel
theorem dX4_delay_61 : decode cX4_delay 61 = .ok (.iload_n 3, 1) := by decide +kernel
theorem dX4_delay_62 : decode cX4_delay 62 = .ok (.invokevirtual 207, 3) := by decide +kernel
theorem dX4_delay_65 : decode cX4_delay 65 = .ok (.aload_n 0, 1) := by decide +kernel
theorem dX4_delay_66 : decode cX4_delay 66 = .ok (.getfield 39, 3) := by decide +kernel
theorem dX4_delay_69 : decode cX4_delay 69 = .ok (.iload_n 2, 1) := by decide +kernel
theorem dX4_delay_70 : decode cX4_delay 70 = .ok (.iaload, 1) := by decide +kernel
theorem dX4_delay_71 : decode cX4_delay 71 = .ok (.ireturn, 1) := by decide +kernel
theorem dX4_strikes_0 : decode cX4_strikes 0 = .ok (.iload_n 1, 1) := by decide +kernel
theorem dX4_strikes_1 : decode cX4_strikes 1 = .ok (.i2l, 1) := by decide +kernel
theorem dX4_strikes_2 : decode cX4_strikes 2 = .ok (.lconst 0, 1) := by decide +kernel
theorem dX4_strikes_3 : decode cX4_strikes 3 = .ok (.ldc2_w 89, 3) := by decide +kernel
theorem dX4_strikes_6 : decode cX4_strikes 6 = .ok (.invokestatic 58, 3) := by decide +kernel
theorem dX4_strikes_9 : decode cX4_strikes 9 = .ok (.ifCond .ne 10, 3) := by decide +kernel
theorem dX4_strikes_12 : decode cX4_strikes 12 = .ok (.aload_n 0, 1) := by decide +kernel
theorem dX4_strikes_13 : decode cX4_strikes 13 = .ok (.bipush (-2), 2) := by decide +kernel
theorem dX4_strikes_15 : decode cX4_strikes 15 = .ok (.invokevirtual 91, 3) := by decide +kernel
theorem dX4_strikes_18 : decode cX4_strikes 18 = .ok (.ireturn, 1) := by decide +kernel
theorem dX4_strikes_19 : decode cX4_strikes 19 = .ok (.aload_n 0, 1) := by decide +kernel
theorem dX4_strikes_20 : decode cX4_strikes 20 = .ok (.invokevirtual 136, 3) := by decide +kernel
theorem dX4_strikes_23 : decode cX4_strikes 23 = .ok (.iconst 1, 1) := by decide +kernel
theorem dX4_strikes_24 : decode cX4_strikes 24 = .ok (.istore_n 2, 1) := by decide +kernel
theorem dX4_strikes_25 : decode cX4_strikes 25 = .ok (.iload_n 2, 1) := by decide +kernel
theorem dX4_strikes_26 : decode cX4_strikes 26 = .ok (.bipush 61, 2) := by decide +kernel
theorem dX4_strikes_28 : decode cX4_strikes 28 = .ok (.if_icmp .ge 32, 3) := by decide +kernel
theorem dX4_strikes_31 : decode cX4_strikes 31 = .ok (.aload_n 0, 1) := by decide +kernel
theorem dX4_strikes_32 : decode cX4_strikes 32 = .ok (.getfield 76, 3) := by decide +kernel
theorem dX4_strikes_35 : decode cX4_strikes 35 = .ok (.ifCond .ne 25, 3) := by decide +kernel
theorem dX4_strikes_38 : decode cX4_strikes 38 = .ok (.aload_n 0, 1) := by decide +kernel
theorem dX4_strikes_39 : decode cX4_strikes 39 = .ok (.iload_n 1, 1) := by decide +kernel
theorem dX4_strikes_40 : decode cX4_strikes 40 = .ok (.iconst 1, 1) := by decide +kernel
theorem dX4_strikes_41 : decode cX4_strikes 41 = .ok (.invokevirtual 139, 3) := by decide +kernel
theorem dX4_strikes_44 : decode cX4_strikes 44 = .ok (.aload_n 0, 1) := by decide +kernel
theorem dX4_strikes_45 : decode cX4_strikes 45 = .ok (.getfield 76, 3) := by decide +kernel
theorem dX4_strikes_48 : decode cX4_strikes 48 = .ok (.iconst 2, 1) := by decide +kernel
theorem dX4_strikes_49 : decode cX4_strikes 49 = .ok (.if_icmp .ne 5, 3) := by decide +kernel
theorem dX4_strikes_52 : decode cX4_strikes 52 = .ok (.iload_n 2, 1) := by decide +kernel
theorem dX4_strikes_53 : decode cX4_strikes 53 = .ok (.ireturn, 1) := by decide +kernel
theorem dX4_strikes_54 : decode cX4_strikes 54 = .ok (.iinc 2 1, 3) := by decide +kernel
theorem dX4_strikes_57 : decode cX4_strikes 57 = .ok (.goto (-32), 3) := by decide +kernel
theorem dX4_strikes_60 : decode cX4_strikes 60 = .ok (.iconst (-1), 1) := by decide +kernel
theorem dX4_strikes_61 : decode cX4_strikes 61 = .ok (.ireturn, 1) := by decide +kernel
theorem dX4_since_0 : decode cX4_since 0 = .ok (.iload_n 1, 1) := by decide +kernel
theorem dX4_since_1 : decode cX4_since 1 = .ok (.i2l, 1) := by decide +kernel
theorem dX4_since_2 : decode cX4_since 2 = .ok (.lconst 0, 1) := by decide +kernel
theorem dX4_since_3 : decode cX4_since 3 = .ok (.ldc2_w 98, 3) := by decide +kernel
theorem dX4_since_6 : decode cX4_since 6 = .ok (.invokestatic 58, 3) := by decide +kernel
theorem dX4_since_9 : decode cX4_since 9 = .ok (.ifCond .ne 10, 3) := by decide +kernel
theorem dX4_since_12 : decode cX4_since 12 = .ok (.aload_n 0, 1) := by decide +kernel
theorem dX4_since_13 : decode cX4_since 13 = .ok (.bipush (-2), 2) := by decide +kernel
theorem dX4_since_15 : decode cX4_since 15 = .ok (.invokevirtual 91, 3) := by decide +kernel
theorem dX4_since_18 : decode cX4_since 18 = .ok (.ireturn, 1) := by decide +kernel
theorem dX4_since_19 : decode cX4_since 19 = .ok (.iconst 0, 1) := by decide +kernel
theorem dX4_since_20 : decode cX4_since 20 = .ok (.istore_n 2, 1) := by decide +kernel
theorem dX4_since_21 : decode cX4_since 21 = .ok (.iconst 0, 1) := by decide +kernel
theorem dX4_since_22 : decode cX4_since 22 = .ok (.istore_n 3, 1) := by decide +kernel
theorem dX4_since_23 : decode cX4_since 23 = .ok (.iload_n 3, 1) := by decide +kernel
theorem dX4_since_24 : decode cX4_since 24 = .ok (.bipush 8, 2) := by decide +kernel
theorem dX4_since_26 : decode cX4_since 26 = .ok (.if_icmp .ge 32, 3) := by decide +kernel
theorem dX4_since_29 : decode cX4_since 29 = .ok (.iload_n 2, 1) := by decide +kernel
theorem dX4_since_30 : decode cX4_since 30 = .ok (.aload_n 0, 1) := by decide +kernel
theorem dX4_since_31 : decode cX4_since 31 = .ok (.getfield 7, 3) := by decide +kernel
theorem dX4_since_34 : decode cX4_since 34 = .ok (.bipush 7, 2) := by decide +kernel
theorem dX4_since_36 : decode cX4_since 36 = .ok (.iload_n 3, 1) := by decide +kernel
theorem dX4_since_37 : decode cX4_since 37 = .ok (.iadd, 1) := by decide +kernel
theorem dX4_since_38 : decode cX4_since 38 = .ok (.iaload, 1) := by decide +kernel
theorem dX4_since_39 : decode cX4_since 39 = .ok (.iload_n 1, 1) := by decide +kernel
theorem dX4_since_40 : decode cX4_since 40 = .ok (.if_icmp .ne 9, 3) := by decide +kernel
theorem dX4_since_43 : decode cX4_since 43 = .ok (.iconst 1, 1) := by decide +kernel
theorem dX4_since_44 : decode cX4_since 44 = .ok (.iload_n 3, 1) := by decide +kernel
theorem dX4_since_45 : decode cX4_since 45 = .ok (.ishl, 1) := by decide +kernel
theorem dX4_since_46 : decode cX4_since 46 = .ok (.goto 4, 3) := by decide +kernel
theorem dX4_since_49 : decode cX4_since 49 = .ok (.iconst 0, 1) := by decide +kernel
theorem dX4_since_50 : decode cX4_since 50 = .ok (.ior, 1) := by decide +kernel
theorem dX4_since_51 : decode cX4_since 51 = .ok (.istore_n 2, 1) := by decide +kernel
theorem dX4_since_52 : decode cX4_since 52 = .ok (.iinc 3 1, 3) := by decide +kernel
theorem dX4_since_55 : decode cX4_since 55 = .ok (.goto (-32), 3) := by decide +kernel
theorem dX4_since_58 : decode cX4_since 58 = .ok (.iload_n 2, 1) := by decide +kernel
theorem dX4_since_59 : decode cX4_since 59 = .ok (.ireturn, 1) := by decide +kernel
theorem dX4_cast_0 : decode cX4_cast 0 = .ok (.iload_n 1, 1) := by decide +kernel
theorem dX4_cast_1 : decode cX4_cast 1 = .ok (.i2l, 1) := by decide +kernel
theorem dX4_cast_2 : decode cX4_cast 2 = .ok (.lconst 0, 1) := by decide +kernel
theorem dX4_cast_3 : decode cX4_cast 3 = .ok (.ldc2_w 98, 3) := by decide +kernel
theorem dX4_cast_6 : decode cX4_cast 6 = .ok (.invokestatic 58, 3) := by decide +kernel
theorem dX4_cast_9 : decode cX4_cast 9 = .ok (.ifCond .ne 10, 3) := by decide +kernel
