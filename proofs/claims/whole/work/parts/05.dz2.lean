theorem dX4_cast_12 : decode cX4_cast 12 = .ok (.aload_n 0, 1) := by decide +kernel
theorem dX4_cast_13 : decode cX4_cast 13 = .ok (.bipush (-2), 2) := by decide +kernel
theorem dX4_cast_15 : decode cX4_cast 15 = .ok (.invokevirtual 91, 3) := by decide +kernel
theorem dX4_cast_18 : decode cX4_cast 18 = .ok (.ireturn, 1) := by decide +kernel
theorem dX4_cast_19 : decode cX4_cast 19 = .ok (.bipush 8, 2) := by decide +kernel
theorem dX4_cast_21 : decode cX4_cast 21 = .ok (.istore_n 2, 1) := by decide +kernel
theorem dX4_cast_22 : decode cX4_cast 22 = .ok (.iload_n 2, 1) := by decide +kernel
theorem dX4_cast_23 : decode cX4_cast 23 = .ok (.ifCond .le 24, 3) := by decide +kernel
theorem dX4_cast_26 : decode cX4_cast 26 = .ok (.aload_n 0, 1) := by decide +kernel
theorem dX4_cast_27 : decode cX4_cast 27 = .ok (.getfield 7, 3) := by decide +kernel
theorem dX4_cast_30 : decode cX4_cast 30 = .ok (.bipush 7, 2) := by decide +kernel
theorem dX4_cast_32 : decode cX4_cast 32 = .ok (.iload_n 2, 1) := by decide +kernel
theorem dX4_cast_33 : decode cX4_cast 33 = .ok (.iadd, 1) := by decide +kernel
theorem dX4_cast_34 : decode cX4_cast 34 = .ok (.iconst 1, 1) := by decide +kernel
theorem dX4_cast_35 : decode cX4_cast 35 = .ok (.isub, 1) := by decide +kernel
theorem dX4_cast_36 : decode cX4_cast 36 = .ok (.iaload, 1) := by decide +kernel
theorem dX4_cast_37 : decode cX4_cast 37 = .ok (.iload_n 1, 1) := by decide +kernel
theorem dX4_cast_38 : decode cX4_cast 38 = .ok (.if_icmp .lt 9, 3) := by decide +kernel
theorem dX4_cast_41 : decode cX4_cast 41 = .ok (.iinc 2 (-1), 3) := by decide +kernel
theorem dX4_cast_44 : decode cX4_cast 44 = .ok (.goto (-22), 3) := by decide +kernel
theorem dX4_cast_47 : decode cX4_cast 47 = .ok (.iload_n 2, 1) := by decide +kernel
theorem dX4_cast_48 : decode cX4_cast 48 = .ok (.bipush 8, 2) := by decide +kernel
theorem dX4_cast_50 : decode cX4_cast 50 = .ok (.if_icmp .ge 7, 3) := by decide +kernel
theorem dX4_cast_53 : decode cX4_cast 53 = .ok (.iload_n 2, 1) := by decide +kernel
theorem dX4_cast_54 : decode cX4_cast 54 = .ok (.goto 4, 3) := by decide +kernel
theorem dX4_cast_57 : decode cX4_cast 57 = .ok (.iconst (-1), 1) := by decide +kernel
theorem dX4_cast_58 : decode cX4_cast 58 = .ok (.ireturn, 1) := by decide +kernel
theorem dX4_common_0 : decode cX4_common 0 = .ok (.lload_n 0, 1) := by decide +kernel
theorem dX4_common_1 : decode cX4_common 1 = .ok (.lconst 0, 1) := by decide +kernel
theorem dX4_common_2 : decode cX4_common 2 = .ok (.lcmp, 1) := by decide +kernel
theorem dX4_common_3 : decode cX4_common 3 = .ok (.ifCond .ge 8, 3) := by decide +kernel
theorem dX4_common_6 : decode cX4_common 6 = .ok (.lload_n 0, 1) := by decide +kernel
theorem dX4_common_7 : decode cX4_common 7 = .ok (.lneg, 1) := by decide +kernel
theorem dX4_common_8 : decode cX4_common 8 = .ok (.goto 4, 3) := by decide +kernel
theorem dX4_common_11 : decode cX4_common 11 = .ok (.lload_n 0, 1) := by decide +kernel
theorem dX4_common_12 : decode cX4_common 12 = .ok (.lstore 4, 2) := by decide +kernel
theorem dX4_common_14 : decode cX4_common 14 = .ok (.lload_n 2, 1) := by decide +kernel
theorem dX4_common_15 : decode cX4_common 15 = .ok (.lstore 6, 2) := by decide +kernel
theorem dX4_common_17 : decode cX4_common 17 = .ok (.lload 6, 2) := by decide +kernel
theorem dX4_common_19 : decode cX4_common 19 = .ok (.lconst 0, 1) := by decide +kernel
theorem dX4_common_20 : decode cX4_common 20 = .ok (.lcmp, 1) := by decide +kernel
theorem dX4_common_21 : decode cX4_common 21 = .ok (.ifCond .le 21, 3) := by decide +kernel
theorem dX4_common_24 : decode cX4_common 24 = .ok (.lload 4, 2) := by decide +kernel
theorem dX4_common_26 : decode cX4_common 26 = .ok (.lload 6, 2) := by decide +kernel
theorem dX4_common_28 : decode cX4_common 28 = .ok (.lrem, 1) := by decide +kernel
theorem dX4_common_29 : decode cX4_common 29 = .ok (.lstore 8, 2) := by decide +kernel
theorem dX4_common_31 : decode cX4_common 31 = .ok (.lload 6, 2) := by decide +kernel
theorem dX4_common_33 : decode cX4_common 33 = .ok (.lstore 4, 2) := by decide +kernel
theorem dX4_common_35 : decode cX4_common 35 = .ok (.lload 8, 2) := by decide +kernel
theorem dX4_common_37 : decode cX4_common 37 = .ok (.lstore 6, 2) := by decide +kernel
theorem dX4_common_39 : decode cX4_common 39 = .ok (.goto (-22), 3) := by decide +kernel
theorem dX4_common_42 : decode cX4_common 42 = .ok (.lload 4, 2) := by decide +kernel
theorem dX4_common_44 : decode cX4_common 44 = .ok (.lreturn, 1) := by decide +kernel
theorem dX4_fraction_0 : decode cX4_fraction 0 = .ok (.lload_n 1, 1) := by decide +kernel
theorem dX4_fraction_1 : decode cX4_fraction 1 = .ok (.lload_n 3, 1) := by decide +kernel
theorem dX4_fraction_2 : decode cX4_fraction 2 = .ok (.invokestatic 211, 3) := by decide +kernel
theorem dX4_fraction_5 : decode cX4_fraction 5 = .ok (.lstore 5, 2) := by decide +kernel
theorem dX4_fraction_7 : decode cX4_fraction 7 = .ok (.aload_n 0, 1) := by decide +kernel
theorem dX4_fraction_8 : decode cX4_fraction 8 = .ok (.lload_n 1, 1) := by decide +kernel
theorem dX4_fraction_9 : decode cX4_fraction 9 = .ok (.lload 5, 2) := by decide +kernel
theorem dX4_fraction_11 : decode cX4_fraction 11 = .ok (.ldiv, 1) := by decide +kernel
theorem dX4_fraction_12 : decode cX4_fraction 12 = .ok (.putfield 215, 3) := by decide +kernel
theorem dX4_fraction_15 : decode cX4_fraction 15 = .ok (.aload_n 0, 1) := by decide +kernel
theorem dX4_fraction_16 : decode cX4_fraction 16 = .ok (.lload_n 3, 1) := by decide +kernel
theorem dX4_fraction_17 : decode cX4_fraction 17 = .ok (.lload 5, 2) := by decide +kernel
theorem dX4_fraction_19 : decode cX4_fraction 19 = .ok (.ldiv, 1) := by decide +kernel
theorem dX4_fraction_20 : decode cX4_fraction 20 = .ok (.putfield 42, 3) := by decide +kernel
theorem dX4_fraction_23 : decode cX4_fraction 23 = .ok (.return_, 1) := by decide +kernel
theorem dX4_reward_0 : decode cX4_reward 0 = .ok (.iload_n 1, 1) := by decide +kernel
theorem dX4_reward_1 : decode cX4_reward 1 = .ok (.i2l, 1) := by decide +kernel
theorem dX4_reward_2 : decode cX4_reward 2 = .ok (.lconst 0, 1) := by decide +kernel
theorem dX4_reward_3 : decode cX4_reward 3 = .ok (.ldc2_w 96, 3) := by decide +kernel
theorem dX4_reward_6 : decode cX4_reward 6 = .ok (.invokestatic 58, 3) := by decide +kernel
theorem dX4_reward_9 : decode cX4_reward 9 = .ok (.ifCond .ne 10, 3) := by decide +kernel
theorem dX4_reward_12 : decode cX4_reward 12 = .ok (.aload_n 0, 1) := by decide +kernel
theorem dX4_reward_13 : decode cX4_reward 13 = .ok (.bipush (-2), 2) := by decide +kernel
theorem dX4_reward_15 : decode cX4_reward 15 = .ok (.invokevirtual 91, 3) := by decide +kernel
theorem dX4_reward_18 : decode cX4_reward 18 = .ok (.ireturn, 1) := by decide +kernel
theorem dX4_reward_19 : decode cX4_reward 19 = .ok (.iconst 0, 1) := by decide +kernel
theorem dX4_reward_20 : decode cX4_reward 20 = .ok (.istore_n 2, 1) := by decide +kernel
theorem dX4_reward_21 : decode cX4_reward 21 = .ok (.iload_n 1, 1) := by decide +kernel
theorem dX4_reward_22 : decode cX4_reward 22 = .ok (.istore_n 3, 1) := by decide +kernel
theorem dX4_reward_23 : decode cX4_reward 23 = .ok (.iload_n 3, 1) := by decide +kernel
theorem dX4_reward_24 : decode cX4_reward 24 = .ok (.bipush 8, 2) := by decide +kernel
theorem dX4_reward_26 : decode cX4_reward 26 = .ok (.if_icmp .ge 39, 3) := by decide +kernel
theorem dX4_reward_29 : decode cX4_reward 29 = .ok (.iload_n 2, 1) := by decide +kernel
theorem dX4_reward_30 : decode cX4_reward 30 = .ok (.aload_n 0, 1) := by decide +kernel
theorem dX4_reward_31 : decode cX4_reward 31 = .ok (.getfield 7, 3) := by decide +kernel
theorem dX4_reward_34 : decode cX4_reward 34 = .ok (.bipush 7, 2) := by decide +kernel
theorem dX4_reward_36 : decode cX4_reward 36 = .ok (.iload_n 3, 1) := by decide +kernel
theorem dX4_reward_37 : decode cX4_reward 37 = .ok (.iadd, 1) := by decide +kernel
theorem dX4_reward_38 : decode cX4_reward 38 = .ok (.iaload, 1) := by decide +kernel
theorem dX4_reward_39 : decode cX4_reward 39 = .ok (.iconst 4, 1) := by decide +kernel
theorem dX4_reward_40 : decode cX4_reward 40 = .ok (.if_icmp .ne 8, 3) := by decide +kernel
theorem dX4_reward_43 : decode cX4_reward 43 = .ok (.bipush (-4), 2) := by decide +kernel
theorem dX4_reward_45 : decode cX4_reward 45 = .ok (.goto 12, 3) := by decide +kernel
theorem dX4_reward_48 : decode cX4_reward 48 = .ok (.aload_n 0, 1) := by decide +kernel
theorem dX4_reward_49 : decode cX4_reward 49 = .ok (.getfield 7, 3) := by decide +kernel
theorem dX4_reward_52 : decode cX4_reward 52 = .ok (.bipush 7, 2) := by decide +kernel
theorem dX4_reward_54 : decode cX4_reward 54 = .ok (.iload_n 3, 1) := by decide +kernel
theorem dX4_reward_55 : decode cX4_reward 55 = .ok (.iadd, 1) := by decide +kernel
theorem dX4_reward_56 : decode cX4_reward 56 = .ok (.iaload, 1) := by decide +kernel
theorem dX4_reward_57 : decode cX4_reward 57 = .ok (.iadd, 1) := by decide +kernel
theorem dX4_reward_58 : decode cX4_reward 58 = .ok (.istore_n 2, 1) := by decide +kernel
theorem dX4_reward_59 : decode cX4_reward 59 = .ok (.iinc 3 1, 3) := by decide +kernel
theorem dX4_reward_62 : decode cX4_reward 62 = .ok (.goto (-39), 3) := by decide +kernel
theorem dX4_reward_65 : decode cX4_reward 65 = .ok (.aload_n 0, 1) := by decide +kernel
theorem dX4_reward_66 : decode cX4_reward 66 = .ok (.iload_n 2, 1) := by decide +kernel
theorem dX4_reward_67 : decode cX4_reward 67 = .ok (.i2l, 1) := by decide +kernel
theorem dX4_reward_68 : decode cX4_reward 68 = .ok (.bipush 8, 2) := by decide +kernel
theorem dX4_reward_70 : decode cX4_reward 70 = .ok (.iload_n 1, 1) := by decide +kernel
theorem dX4_reward_71 : decode cX4_reward 71 = .ok (.isub, 1) := by decide +kernel
theorem dX4_reward_72 : decode cX4_reward 72 = .ok (.i2l, 1) := by decide +kernel
theorem dX4_reward_73 : decode cX4_reward 73 = .ok (.invokevirtual 218, 3) := by decide +kernel
theorem dX4_reward_76 : decode cX4_reward 76 = .ok (.iconst 1, 1) := by decide +kernel
theorem dX4_reward_77 : decode cX4_reward 77 = .ok (.ireturn, 1) := by decide +kernel
theorem dX4_note_0 : decode cX4_note 0 = .ok (.iload_n 1, 1) := by decide +kernel
theorem dX4_note_1 : decode cX4_note 1 = .ok (.i2l, 1) := by decide +kernel
theorem dX4_note_2 : decode cX4_note 2 = .ok (.lconst 0, 1) := by decide +kernel
theorem dX4_note_3 : decode cX4_note 3 = .ok (.ldc2_w 89, 3) := by decide +kernel
theorem dX4_note_6 : decode cX4_note 6 = .ok (.invokestatic 58, 3) := by decide +kernel
theorem dX4_note_9 : decode cX4_note 9 = .ok (.ifCond .eq 44, 3) := by decide +kernel
theorem dX4_note_12 : decode cX4_note 12 = .ok (.iload_n 2, 1) := by decide +kernel
theorem dX4_note_13 : decode cX4_note 13 = .ok (.i2l, 1) := by decide +kernel
theorem dX4_note_14 : decode cX4_note 14 = .ok (.lconst 0, 1) := by decide +kernel
theorem dX4_note_15 : decode cX4_note 15 = .ok (.ldc2_w 94, 3) := by decide +kernel
theorem dX4_note_18 : decode cX4_note 18 = .ok (.invokestatic 58, 3) := by decide +kernel
theorem dX4_note_21 : decode cX4_note 21 = .ok (.ifCond .eq 32, 3) := by decide +kernel
theorem dX4_note_24 : decode cX4_note 24 = .ok (.iload_n 3, 1) := by decide +kernel
theorem dX4_note_25 : decode cX4_note 25 = .ok (.i2l, 1) := by decide +kernel
theorem dX4_note_26 : decode cX4_note 26 = .ok (.ldc2_w 222, 3) := by decide +kernel
theorem dX4_note_29 : decode cX4_note 29 = .ok (.ldc2_w 224, 3) := by decide +kernel
theorem dX4_note_32 : decode cX4_note 32 = .ok (.invokestatic 58, 3) := by decide +kernel
theorem dX4_note_35 : decode cX4_note 35 = .ok (.ifCond .eq 18, 3) := by decide +kernel
theorem dX4_note_38 : decode cX4_note 38 = .ok (.iload 4, 2) := by decide +kernel
theorem dX4_note_40 : decode cX4_note 40 = .ok (.i2l, 1) := by decide +kernel
theorem dX4_note_41 : decode cX4_note 41 = .ok (.ldc2_w 222, 3) := by decide +kernel
theorem dX4_note_44 : decode cX4_note 44 = .ok (.ldc2_w 224, 3) := by decide +kernel
theorem dX4_note_47 : decode cX4_note 47 = .ok (.invokestatic 58, 3) := by decide +kernel
theorem dX4_note_50 : decode cX4_note 50 = .ok (.ifCond .ne 10, 3) := by decide +kernel
theorem dX4_note_53 : decode cX4_note 53 = .ok (.aload_n 0, 1) := by decide +kernel
theorem dX4_note_54 : decode cX4_note 54 = .ok (.bipush (-2), 2) := by decide +kernel
theorem dX4_note_56 : decode cX4_note 56 = .ok (.invokevirtual 91, 3) := by decide +kernel
theorem dX4_note_59 : decode cX4_note 59 = .ok (.ireturn, 1) := by decide +kernel
theorem dX4_note_60 : decode cX4_note 60 = .ok (.aload_n 0, 1) := by decide +kernel
theorem dX4_note_61 : decode cX4_note 61 = .ok (.getfield 7, 3) := by decide +kernel
theorem dX4_note_64 : decode cX4_note 64 = .ok (.bipush 15, 2) := by decide +kernel
theorem dX4_note_66 : decode cX4_note 66 = .ok (.iaload, 1) := by decide +kernel
theorem dX4_note_67 : decode cX4_note 67 = .ok (.bipush 6, 2) := by decide +kernel
theorem dX4_note_69 : decode cX4_note 69 = .ok (.if_icmp .ne 10, 3) := by decide +kernel
theorem dX4_note_72 : decode cX4_note 72 = .ok (.aload_n 0, 1) := by decide +kernel
theorem dX4_note_73 : decode cX4_note 73 = .ok (.bipush (-4), 2) := by decide +kernel
theorem dX4_note_75 : decode cX4_note 75 = .ok (.invokevirtual 91, 3) := by decide +kernel
theorem dX4_note_78 : decode cX4_note 78 = .ok (.ireturn, 1) := by decide +kernel
theorem dX4_note_79 : decode cX4_note 79 = .ok (.bipush 16, 2) := by decide +kernel
theorem dX4_note_81 : decode cX4_note 81 = .ok (.iconst 4, 1) := by decide +kernel
theorem dX4_note_82 : decode cX4_note 82 = .ok (.aload_n 0, 1) := by decide +kernel
theorem dX4_note_83 : decode cX4_note 83 = .ok (.getfield 7, 3) := by decide +kernel
theorem dX4_note_86 : decode cX4_note 86 = .ok (.bipush 15, 2) := by decide +kernel
theorem dX4_note_88 : decode cX4_note 88 = .ok (.iaload, 1) := by decide +kernel
theorem dX4_note_89 : decode cX4_note 89 = .ok (.imul, 1) := by decide +kernel
theorem dX4_note_90 : decode cX4_note 90 = .ok (.iadd, 1) := by decide +kernel
theorem dX4_note_91 : decode cX4_note 91 = .ok (.istore 5, 2) := by decide +kernel
theorem dX4_note_93 : decode cX4_note 93 = .ok (.aload_n 0, 1) := by decide +kernel
theorem dX4_note_94 : decode cX4_note 94 = .ok (.getfield 7, 3) := by decide +kernel
theorem dX4_note_97 : decode cX4_note 97 = .ok (.iload 5, 2) := by decide +kernel
theorem dX4_note_99 : decode cX4_note 99 = .ok (.iload_n 1, 1) := by decide +kernel
theorem dX4_note_100 : decode cX4_note 100 = .ok (.iastore, 1) := by decide +kernel
theorem dX4_note_101 : decode cX4_note 101 = .ok (.aload_n 0, 1) := by decide +kernel
theorem dX4_note_102 : decode cX4_note 102 = .ok (.getfield 7, 3) := by decide +kernel
theorem dX4_note_105 : decode cX4_note 105 = .ok (.iload 5, 2) := by decide +kernel
theorem dX4_note_107 : decode cX4_note 107 = .ok (.iconst 1, 1) := by decide +kernel
theorem dX4_note_108 : decode cX4_note 108 = .ok (.iadd, 1) := by decide +kernel
theorem dX4_note_109 : decode cX4_note 109 = .ok (.iload_n 2, 1) := by decide +kernel
theorem dX4_note_110 : decode cX4_note 110 = .ok (.iastore, 1) := by decide +kernel
theorem dX4_note_111 : decode cX4_note 111 = .ok (.aload_n 0, 1) := by decide +kernel
theorem dX4_note_112 : decode cX4_note 112 = .ok (.getfield 7, 3) := by decide +kernel
theorem dX4_note_115 : decode cX4_note 115 = .ok (.iload 5, 2) := by decide +kernel
theorem dX4_note_117 : decode cX4_note 117 = .ok (.iconst 2, 1) := by decide +kernel
theorem dX4_note_118 : decode cX4_note 118 = .ok (.iadd, 1) := by decide +kernel
theorem dX4_note_119 : decode cX4_note 119 = .ok (.iload_n 3, 1) := by decide +kernel
theorem dX4_note_120 : decode cX4_note 120 = .ok (.iastore, 1) := by decide +kernel
theorem dX4_note_121 : decode cX4_note 121 = .ok (.aload_n 0, 1) := by decide +kernel
theorem dX4_note_122 : decode cX4_note 122 = .ok (.getfield 7, 3) := by decide +kernel
theorem dX4_note_125 : decode cX4_note 125 = .ok (.iload 5, 2) := by decide +kernel
theorem dX4_note_127 : decode cX4_note 127 = .ok (.iconst 3, 1) := by decide +kernel
theorem dX4_note_128 : decode cX4_note 128 = .ok (.iadd, 1) := by decide +kernel
theorem dX4_note_129 : decode cX4_note 129 = .ok (.iload 4, 2) := by decide +kernel
theorem dX4_note_131 : decode cX4_note 131 = .ok (.iastore, 1) := by decide +kernel
theorem dX4_note_132 : decode cX4_note 132 = .ok (.aload_n 0, 1) := by decide +kernel
theorem dX4_note_133 : decode cX4_note 133 = .ok (.getfield 7, 3) := by decide +kernel
theorem dX4_note_136 : decode cX4_note 136 = .ok (.bipush 15, 2) := by decide +kernel
theorem dX4_note_138 : decode cX4_note 138 = .ok (.dup2, 1) := by decide +kernel
theorem dX4_note_139 : decode cX4_note 139 = .ok (.iaload, 1) := by decide +kernel
theorem dX4_note_140 : decode cX4_note 140 = .ok (.iconst 1, 1) := by decide +kernel
theorem dX4_note_141 : decode cX4_note 141 = .ok (.iadd, 1) := by decide +kernel
theorem dX4_note_142 : decode cX4_note 142 = .ok (.iastore, 1) := by decide +kernel
theorem dX4_note_143 : decode cX4_note 143 = .ok (.aload_n 0, 1) := by decide +kernel
theorem dX4_note_144 : decode cX4_note 144 = .ok (.getfield 7, 3) := by decide +kernel
theorem dX4_note_147 : decode cX4_note 147 = .ok (.bipush 15, 2) := by decide +kernel
theorem dX4_note_149 : decode cX4_note 149 = .ok (.iaload, 1) := by decide +kernel
theorem dX4_note_150 : decode cX4_note 150 = .ok (.ireturn, 1) := by decide +kernel
theorem dX4_forget_0 : decode cX4_forget 0 = .ok (.aload_n 0, 1) := by decide +kernel
theorem dX4_forget_1 : decode cX4_forget 1 = .ok (.getfield 7, 3) := by decide +kernel
theorem dX4_forget_4 : decode cX4_forget 4 = .ok (.bipush 15, 2) := by decide +kernel
theorem dX4_forget_6 : decode cX4_forget 6 = .ok (.iaload, 1) := by decide +kernel
theorem dX4_forget_7 : decode cX4_forget 7 = .ok (.istore_n 1, 1) := by decide +kernel
theorem dX4_forget_8 : decode cX4_forget 8 = .ok (.aload_n 0, 1) := by decide +kernel
theorem dX4_forget_9 : decode cX4_forget 9 = .ok (.getfield 7, 3) := by decide +kernel
theorem dX4_forget_12 : decode cX4_forget 12 = .ok (.bipush 15, 2) := by decide +kernel
theorem dX4_forget_14 : decode cX4_forget 14 = .ok (.iconst 0, 1) := by decide +kernel
theorem dX4_forget_15 : decode cX4_forget 15 = .ok (.iastore, 1) := by decide +kernel
theorem dX4_forget_16 : decode cX4_forget 16 = .ok (.iload_n 1, 1) := by decide +kernel
theorem dX4_forget_17 : decode cX4_forget 17 = .ok (.ireturn, 1) := by decide +kernel
theorem dX4_kindsThatFit_0 : decode cX4_kindsThatFit 0 = .ok (.iconst 0, 1) := by decide +kernel
theorem dX4_kindsThatFit_1 : decode cX4_kindsThatFit 1 = .ok (.istore_n 1, 1) := by decide +kernel
theorem dX4_kindsThatFit_2 : decode cX4_kindsThatFit 2 = .ok (.iconst 0, 1) := by decide +kernel
theorem dX4_kindsThatFit_3 : decode cX4_kindsThatFit 3 = .ok (.istore_n 2, 1) := by decide +kernel
theorem dX4_kindsThatFit_4 : decode cX4_kindsThatFit 4 = .ok (.iload_n 2, 1) := by decide +kernel
theorem dX4_kindsThatFit_5 : decode cX4_kindsThatFit 5 = .ok (.bipush 6, 2) := by decide +kernel
theorem dX4_kindsThatFit_7 : decode cX4_kindsThatFit 7 = .ok (.if_icmp .ge 131, 3) := by decide +kernel
theorem dX4_kindsThatFit_10 : decode cX4_kindsThatFit 10 = .ok (.iconst 1, 1) := by decide +kernel
theorem dX4_kindsThatFit_11 : decode cX4_kindsThatFit 11 = .ok (.istore_n 3, 1) := by decide +kernel
theorem dX4_kindsThatFit_12 : decode cX4_kindsThatFit 12 = .ok (.iconst 0, 1) := by decide +kernel
theorem dX4_kindsThatFit_13 : decode cX4_kindsThatFit 13 = .ok (.istore 4, 2) := by decide +kernel
theorem dX4_kindsThatFit_15 : decode cX4_kindsThatFit 15 = .ok (.iload 4, 2) := by decide +kernel
theorem dX4_kindsThatFit_17 : decode cX4_kindsThatFit 17 = .ok (.aload_n 0, 1) := by decide +kernel
theorem dX4_kindsThatFit_18 : decode cX4_kindsThatFit 18 = .ok (.getfield 7, 3) := by decide +kernel
theorem dX4_kindsThatFit_21 : decode cX4_kindsThatFit 21 = .ok (.bipush 15, 2) := by decide +kernel
theorem dX4_kindsThatFit_23 : decode cX4_kindsThatFit 23 = .ok (.iaload, 1) := by decide +kernel
theorem dX4_kindsThatFit_24 : decode cX4_kindsThatFit 24 = .ok (.if_icmp .ge 94, 3) := by decide +kernel
theorem dX4_kindsThatFit_27 : decode cX4_kindsThatFit 27 = .ok (.bipush 16, 2) := by decide +kernel
theorem dX4_kindsThatFit_29 : decode cX4_kindsThatFit 29 = .ok (.iconst 4, 1) := by decide +kernel
theorem dX4_kindsThatFit_30 : decode cX4_kindsThatFit 30 = .ok (.iload 4, 2) := by decide +kernel
theorem dX4_kindsThatFit_32 : decode cX4_kindsThatFit 32 = .ok (.imul, 1) := by decide +kernel
theorem dX4_kindsThatFit_33 : decode cX4_kindsThatFit 33 = .ok (.iadd, 1) := by decide +kernel
theorem dX4_kindsThatFit_34 : decode cX4_kindsThatFit 34 = .ok (.istore 5, 2) := by decide +kernel
theorem dX4_kindsThatFit_36 : decode cX4_kindsThatFit 36 = .ok (.iload_n 3, 1) := by decide +kernel
theorem dX4_kindsThatFit_37 : decode cX4_kindsThatFit 37 = .ok (.ifCond .eq 73, 3) := by decide +kernel
theorem dX4_kindsThatFit_40 : decode cX4_kindsThatFit 40 = .ok (.aload_n 0, 1) := by decide +kernel
theorem dX4_kindsThatFit_41 : decode cX4_kindsThatFit 41 = .ok (.iload_n 2, 1) := by decide +kernel
theorem dX4_kindsThatFit_42 : decode cX4_kindsThatFit 42 = .ok (.aload_n 0, 1) := by decide +kernel
theorem dX4_kindsThatFit_43 : decode cX4_kindsThatFit 43 = .ok (.getfield 7, 3) := by decide +kernel
theorem dX4_kindsThatFit_46 : decode cX4_kindsThatFit 46 = .ok (.iload 5, 2) := by decide +kernel
theorem dX4_kindsThatFit_48 : decode cX4_kindsThatFit 48 = .ok (.iaload, 1) := by decide +kernel
theorem dX4_kindsThatFit_49 : decode cX4_kindsThatFit 49 = .ok (.aload_n 0, 1) := by decide +kernel
theorem dX4_kindsThatFit_50 : decode cX4_kindsThatFit 50 = .ok (.getfield 7, 3) := by decide +kernel
theorem dX4_kindsThatFit_53 : decode cX4_kindsThatFit 53 = .ok (.iload 5, 2) := by decide +kernel
theorem dX4_kindsThatFit_55 : decode cX4_kindsThatFit 55 = .ok (.iconst 1, 1) := by decide +kernel
theorem dX4_kindsThatFit_56 : decode cX4_kindsThatFit 56 = .ok (.iadd, 1) := by decide +kernel
theorem dX4_kindsThatFit_57 : decode cX4_kindsThatFit 57 = .ok (.iaload, 1) := by decide +kernel
theorem dX4_kindsThatFit_58 : decode cX4_kindsThatFit 58 = .ok (.invokevirtual 79, 3) := by decide +kernel
theorem dX4_kindsThatFit_61 : decode cX4_kindsThatFit 61 = .ok (.aload_n 0, 1) := by decide +kernel
theorem dX4_kindsThatFit_62 : decode cX4_kindsThatFit 62 = .ok (.getfield 7, 3) := by decide +kernel
theorem dX4_kindsThatFit_65 : decode cX4_kindsThatFit 65 = .ok (.iload 5, 2) := by decide +kernel
theorem dX4_kindsThatFit_67 : decode cX4_kindsThatFit 67 = .ok (.iconst 2, 1) := by decide +kernel
theorem dX4_kindsThatFit_68 : decode cX4_kindsThatFit 68 = .ok (.iadd, 1) := by decide +kernel
theorem dX4_kindsThatFit_69 : decode cX4_kindsThatFit 69 = .ok (.iaload, 1) := by decide +kernel
theorem dX4_kindsThatFit_70 : decode cX4_kindsThatFit 70 = .ok (.if_icmp .ne 40, 3) := by decide +kernel
theorem dX4_kindsThatFit_73 : decode cX4_kindsThatFit 73 = .ok (.aload_n 0, 1) := by decide +kernel
theorem dX4_kindsThatFit_74 : decode cX4_kindsThatFit 74 = .ok (.iload_n 2, 1) := by decide +kernel
theorem dX4_kindsThatFit_75 : decode cX4_kindsThatFit 75 = .ok (.aload_n 0, 1) := by decide +kernel
theorem dX4_kindsThatFit_76 : decode cX4_kindsThatFit 76 = .ok (.getfield 7, 3) := by decide +kernel
theorem dX4_kindsThatFit_79 : decode cX4_kindsThatFit 79 = .ok (.iload 5, 2) := by decide +kernel
theorem dX4_kindsThatFit_81 : decode cX4_kindsThatFit 81 = .ok (.iaload, 1) := by decide +kernel
theorem dX4_kindsThatFit_82 : decode cX4_kindsThatFit 82 = .ok (.aload_n 0, 1) := by decide +kernel
theorem dX4_kindsThatFit_83 : decode cX4_kindsThatFit 83 = .ok (.getfield 7, 3) := by decide +kernel
theorem dX4_kindsThatFit_86 : decode cX4_kindsThatFit 86 = .ok (.iload 5, 2) := by decide +kernel
theorem dX4_kindsThatFit_88 : decode cX4_kindsThatFit 88 = .ok (.iconst 1, 1) := by decide +kernel
theorem dX4_kindsThatFit_89 : decode cX4_kindsThatFit 89 = .ok (.iadd, 1) := by decide +kernel
theorem dX4_kindsThatFit_90 : decode cX4_kindsThatFit 90 = .ok (.iaload, 1) := by decide +kernel
theorem dX4_kindsThatFit_91 : decode cX4_kindsThatFit 91 = .ok (.invokevirtual 86, 3) := by decide +kernel
theorem dX4_kindsThatFit_94 : decode cX4_kindsThatFit 94 = .ok (.aload_n 0, 1) := by decide +kernel
theorem dX4_kindsThatFit_95 : decode cX4_kindsThatFit 95 = .ok (.getfield 7, 3) := by decide +kernel
theorem dX4_kindsThatFit_98 : decode cX4_kindsThatFit 98 = .ok (.iload 5, 2) := by decide +kernel
theorem dX4_kindsThatFit_100 : decode cX4_kindsThatFit 100 = .ok (.iconst 3, 1) := by decide +kernel
theorem dX4_kindsThatFit_101 : decode cX4_kindsThatFit 101 = .ok (.iadd, 1) := by decide +kernel
theorem dX4_kindsThatFit_102 : decode cX4_kindsThatFit 102 = .ok (.iaload, 1) := by decide +kernel
theorem dX4_kindsThatFit_103 : decode cX4_kindsThatFit 103 = .ok (.if_icmp .ne 7, 3) := by decide +kernel
theorem dX4_kindsThatFit_106 : decode cX4_kindsThatFit 106 = .ok (.iconst 1, 1) := by decide +kernel
theorem dX4_kindsThatFit_107 : decode cX4_kindsThatFit 107 = .ok (.goto 4, 3) := by decide +kernel
theorem dX4_kindsThatFit_110 : decode cX4_kindsThatFit 110 = .ok (.iconst 0, 1) := by decide +kernel
theorem dX4_kindsThatFit_111 : decode cX4_kindsThatFit 111 = .ok (.istore_n 3, 1) := by decide +kernel
theorem dX4_kindsThatFit_112 : decode cX4_kindsThatFit 112 = .ok (.iinc 4 1, 3) := by decide +kernel
theorem dX4_kindsThatFit_115 : decode cX4_kindsThatFit 115 = .ok (.goto (-100), 3) := by decide +kernel
theorem dX4_kindsThatFit_118 : decode cX4_kindsThatFit 118 = .ok (.iload_n 1, 1) := by decide +kernel
theorem dX4_kindsThatFit_119 : decode cX4_kindsThatFit 119 = .ok (.iload_n 3, 1) := by decide +kernel
theorem dX4_kindsThatFit_120 : decode cX4_kindsThatFit 120 = .ok (.ifCond .eq 9, 3) := by decide +kernel
theorem dX4_kindsThatFit_123 : decode cX4_kindsThatFit 123 = .ok (.iconst 1, 1) := by decide +kernel
theorem dX4_kindsThatFit_124 : decode cX4_kindsThatFit 124 = .ok (.iload_n 2, 1) := by decide +kernel
theorem dX4_kindsThatFit_125 : decode cX4_kindsThatFit 125 = .ok (.ishl, 1) := by decide +kernel
theorem dX4_kindsThatFit_126 : decode cX4_kindsThatFit 126 = .ok (.goto 4, 3) := by decide +kernel
theorem dX4_kindsThatFit_129 : decode cX4_kindsThatFit 129 = .ok (.iconst 0, 1) := by decide +kernel
theorem dX4_kindsThatFit_130 : decode cX4_kindsThatFit 130 = .ok (.ior, 1) := by decide +kernel
theorem dX4_kindsThatFit_131 : decode cX4_kindsThatFit 131 = .ok (.istore_n 1, 1) := by decide +kernel
theorem dX4_kindsThatFit_132 : decode cX4_kindsThatFit 132 = .ok (.iinc 2 1, 3) := by decide +kernel
theorem dX4_kindsThatFit_135 : decode cX4_kindsThatFit 135 = .ok (.goto (-131), 3) := by decide +kernel
theorem dX4_kindsThatFit_138 : decode cX4_kindsThatFit 138 = .ok (.iload_n 1, 1) := by decide +kernel
theorem dX4_kindsThatFit_139 : decode cX4_kindsThatFit 139 = .ok (.ireturn, 1) := by decide +kernel
theorem dX4_is_0 : decode cX4_is 0 = .ok (.aload_n 0, 1) := by decide +kernel
theorem dX4_is_1 : decode cX4_is 1 = .ok (.invokevirtual 226, 3) := by decide +kernel
theorem dX4_is_4 : decode cX4_is 4 = .ok (.ireturn, 1) := by decide +kernel
theorem dX4_greatestPart_0 : decode cX4_greatestPart 0 = .ok (.iconst 0, 1) := by decide +kernel
theorem dX4_greatestPart_1 : decode cX4_greatestPart 1 = .ok (.istore_n 3, 1) := by decide +kernel
theorem dX4_greatestPart_2 : decode cX4_greatestPart 2 = .ok (.iconst 0, 1) := by decide +kernel
theorem dX4_greatestPart_3 : decode cX4_greatestPart 3 = .ok (.istore 4, 2) := by decide +kernel
theorem dX4_greatestPart_5 : decode cX4_greatestPart 5 = .ok (.iload 4, 2) := by decide +kernel
theorem dX4_greatestPart_7 : decode cX4_greatestPart 7 = .ok (.bipush 6, 2) := by decide +kernel
theorem dX4_greatestPart_9 : decode cX4_greatestPart 9 = .ok (.if_icmp .ge 153, 3) := by decide +kernel
theorem dX4_greatestPart_12 : decode cX4_greatestPart 12 = .ok (.iconst 0, 1) := by decide +kernel
theorem dX4_greatestPart_13 : decode cX4_greatestPart 13 = .ok (.istore 5, 2) := by decide +kernel
theorem dX4_greatestPart_15 : decode cX4_greatestPart 15 = .ok (.iconst 0, 1) := by decide +kernel
theorem dX4_greatestPart_16 : decode cX4_greatestPart 16 = .ok (.istore 6, 2) := by decide +kernel
theorem dX4_greatestPart_18 : decode cX4_greatestPart 18 = .ok (.iload 6, 2) := by decide +kernel
theorem dX4_greatestPart_20 : decode cX4_greatestPart 20 = .ok (.bipush 6, 2) := by decide +kernel
theorem dX4_greatestPart_22 : decode cX4_greatestPart 22 = .ok (.if_icmp .ge 121, 3) := by decide +kernel
theorem dX4_greatestPart_25 : decode cX4_greatestPart 25 = .ok (.iload_n 1, 1) := by decide +kernel
theorem dX4_greatestPart_26 : decode cX4_greatestPart 26 = .ok (.iload 4, 2) := by decide +kernel
theorem dX4_greatestPart_28 : decode cX4_greatestPart 28 = .ok (.ishr, 1) := by decide +kernel
theorem dX4_greatestPart_29 : decode cX4_greatestPart 29 = .ok (.iconst 1, 1) := by decide +kernel
theorem dX4_greatestPart_30 : decode cX4_greatestPart 30 = .ok (.iand, 1) := by decide +kernel
theorem dX4_greatestPart_31 : decode cX4_greatestPart 31 = .ok (.iconst 1, 1) := by decide +kernel
theorem dX4_greatestPart_32 : decode cX4_greatestPart 32 = .ok (.if_icmp .ne 17, 3) := by decide +kernel
theorem dX4_greatestPart_35 : decode cX4_greatestPart 35 = .ok (.iload_n 1, 1) := by decide +kernel
theorem dX4_greatestPart_36 : decode cX4_greatestPart 36 = .ok (.iload 6, 2) := by decide +kernel
theorem dX4_greatestPart_38 : decode cX4_greatestPart 38 = .ok (.ishr, 1) := by decide +kernel
theorem dX4_greatestPart_39 : decode cX4_greatestPart 39 = .ok (.iconst 1, 1) := by decide +kernel
theorem dX4_greatestPart_40 : decode cX4_greatestPart 40 = .ok (.iand, 1) := by decide +kernel
theorem dX4_greatestPart_41 : decode cX4_greatestPart 41 = .ok (.iconst 1, 1) := by decide +kernel
theorem dX4_greatestPart_42 : decode cX4_greatestPart 42 = .ok (.if_icmp .ne 7, 3) := by decide +kernel
theorem dX4_greatestPart_45 : decode cX4_greatestPart 45 = .ok (.iconst 1, 1) := by decide +kernel
theorem dX4_greatestPart_46 : decode cX4_greatestPart 46 = .ok (.goto 4, 3) := by decide +kernel
theorem dX4_greatestPart_49 : decode cX4_greatestPart 49 = .ok (.iconst 0, 1) := by decide +kernel
theorem dX4_greatestPart_50 : decode cX4_greatestPart 50 = .ok (.istore 7, 2) := by decide +kernel
theorem dX4_greatestPart_52 : decode cX4_greatestPart 52 = .ok (.aload_n 0, 1) := by decide +kernel
theorem dX4_greatestPart_53 : decode cX4_greatestPart 53 = .ok (.iload 4, 2) := by decide +kernel
theorem dX4_greatestPart_55 : decode cX4_greatestPart 55 = .ok (.iload_n 2, 1) := by decide +kernel
theorem dX4_greatestPart_56 : decode cX4_greatestPart 56 = .ok (.aload_n 0, 1) := by decide +kernel
theorem dX4_greatestPart_57 : decode cX4_greatestPart 57 = .ok (.getfield 7, 3) := by decide +kernel
theorem dX4_greatestPart_60 : decode cX4_greatestPart 60 = .ok (.iconst 5, 1) := by decide +kernel
theorem dX4_greatestPart_61 : decode cX4_greatestPart 61 = .ok (.iaload, 1) := by decide +kernel
theorem dX4_greatestPart_62 : decode cX4_greatestPart 62 = .ok (.invokevirtual 79, 3) := by decide +kernel
theorem dX4_greatestPart_65 : decode cX4_greatestPart 65 = .ok (.aload_n 0, 1) := by decide +kernel
theorem dX4_greatestPart_66 : decode cX4_greatestPart 66 = .ok (.iload 6, 2) := by decide +kernel
theorem dX4_greatestPart_68 : decode cX4_greatestPart 68 = .ok (.iload_n 2, 1) := by decide +kernel
theorem dX4_greatestPart_69 : decode cX4_greatestPart 69 = .ok (.aload_n 0, 1) := by decide +kernel
theorem dX4_greatestPart_70 : decode cX4_greatestPart 70 = .ok (.getfield 7, 3) := by decide +kernel
theorem dX4_greatestPart_73 : decode cX4_greatestPart 73 = .ok (.iconst 5, 1) := by decide +kernel
theorem dX4_greatestPart_74 : decode cX4_greatestPart 74 = .ok (.iaload, 1) := by decide +kernel
theorem dX4_greatestPart_75 : decode cX4_greatestPart 75 = .ok (.invokevirtual 79, 3) := by decide +kernel
theorem dX4_greatestPart_78 : decode cX4_greatestPart 78 = .ok (.if_icmp .ne 36, 3) := by decide +kernel
theorem dX4_greatestPart_81 : decode cX4_greatestPart 81 = .ok (.aload_n 0, 1) := by decide +kernel
theorem dX4_greatestPart_82 : decode cX4_greatestPart 82 = .ok (.iload 4, 2) := by decide +kernel
theorem dX4_greatestPart_84 : decode cX4_greatestPart 84 = .ok (.iload_n 2, 1) := by decide +kernel
theorem dX4_greatestPart_85 : decode cX4_greatestPart 85 = .ok (.aload_n 0, 1) := by decide +kernel
theorem dX4_greatestPart_86 : decode cX4_greatestPart 86 = .ok (.getfield 7, 3) := by decide +kernel
theorem dX4_greatestPart_89 : decode cX4_greatestPart 89 = .ok (.iconst 5, 1) := by decide +kernel
theorem dX4_greatestPart_90 : decode cX4_greatestPart 90 = .ok (.iaload, 1) := by decide +kernel
theorem dX4_greatestPart_91 : decode cX4_greatestPart 91 = .ok (.invokevirtual 86, 3) := by decide +kernel
theorem dX4_greatestPart_94 : decode cX4_greatestPart 94 = .ok (.aload_n 0, 1) := by decide +kernel
theorem dX4_greatestPart_95 : decode cX4_greatestPart 95 = .ok (.iload 6, 2) := by decide +kernel
theorem dX4_greatestPart_97 : decode cX4_greatestPart 97 = .ok (.iload_n 2, 1) := by decide +kernel
theorem dX4_greatestPart_98 : decode cX4_greatestPart 98 = .ok (.aload_n 0, 1) := by decide +kernel
theorem dX4_greatestPart_99 : decode cX4_greatestPart 99 = .ok (.getfield 7, 3) := by decide +kernel
theorem dX4_greatestPart_102 : decode cX4_greatestPart 102 = .ok (.iconst 5, 1) := by decide +kernel
theorem dX4_greatestPart_103 : decode cX4_greatestPart 103 = .ok (.iaload, 1) := by decide +kernel
theorem dX4_greatestPart_104 : decode cX4_greatestPart 104 = .ok (.invokevirtual 86, 3) := by decide +kernel
theorem dX4_greatestPart_107 : decode cX4_greatestPart 107 = .ok (.if_icmp .ne 7, 3) := by decide +kernel
theorem dX4_greatestPart_110 : decode cX4_greatestPart 110 = .ok (.iconst 1, 1) := by decide +kernel
theorem dX4_greatestPart_111 : decode cX4_greatestPart 111 = .ok (.goto 4, 3) := by decide +kernel
theorem dX4_greatestPart_114 : decode cX4_greatestPart 114 = .ok (.iconst 0, 1) := by decide +kernel
theorem dX4_greatestPart_115 : decode cX4_greatestPart 115 = .ok (.istore 8, 2) := by decide +kernel
theorem dX4_greatestPart_117 : decode cX4_greatestPart 117 = .ok (.iload 5, 2) := by decide +kernel
theorem dX4_greatestPart_119 : decode cX4_greatestPart 119 = .ok (.iload 7, 2) := by decide +kernel
theorem dX4_greatestPart_121 : decode cX4_greatestPart 121 = .ok (.ifCond .eq 12, 3) := by decide +kernel
theorem dX4_greatestPart_124 : decode cX4_greatestPart 124 = .ok (.iload 8, 2) := by decide +kernel
theorem dX4_greatestPart_126 : decode cX4_greatestPart 126 = .ok (.ifCond .eq 7, 3) := by decide +kernel
theorem dX4_greatestPart_129 : decode cX4_greatestPart 129 = .ok (.iconst 1, 1) := by decide +kernel
theorem dX4_greatestPart_130 : decode cX4_greatestPart 130 = .ok (.goto 4, 3) := by decide +kernel
theorem dX4_greatestPart_133 : decode cX4_greatestPart 133 = .ok (.iconst 0, 1) := by decide +kernel
theorem dX4_greatestPart_134 : decode cX4_greatestPart 134 = .ok (.iadd, 1) := by decide +kernel
theorem dX4_greatestPart_135 : decode cX4_greatestPart 135 = .ok (.istore 5, 2) := by decide +kernel
theorem dX4_greatestPart_137 : decode cX4_greatestPart 137 = .ok (.iinc 6 1, 3) := by decide +kernel
theorem dX4_greatestPart_140 : decode cX4_greatestPart 140 = .ok (.goto (-122), 3) := by decide +kernel
theorem dX4_greatestPart_143 : decode cX4_greatestPart 143 = .ok (.iload 5, 2) := by decide +kernel
theorem dX4_greatestPart_145 : decode cX4_greatestPart 145 = .ok (.iload_n 3, 1) := by decide +kernel
theorem dX4_greatestPart_146 : decode cX4_greatestPart 146 = .ok (.if_icmp .le 8, 3) := by decide +kernel
theorem dX4_greatestPart_149 : decode cX4_greatestPart 149 = .ok (.iload 5, 2) := by decide +kernel
theorem dX4_greatestPart_151 : decode cX4_greatestPart 151 = .ok (.goto 4, 3) := by decide +kernel
theorem dX4_greatestPart_154 : decode cX4_greatestPart 154 = .ok (.iload_n 3, 1) := by decide +kernel
theorem dX4_greatestPart_155 : decode cX4_greatestPart 155 = .ok (.istore_n 3, 1) := by decide +kernel
theorem dX4_greatestPart_156 : decode cX4_greatestPart 156 = .ok (.iinc 4 1, 3) := by decide +kernel
theorem dX4_greatestPart_159 : decode cX4_greatestPart 159 = .ok (.goto (-154), 3) := by decide +kernel
theorem dX4_greatestPart_162 : decode cX4_greatestPart 162 = .ok (.iload_n 3, 1) := by decide +kernel
theorem dX4_greatestPart_163 : decode cX4_greatestPart 163 = .ok (.ireturn, 1) := by decide +kernel
theorem dX4_next_0 : decode cX4_next 0 = .ok (.aload_n 0, 1) := by decide +kernel
theorem dX4_next_1 : decode cX4_next 1 = .ok (.invokevirtual 226, 3) := by decide +kernel
theorem dX4_next_4 : decode cX4_next 4 = .ok (.istore_n 1, 1) := by decide +kernel
theorem dX4_next_5 : decode cX4_next 5 = .ok (.iload_n 1, 1) := by decide +kernel
theorem dX4_next_6 : decode cX4_next 6 = .ok (.ifCond .ne 5, 3) := by decide +kernel
theorem dX4_next_9 : decode cX4_next 9 = .ok (.iconst (-1), 1) := by decide +kernel
theorem dX4_next_10 : decode cX4_next 10 = .ok (.ireturn, 1) := by decide +kernel
theorem dX4_next_11 : decode cX4_next 11 = .ok (.iconst 0, 1) := by decide +kernel
theorem dX4_next_12 : decode cX4_next 12 = .ok (.istore_n 2, 1) := by decide +kernel
theorem dX4_next_13 : decode cX4_next 13 = .ok (.iconst 1, 1) := by decide +kernel
theorem dX4_next_14 : decode cX4_next 14 = .ok (.istore_n 3, 1) := by decide +kernel
theorem dX4_next_15 : decode cX4_next 15 = .ok (.iload_n 3, 1) := by decide +kernel
theorem dX4_next_16 : decode cX4_next 16 = .ok (.bipush 6, 2) := by decide +kernel
theorem dX4_next_18 : decode cX4_next 18 = .ok (.if_icmp .ge 30, 3) := by decide +kernel
theorem dX4_next_21 : decode cX4_next 21 = .ok (.aload_n 0, 1) := by decide +kernel
theorem dX4_next_22 : decode cX4_next 22 = .ok (.iload_n 1, 1) := by decide +kernel
theorem dX4_next_23 : decode cX4_next 23 = .ok (.iload_n 3, 1) := by decide +kernel
theorem dX4_next_24 : decode cX4_next 24 = .ok (.invokevirtual 229, 3) := by decide +kernel
theorem dX4_next_27 : decode cX4_next 27 = .ok (.aload_n 0, 1) := by decide +kernel
theorem dX4_next_28 : decode cX4_next 28 = .ok (.iload_n 1, 1) := by decide +kernel
theorem dX4_next_29 : decode cX4_next 29 = .ok (.iload_n 2, 1) := by decide +kernel
theorem dX4_next_30 : decode cX4_next 30 = .ok (.invokevirtual 229, 3) := by decide +kernel
theorem dX4_next_33 : decode cX4_next 33 = .ok (.if_icmp .ge 7, 3) := by decide +kernel
theorem dX4_next_36 : decode cX4_next 36 = .ok (.iload_n 3, 1) := by decide +kernel
theorem dX4_next_37 : decode cX4_next 37 = .ok (.goto 4, 3) := by decide +kernel
theorem dX4_next_40 : decode cX4_next 40 = .ok (.iload_n 2, 1) := by decide +kernel
theorem dX4_next_41 : decode cX4_next 41 = .ok (.istore_n 2, 1) := by decide +kernel
theorem dX4_next_42 : decode cX4_next 42 = .ok (.iinc 3 1, 3) := by decide +kernel
theorem dX4_next_45 : decode cX4_next 45 = .ok (.goto (-30), 3) := by decide +kernel
theorem dX4_next_48 : decode cX4_next 48 = .ok (.iload_n 2, 1) := by decide +kernel
theorem dX4_next_49 : decode cX4_next 49 = .ok (.ireturn, 1) := by decide +kernel
theorem dX4_gain_0 : decode cX4_gain 0 = .ok (.aload_n 0, 1) := by decide +kernel
theorem dX4_gain_1 : decode cX4_gain 1 = .ok (.invokevirtual 136, 3) := by decide +kernel
theorem dX4_gain_4 : decode cX4_gain 4 = .ok (.aload_n 0, 1) := by decide +kernel
theorem dX4_gain_5 : decode cX4_gain 5 = .ok (.iload_n 1, 1) := by decide +kernel
theorem dX4_gain_6 : decode cX4_gain 6 = .ok (.iload_n 2, 1) := by decide +kernel
theorem dX4_gain_7 : decode cX4_gain 7 = .ok (.invokevirtual 139, 3) := by decide +kernel
theorem dX4_gain_10 : decode cX4_gain 10 = .ok (.aload_n 0, 1) := by decide +kernel
theorem dX4_gain_11 : decode cX4_gain 11 = .ok (.getfield 76, 3) := by decide +kernel
theorem dX4_gain_14 : decode cX4_gain 14 = .ok (.iconst 1, 1) := by decide +kernel
theorem dX4_gain_15 : decode cX4_gain 15 = .ok (.if_icmp .ne 7, 3) := by decide +kernel
theorem dX4_gain_18 : decode cX4_gain 18 = .ok (.iconst 2, 1) := by decide +kernel
theorem dX4_gain_19 : decode cX4_gain 19 = .ok (.goto 15, 3) := by decide +kernel
theorem dX4_gain_22 : decode cX4_gain 22 = .ok (.aload_n 0, 1) := by decide +kernel
theorem dX4_gain_23 : decode cX4_gain 23 = .ok (.getfield 76, 3) := by decide +kernel
theorem dX4_gain_26 : decode cX4_gain 26 = .ok (.ifCond .ne 7, 3) := by decide +kernel
theorem dX4_gain_29 : decode cX4_gain 29 = .ok (.iconst 1, 1) := by decide +kernel
theorem dX4_gain_30 : decode cX4_gain 30 = .ok (.goto 4, 3) := by decide +kernel
theorem dX4_gain_33 : decode cX4_gain 33 = .ok (.iconst 0, 1) := by decide +kernel
theorem dX4_gain_34 : decode cX4_gain 34 = .ok (.ireturn, 1) := by decide +kernel
theorem dX4_lie_0 : decode cX4_lie 0 = .ok (.iload_n 1, 1) := by decide +kernel
theorem dX4_lie_1 : decode cX4_lie 1 = .ok (.i2l, 1) := by decide +kernel
theorem dX4_lie_2 : decode cX4_lie 2 = .ok (.lconst 0, 1) := by decide +kernel
theorem dX4_lie_3 : decode cX4_lie 3 = .ok (.ldc2_w 89, 3) := by decide +kernel
theorem dX4_lie_6 : decode cX4_lie 6 = .ok (.invokestatic 58, 3) := by decide +kernel
theorem dX4_lie_9 : decode cX4_lie 9 = .ok (.ifCond .ne 10, 3) := by decide +kernel
theorem dX4_lie_12 : decode cX4_lie 12 = .ok (.aload_n 0, 1) := by decide +kernel
theorem dX4_lie_13 : decode cX4_lie 13 = .ok (.bipush (-2), 2) := by decide +kernel
theorem dX4_lie_15 : decode cX4_lie 15 = .ok (.invokevirtual 91, 3) := by decide +kernel
theorem dX4_lie_18 : decode cX4_lie 18 = .ok (.ireturn, 1) := by decide +kernel
theorem dX4_lie_19 : decode cX4_lie 19 = .ok (.aload_n 0, 1) := by decide +kernel
theorem dX4_lie_20 : decode cX4_lie 20 = .ok (.getfield 7, 3) := by decide +kernel
theorem dX4_lie_23 : decode cX4_lie 23 = .ok (.bipush 6, 2) := by decide +kernel
theorem dX4_lie_25 : decode cX4_lie 25 = .ok (.iaload, 1) := by decide +kernel
theorem dX4_lie_26 : decode cX4_lie 26 = .ok (.ifCond .eq 10, 3) := by decide +kernel
theorem dX4_lie_29 : decode cX4_lie 29 = .ok (.aload_n 0, 1) := by decide +kernel
theorem dX4_lie_30 : decode cX4_lie 30 = .ok (.bipush (-3), 2) := by decide +kernel
theorem dX4_lie_32 : decode cX4_lie 32 = .ok (.invokevirtual 91, 3) := by decide +kernel
theorem dX4_lie_35 : decode cX4_lie 35 = .ok (.ireturn, 1) := by decide +kernel
theorem dX4_lie_36 : decode cX4_lie 36 = .ok (.iconst 0, 1) := by decide +kernel
theorem dX4_lie_37 : decode cX4_lie 37 = .ok (.istore_n 2, 1) := by decide +kernel
theorem dX4_lie_38 : decode cX4_lie 38 = .ok (.iconst 0, 1) := by decide +kernel
theorem dX4_lie_39 : decode cX4_lie 39 = .ok (.istore_n 3, 1) := by decide +kernel
theorem dX4_lie_40 : decode cX4_lie 40 = .ok (.iload_n 3, 1) := by decide +kernel
theorem dX4_lie_41 : decode cX4_lie 41 = .ok (.iconst 4, 1) := by decide +kernel
theorem dX4_lie_42 : decode cX4_lie 42 = .ok (.if_icmp .ge 115, 3) := by decide +kernel
theorem dX4_lie_45 : decode cX4_lie 45 = .ok (.iload_n 3, 1) := by decide +kernel
theorem dX4_lie_46 : decode cX4_lie 46 = .ok (.iconst 2, 1) := by decide +kernel
theorem dX4_lie_47 : decode cX4_lie 47 = .ok (.irem, 1) := by decide +kernel
theorem dX4_lie_48 : decode cX4_lie 48 = .ok (.ifCond .ne 7, 3) := by decide +kernel
theorem dX4_lie_51 : decode cX4_lie 51 = .ok (.iload_n 1, 1) := by decide +kernel
theorem dX4_lie_52 : decode cX4_lie 52 = .ok (.goto 4, 3) := by decide +kernel
theorem dX4_lie_55 : decode cX4_lie 55 = .ok (.iconst 0, 1) := by decide +kernel
theorem dX4_lie_56 : decode cX4_lie 56 = .ok (.istore 4, 2) := by decide +kernel
theorem dX4_lie_58 : decode cX4_lie 58 = .ok (.iload_n 3, 1) := by decide +kernel
theorem dX4_lie_59 : decode cX4_lie 59 = .ok (.iconst 2, 1) := by decide +kernel
theorem dX4_lie_60 : decode cX4_lie 60 = .ok (.irem, 1) := by decide +kernel
theorem dX4_lie_61 : decode cX4_lie 61 = .ok (.ifCond .ne 7, 3) := by decide +kernel
theorem dX4_lie_64 : decode cX4_lie 64 = .ok (.iconst 0, 1) := by decide +kernel
theorem dX4_lie_65 : decode cX4_lie 65 = .ok (.goto 4, 3) := by decide +kernel
theorem dX4_lie_68 : decode cX4_lie 68 = .ok (.iload_n 1, 1) := by decide +kernel
theorem dX4_lie_69 : decode cX4_lie 69 = .ok (.istore 5, 2) := by decide +kernel
theorem dX4_lie_71 : decode cX4_lie 71 = .ok (.iload_n 3, 1) := by decide +kernel
theorem dX4_lie_72 : decode cX4_lie 72 = .ok (.iconst 2, 1) := by decide +kernel
theorem dX4_lie_73 : decode cX4_lie 73 = .ok (.if_icmp .ge 7, 3) := by decide +kernel
theorem dX4_lie_76 : decode cX4_lie 76 = .ok (.iconst 1, 1) := by decide +kernel
theorem dX4_lie_77 : decode cX4_lie 77 = .ok (.goto 4, 3) := by decide +kernel
theorem dX4_lie_80 : decode cX4_lie 80 = .ok (.iconst 0, 1) := by decide +kernel
theorem dX4_lie_81 : decode cX4_lie 81 = .ok (.istore 6, 2) := by decide +kernel
theorem dX4_lie_83 : decode cX4_lie 83 = .ok (.aload_n 0, 1) := by decide +kernel
theorem dX4_lie_84 : decode cX4_lie 84 = .ok (.iload 4, 2) := by decide +kernel
theorem dX4_lie_86 : decode cX4_lie 86 = .ok (.iload 6, 2) := by decide +kernel
theorem dX4_lie_88 : decode cX4_lie 88 = .ok (.invokevirtual 232, 3) := by decide +kernel
theorem dX4_lie_91 : decode cX4_lie 91 = .ok (.aload_n 0, 1) := by decide +kernel
theorem dX4_lie_92 : decode cX4_lie 92 = .ok (.iload 5, 2) := by decide +kernel
theorem dX4_lie_94 : decode cX4_lie 94 = .ok (.iload 6, 2) := by decide +kernel
theorem dX4_lie_96 : decode cX4_lie 96 = .ok (.invokevirtual 232, 3) := by decide +kernel
theorem dX4_lie_99 : decode cX4_lie 99 = .ok (.if_icmp .lt 34, 3) := by decide +kernel
theorem dX4_lie_102 : decode cX4_lie 102 = .ok (.aload_n 0, 1) := by decide +kernel
theorem dX4_lie_103 : decode cX4_lie 103 = .ok (.iload 4, 2) := by decide +kernel
theorem dX4_lie_105 : decode cX4_lie 105 = .ok (.iload 6, 2) := by decide +kernel
theorem dX4_lie_107 : decode cX4_lie 107 = .ok (.invokevirtual 232, 3) := by decide +kernel
theorem dX4_lie_110 : decode cX4_lie 110 = .ok (.aload_n 0, 1) := by decide +kernel
theorem dX4_lie_111 : decode cX4_lie 111 = .ok (.iload 4, 2) := by decide +kernel
theorem dX4_lie_113 : decode cX4_lie 113 = .ok (.iload 6, 2) := by decide +kernel
theorem dX4_lie_115 : decode cX4_lie 115 = .ok (.ifCond .ne 7, 3) := by decide +kernel
theorem dX4_lie_118 : decode cX4_lie 118 = .ok (.iconst 1, 1) := by decide +kernel
theorem dX4_lie_119 : decode cX4_lie 119 = .ok (.goto 4, 3) := by decide +kernel
theorem dX4_lie_122 : decode cX4_lie 122 = .ok (.iconst 0, 1) := by decide +kernel
theorem dX4_lie_123 : decode cX4_lie 123 = .ok (.invokevirtual 232, 3) := by decide +kernel
theorem dX4_lie_126 : decode cX4_lie 126 = .ok (.if_icmp .gt 7, 3) := by decide +kernel
theorem dX4_lie_129 : decode cX4_lie 129 = .ok (.iconst 1, 1) := by decide +kernel
theorem dX4_lie_130 : decode cX4_lie 130 = .ok (.goto 4, 3) := by decide +kernel
theorem dX4_lie_133 : decode cX4_lie 133 = .ok (.iconst 0, 1) := by decide +kernel
theorem dX4_lie_134 : decode cX4_lie 134 = .ok (.istore 7, 2) := by decide +kernel
theorem dX4_lie_136 : decode cX4_lie 136 = .ok (.iload_n 2, 1) := by decide +kernel
theorem dX4_lie_137 : decode cX4_lie 137 = .ok (.iload 7, 2) := by decide +kernel
theorem dX4_lie_139 : decode cX4_lie 139 = .ok (.ifCond .eq 9, 3) := by decide +kernel
theorem dX4_lie_142 : decode cX4_lie 142 = .ok (.iconst 1, 1) := by decide +kernel
theorem dX4_lie_143 : decode cX4_lie 143 = .ok (.iload_n 3, 1) := by decide +kernel
theorem dX4_lie_144 : decode cX4_lie 144 = .ok (.ishl, 1) := by decide +kernel
theorem dX4_lie_145 : decode cX4_lie 145 = .ok (.goto 4, 3) := by decide +kernel
theorem dX4_lie_148 : decode cX4_lie 148 = .ok (.iconst 0, 1) := by decide +kernel
theorem dX4_lie_149 : decode cX4_lie 149 = .ok (.ior, 1) := by decide +kernel
theorem dX4_lie_150 : decode cX4_lie 150 = .ok (.istore_n 2, 1) := by decide +kernel
theorem dX4_lie_151 : decode cX4_lie 151 = .ok (.iinc 3 1, 3) := by decide +kernel
theorem dX4_lie_154 : decode cX4_lie 154 = .ok (.goto (-114), 3) := by decide +kernel
theorem dX4_lie_157 : decode cX4_lie 157 = .ok (.iload_n 2, 1) := by decide +kernel
theorem dX4_lie_158 : decode cX4_lie 158 = .ok (.ireturn, 1) := by decide +kernel
theorem dX4_odds_0 : decode cX4_odds 0 = .ok (.aload_n 0, 1) := by decide +kernel
theorem dX4_odds_1 : decode cX4_odds 1 = .ok (.iload_n 1, 1) := by decide +kernel
theorem dX4_odds_2 : decode cX4_odds 2 = .ok (.bipush 7, 2) := by decide +kernel
theorem dX4_odds_4 : decode cX4_odds 4 = .ok (.invokevirtual 176, 3) := by decide +kernel
theorem dX4_odds_7 : decode cX4_odds 7 = .ok (.ifCond .eq 15, 3) := by decide +kernel
theorem dX4_odds_10 : decode cX4_odds 10 = .ok (.iload_n 2, 1) := by decide +kernel
theorem dX4_odds_11 : decode cX4_odds 11 = .ok (.i2l, 1) := by decide +kernel
theorem dX4_odds_12 : decode cX4_odds 12 = .ok (.lconst 0, 1) := by decide +kernel
theorem dX4_odds_13 : decode cX4_odds 13 = .ok (.ldc2_w 236, 3) := by decide +kernel
theorem dX4_odds_16 : decode cX4_odds 16 = .ok (.invokestatic 58, 3) := by decide +kernel
theorem dX4_odds_19 : decode cX4_odds 19 = .ok (.ifCond .ne 10, 3) := by decide +kernel
theorem dX4_odds_22 : decode cX4_odds 22 = .ok (.aload_n 0, 1) := by decide +kernel
theorem dX4_odds_23 : decode cX4_odds 23 = .ok (.bipush (-2), 2) := by decide +kernel
theorem dX4_odds_25 : decode cX4_odds 25 = .ok (.invokevirtual 91, 3) := by decide +kernel
theorem dX4_odds_28 : decode cX4_odds 28 = .ok (.ireturn, 1) := by decide +kernel
theorem dX4_odds_29 : decode cX4_odds 29 = .ok (.lconst 1, 1) := by decide +kernel
theorem dX4_odds_30 : decode cX4_odds 30 = .ok (.lstore_n 3, 1) := by decide +kernel
theorem dX4_odds_31 : decode cX4_odds 31 = .ok (.iconst 0, 1) := by decide +kernel
theorem dX4_odds_32 : decode cX4_odds 32 = .ok (.istore 5, 2) := by decide +kernel
theorem dX4_odds_34 : decode cX4_odds 34 = .ok (.iload 5, 2) := by decide +kernel
theorem dX4_odds_36 : decode cX4_odds 36 = .ok (.aload_n 0, 1) := by decide +kernel
theorem dX4_odds_37 : decode cX4_odds 37 = .ok (.getfield 173, 3) := by decide +kernel
theorem dX4_odds_40 : decode cX4_odds 40 = .ok (.if_icmp .ge 15, 3) := by decide +kernel
theorem dX4_odds_43 : decode cX4_odds 43 = .ok (.lload_n 3, 1) := by decide +kernel
theorem dX4_odds_44 : decode cX4_odds 44 = .ok (.ldc2_w 236, 3) := by decide +kernel
theorem dX4_odds_47 : decode cX4_odds 47 = .ok (.lmul, 1) := by decide +kernel
theorem dX4_odds_48 : decode cX4_odds 48 = .ok (.lstore_n 3, 1) := by decide +kernel
theorem dX4_odds_49 : decode cX4_odds 49 = .ok (.iinc 5 1, 3) := by decide +kernel
theorem dX4_odds_52 : decode cX4_odds 52 = .ok (.goto (-18), 3) := by decide +kernel
theorem dX4_odds_55 : decode cX4_odds 55 = .ok (.lconst 0, 1) := by decide +kernel
theorem dX4_odds_56 : decode cX4_odds 56 = .ok (.lstore 5, 2) := by decide +kernel
theorem dX4_odds_58 : decode cX4_odds 58 = .ok (.iconst 0, 1) := by decide +kernel
theorem dX4_odds_59 : decode cX4_odds 59 = .ok (.istore 7, 2) := by decide +kernel
theorem dX4_odds_61 : decode cX4_odds 61 = .ok (.iload 7, 2) := by decide +kernel
theorem dX4_odds_63 : decode cX4_odds 63 = .ok (.iconst 1, 1) := by decide +kernel
theorem dX4_odds_64 : decode cX4_odds 64 = .ok (.aload_n 0, 1) := by decide +kernel
theorem dX4_odds_65 : decode cX4_odds 65 = .ok (.getfield 173, 3) := by decide +kernel
theorem dX4_odds_68 : decode cX4_odds 68 = .ok (.ishl, 1) := by decide +kernel
theorem dX4_odds_69 : decode cX4_odds 69 = .ok (.if_icmp .ge 115, 3) := by decide +kernel
theorem dX4_odds_72 : decode cX4_odds 72 = .ok (.aload_n 0, 1) := by decide +kernel
theorem dX4_odds_73 : decode cX4_odds 73 = .ok (.invokevirtual 136, 3) := by decide +kernel
theorem dX4_odds_76 : decode cX4_odds 76 = .ok (.lconst 1, 1) := by decide +kernel
theorem dX4_odds_77 : decode cX4_odds 77 = .ok (.lstore 8, 2) := by decide +kernel
theorem dX4_odds_79 : decode cX4_odds 79 = .ok (.iconst 0, 1) := by decide +kernel
theorem dX4_odds_80 : decode cX4_odds 80 = .ok (.istore 10, 2) := by decide +kernel
theorem dX4_odds_82 : decode cX4_odds 82 = .ok (.iload 10, 2) := by decide +kernel
theorem dX4_odds_84 : decode cX4_odds 84 = .ok (.aload_n 0, 1) := by decide +kernel
theorem dX4_odds_85 : decode cX4_odds 85 = .ok (.getfield 173, 3) := by decide +kernel
theorem dX4_odds_88 : decode cX4_odds 88 = .ok (.if_icmp .ge 71, 3) := by decide +kernel
theorem dX4_odds_91 : decode cX4_odds 91 = .ok (.iload 7, 2) := by decide +kernel
theorem dX4_odds_93 : decode cX4_odds 93 = .ok (.iload 10, 2) := by decide +kernel
theorem dX4_odds_95 : decode cX4_odds 95 = .ok (.ishr, 1) := by decide +kernel
theorem dX4_odds_96 : decode cX4_odds 96 = .ok (.iconst 1, 1) := by decide +kernel
theorem dX4_odds_97 : decode cX4_odds 97 = .ok (.iand, 1) := by decide +kernel
theorem dX4_odds_98 : decode cX4_odds 98 = .ok (.iconst 1, 1) := by decide +kernel
theorem dX4_odds_99 : decode cX4_odds 99 = .ok (.if_icmp .ne 7, 3) := by decide +kernel
theorem dX4_odds_102 : decode cX4_odds 102 = .ok (.iconst 1, 1) := by decide +kernel
theorem dX4_odds_103 : decode cX4_odds 103 = .ok (.goto 4, 3) := by decide +kernel
theorem dX4_odds_106 : decode cX4_odds 106 = .ok (.iconst 0, 1) := by decide +kernel
theorem dX4_odds_107 : decode cX4_odds 107 = .ok (.istore 11, 2) := by decide +kernel
theorem dX4_odds_109 : decode cX4_odds 109 = .ok (.lload 8, 2) := by decide +kernel
theorem dX4_odds_111 : decode cX4_odds 111 = .ok (.iload 11, 2) := by decide +kernel
theorem dX4_odds_113 : decode cX4_odds 113 = .ok (.ifCond .eq 8, 3) := by decide +kernel
theorem dX4_odds_116 : decode cX4_odds 116 = .ok (.iload_n 2, 1) := by decide +kernel
theorem dX4_odds_117 : decode cX4_odds 117 = .ok (.i2l, 1) := by decide +kernel
theorem dX4_odds_118 : decode cX4_odds 118 = .ok (.goto 8, 3) := by decide +kernel
theorem dX4_odds_121 : decode cX4_odds 121 = .ok (.bipush 10, 2) := by decide +kernel
theorem dX4_odds_123 : decode cX4_odds 123 = .ok (.iload_n 2, 1) := by decide +kernel
theorem dX4_odds_124 : decode cX4_odds 124 = .ok (.isub, 1) := by decide +kernel
theorem dX4_odds_125 : decode cX4_odds 125 = .ok (.i2l, 1) := by decide +kernel
theorem dX4_odds_126 : decode cX4_odds 126 = .ok (.lmul, 1) := by decide +kernel
theorem dX4_odds_127 : decode cX4_odds 127 = .ok (.lstore 8, 2) := by decide +kernel
theorem dX4_odds_129 : decode cX4_odds 129 = .ok (.iload 11, 2) := by decide +kernel
theorem dX4_odds_131 : decode cX4_odds 131 = .ok (.ifCond .eq 22, 3) := by decide +kernel
theorem dX4_odds_134 : decode cX4_odds 134 = .ok (.aload_n 0, 1) := by decide +kernel
theorem dX4_odds_135 : decode cX4_odds 135 = .ok (.getfield 76, 3) := by decide +kernel
theorem dX4_odds_138 : decode cX4_odds 138 = .ok (.ifCond .ne 15, 3) := by decide +kernel
theorem dX4_odds_141 : decode cX4_odds 141 = .ok (.aload_n 0, 1) := by decide +kernel
theorem dX4_odds_142 : decode cX4_odds 142 = .ok (.aload_n 0, 1) := by decide +kernel
theorem dX4_odds_143 : decode cX4_odds 143 = .ok (.getfield 28, 3) := by decide +kernel
theorem dX4_odds_146 : decode cX4_odds 146 = .ok (.iload 10, 2) := by decide +kernel
theorem dX4_odds_148 : decode cX4_odds 148 = .ok (.iaload, 1) := by decide +kernel
theorem dX4_odds_149 : decode cX4_odds 149 = .ok (.iconst 1, 1) := by decide +kernel
theorem dX4_odds_150 : decode cX4_odds 150 = .ok (.invokevirtual 139, 3) := by decide +kernel
theorem dX4_odds_153 : decode cX4_odds 153 = .ok (.iinc 10 1, 3) := by decide +kernel
theorem dX4_odds_156 : decode cX4_odds 156 = .ok (.goto (-74), 3) := by decide +kernel
theorem dX4_odds_159 : decode cX4_odds 159 = .ok (.lload 5, 2) := by decide +kernel
theorem dX4_odds_161 : decode cX4_odds 161 = .ok (.aload_n 0, 1) := by decide +kernel
theorem dX4_odds_162 : decode cX4_odds 162 = .ok (.getfield 76, 3) := by decide +kernel
theorem dX4_odds_165 : decode cX4_odds 165 = .ok (.iconst 1, 1) := by decide +kernel
theorem dX4_odds_166 : decode cX4_odds 166 = .ok (.if_icmp .ne 8, 3) := by decide +kernel
theorem dX4_odds_169 : decode cX4_odds 169 = .ok (.lload 8, 2) := by decide +kernel
theorem dX4_odds_171 : decode cX4_odds 171 = .ok (.goto 4, 3) := by decide +kernel
theorem dX4_odds_174 : decode cX4_odds 174 = .ok (.lconst 0, 1) := by decide +kernel
theorem dX4_odds_175 : decode cX4_odds 175 = .ok (.ladd, 1) := by decide +kernel
theorem dX4_odds_176 : decode cX4_odds 176 = .ok (.lstore 5, 2) := by decide +kernel
theorem dX4_odds_178 : decode cX4_odds 178 = .ok (.iinc 7 1, 3) := by decide +kernel
theorem dX4_odds_181 : decode cX4_odds 181 = .ok (.goto (-120), 3) := by decide +kernel
theorem dX4_odds_184 : decode cX4_odds 184 = .ok (.aload_n 0, 1) := by decide +kernel
theorem dX4_odds_185 : decode cX4_odds 185 = .ok (.lload 5, 2) := by decide +kernel
theorem dX4_odds_187 : decode cX4_odds 187 = .ok (.lload_n 3, 1) := by decide +kernel
theorem dX4_odds_188 : decode cX4_odds 188 = .ok (.invokevirtual 218, 3) := by decide +kernel
theorem dX4_odds_191 : decode cX4_odds 191 = .ok (.iconst 1, 1) := by decide +kernel
theorem dX4_odds_192 : decode cX4_odds 192 = .ok (.ireturn, 1) := by decide +kernel
theorem dX4_jars_0 : decode cX4_jars 0 = .ok (.iload_n 1, 1) := by decide +kernel
theorem dX4_jars_1 : decode cX4_jars 1 = .ok (.i2l, 1) := by decide +kernel
theorem dX4_jars_2 : decode cX4_jars 2 = .ok (.lconst 0, 1) := by decide +kernel
theorem dX4_jars_3 : decode cX4_jars 3 = .ok (.ldc2_w 238, 3) := by decide +kernel
theorem dX4_jars_6 : decode cX4_jars 6 = .ok (.invokestatic 58, 3) := by decide +kernel
theorem dX4_jars_9 : decode cX4_jars 9 = .ok (.ifCond .eq 15, 3) := by decide +kernel
theorem dX4_jars_12 : decode cX4_jars 12 = .ok (.iload_n 2, 1) := by decide +kernel
theorem dX4_jars_13 : decode cX4_jars 13 = .ok (.i2l, 1) := by decide +kernel
theorem dX4_jars_14 : decode cX4_jars 14 = .ok (.lconst 0, 1) := by decide +kernel
theorem dX4_jars_15 : decode cX4_jars 15 = .ok (.ldc2_w 240, 3) := by decide +kernel
theorem dX4_jars_18 : decode cX4_jars 18 = .ok (.invokestatic 58, 3) := by decide +kernel
theorem dX4_jars_21 : decode cX4_jars 21 = .ok (.ifCond .ne 10, 3) := by decide +kernel
theorem dX4_jars_24 : decode cX4_jars 24 = .ok (.aload_n 0, 1) := by decide +kernel
theorem dX4_jars_25 : decode cX4_jars 25 = .ok (.bipush (-2), 2) := by decide +kernel
theorem dX4_jars_27 : decode cX4_jars 27 = .ok (.invokevirtual 91, 3) := by decide +kernel
theorem dX4_jars_30 : decode cX4_jars 30 = .ok (.ireturn, 1) := by decide +kernel
theorem dX4_jars_31 : decode cX4_jars 31 = .ok (.iload_n 1, 1) := by decide +kernel
theorem dX4_jars_32 : decode cX4_jars 32 = .ok (.i2l, 1) := by decide +kernel
theorem dX4_jars_33 : decode cX4_jars 33 = .ok (.lstore_n 3, 1) := by decide +kernel
theorem dX4_jars_34 : decode cX4_jars 34 = .ok (.iconst 0, 1) := by decide +kernel
theorem dX4_jars_35 : decode cX4_jars 35 = .ok (.istore 5, 2) := by decide +kernel
theorem dX4_jars_37 : decode cX4_jars 37 = .ok (.iconst 0, 1) := by decide +kernel
theorem dX4_jars_38 : decode cX4_jars 38 = .ok (.istore 6, 2) := by decide +kernel
theorem dX4_jars_40 : decode cX4_jars 40 = .ok (.iload 6, 2) := by decide +kernel
theorem dX4_jars_42 : decode cX4_jars 42 = .ok (.iload_n 2, 1) := by decide +kernel
theorem dX4_jars_43 : decode cX4_jars 43 = .ok (.if_icmp .ge 83, 3) := by decide +kernel
theorem dX4_jars_46 : decode cX4_jars 46 = .ok (.aload_n 0, 1) := by decide +kernel
theorem dX4_jars_47 : decode cX4_jars 47 = .ok (.invokevirtual 136, 3) := by decide +kernel
theorem dX4_jars_50 : decode cX4_jars 50 = .ok (.iconst 0, 1) := by decide +kernel
theorem dX4_jars_51 : decode cX4_jars 51 = .ok (.istore 7, 2) := by decide +kernel
theorem dX4_jars_53 : decode cX4_jars 53 = .ok (.iload 7, 2) := by decide +kernel
theorem dX4_jars_55 : decode cX4_jars 55 = .ok (.bipush 20, 2) := by decide +kernel
theorem dX4_jars_57 : decode cX4_jars 57 = .ok (.if_icmp .ge 45, 3) := by decide +kernel
theorem dX4_jars_60 : decode cX4_jars 60 = .ok (.aload_n 0, 1) := by decide +kernel
theorem dX4_jars_61 : decode cX4_jars 61 = .ok (.getfield 76, 3) := by decide +kernel
theorem dX4_jars_64 : decode cX4_jars 64 = .ok (.ifCond .ne 38, 3) := by decide +kernel
theorem dX4_jars_67 : decode cX4_jars 67 = .ok (.lload_n 3, 1) := by decide +kernel
theorem dX4_jars_68 : decode cX4_jars 68 = .ok (.ldc2_w 242, 3) := by decide +kernel
theorem dX4_jars_71 : decode cX4_jars 71 = .ok (.lmul, 1) := by decide +kernel
theorem dX4_jars_72 : decode cX4_jars 72 = .ok (.ldc2_w 244, 3) := by decide +kernel
theorem dX4_jars_75 : decode cX4_jars 75 = .ok (.ladd, 1) := by decide +kernel
theorem dX4_jars_76 : decode cX4_jars 76 = .ok (.ldc2_w 246, 3) := by decide +kernel
theorem dX4_jars_79 : decode cX4_jars 79 = .ok (.lrem, 1) := by decide +kernel
theorem dX4_jars_80 : decode cX4_jars 80 = .ok (.lstore_n 3, 1) := by decide +kernel
theorem dX4_jars_81 : decode cX4_jars 81 = .ok (.aload_n 0, 1) := by decide +kernel
theorem dX4_jars_82 : decode cX4_jars 82 = .ok (.lload_n 3, 1) := by decide +kernel
theorem dX4_jars_83 : decode cX4_jars 83 = .ok (.ldc2_w 248, 3) := by decide +kernel
theorem dX4_jars_86 : decode cX4_jars 86 = .ok (.ldiv, 1) := by decide +kernel
theorem dX4_jars_87 : decode cX4_jars 87 = .ok (.ldc2_w 171, 3) := by decide +kernel
theorem dX4_jars_90 : decode cX4_jars 90 = .ok (.lrem, 1) := by decide +kernel
theorem dX4_jars_91 : decode cX4_jars 91 = .ok (.l2i, 1) := by decide +kernel
theorem dX4_jars_92 : decode cX4_jars 92 = .ok (.iconst 1, 1) := by decide +kernel
theorem dX4_jars_93 : decode cX4_jars 93 = .ok (.invokevirtual 139, 3) := by decide +kernel
theorem dX4_jars_96 : decode cX4_jars 96 = .ok (.iinc 7 1, 3) := by decide +kernel
theorem dX4_jars_99 : decode cX4_jars 99 = .ok (.goto (-46), 3) := by decide +kernel
theorem dX4_jars_102 : decode cX4_jars 102 = .ok (.iload 5, 2) := by decide +kernel
theorem dX4_jars_104 : decode cX4_jars 104 = .ok (.aload_n 0, 1) := by decide +kernel
theorem dX4_jars_105 : decode cX4_jars 105 = .ok (.getfield 76, 3) := by decide +kernel
theorem dX4_jars_108 : decode cX4_jars 108 = .ok (.iconst 1, 1) := by decide +kernel
theorem dX4_jars_109 : decode cX4_jars 109 = .ok (.if_icmp .ne 7, 3) := by decide +kernel
theorem dX4_jars_112 : decode cX4_jars 112 = .ok (.iconst 1, 1) := by decide +kernel
theorem dX4_jars_113 : decode cX4_jars 113 = .ok (.goto 4, 3) := by decide +kernel
theorem dX4_jars_116 : decode cX4_jars 116 = .ok (.iconst 0, 1) := by decide +kernel
theorem dX4_jars_117 : decode cX4_jars 117 = .ok (.iadd, 1) := by decide +kernel
theorem dX4_jars_118 : decode cX4_jars 118 = .ok (.istore 5, 2) := by decide +kernel
theorem dX4_jars_120 : decode cX4_jars 120 = .ok (.iinc 6 1, 3) := by decide +kernel
theorem dX4_jars_123 : decode cX4_jars 123 = .ok (.goto (-83), 3) := by decide +kernel
theorem dX4_jars_126 : decode cX4_jars 126 = .ok (.iload 5, 2) := by decide +kernel
theorem dX4_jars_128 : decode cX4_jars 128 = .ok (.ireturn, 1) := by decide +kernel
theorem dX4_part_0 : decode cX4_part 0 = .ok (.iload_n 1, 1) := by decide +kernel
theorem dX4_part_1 : decode cX4_part 1 = .ok (.ifCond .ne 10, 3) := by decide +kernel
theorem dX4_part_4 : decode cX4_part 4 = .ok (.aload_n 0, 1) := by decide +kernel
theorem dX4_part_5 : decode cX4_part 5 = .ok (.getfield 215, 3) := by decide +kernel
theorem dX4_part_8 : decode cX4_part 8 = .ok (.goto 22, 3) := by decide +kernel
theorem dX4_part_11 : decode cX4_part 11 = .ok (.iload_n 1, 1) := by decide +kernel
theorem dX4_part_12 : decode cX4_part 12 = .ok (.iconst 1, 1) := by decide +kernel
theorem dX4_part_13 : decode cX4_part 13 = .ok (.if_icmp .ne 10, 3) := by decide +kernel
theorem dX4_part_16 : decode cX4_part 16 = .ok (.aload_n 0, 1) := by decide +kernel
theorem dX4_part_17 : decode cX4_part 17 = .ok (.getfield 42, 3) := by decide +kernel
theorem dX4_part_20 : decode cX4_part 20 = .ok (.goto 10, 3) := by decide +kernel
theorem dX4_part_23 : decode cX4_part 23 = .ok (.aload_n 0, 1) := by decide +kernel
theorem dX4_part_24 : decode cX4_part 24 = .ok (.bipush (-2), 2) := by decide +kernel
theorem dX4_part_26 : decode cX4_part 26 = .ok (.invokevirtual 91, 3) := by decide +kernel
theorem dX4_part_29 : decode cX4_part 29 = .ok (.i2l, 1) := by decide +kernel
theorem dX4_part_30 : decode cX4_part 30 = .ok (.lreturn, 1) := by decide +kernel
theorem dX4_image_0 : decode cX4_image 0 = .ok (.iload_n 1, 1) := by decide +kernel
theorem dX4_image_1 : decode cX4_image 1 = .ok (.i2l, 1) := by decide +kernel
theorem dX4_image_2 : decode cX4_image 2 = .ok (.lconst 0, 1) := by decide +kernel
theorem dX4_image_3 : decode cX4_image 3 = .ok (.lconst 1, 1) := by decide +kernel
theorem dX4_image_4 : decode cX4_image 4 = .ok (.invokestatic 58, 3) := by decide +kernel
theorem dX4_image_7 : decode cX4_image 7 = .ok (.ifCond .ne 10, 3) := by decide +kernel
theorem dX4_image_10 : decode cX4_image 10 = .ok (.aload_n 0, 1) := by decide +kernel
theorem dX4_image_11 : decode cX4_image 11 = .ok (.bipush (-2), 2) := by decide +kernel
theorem dX4_image_13 : decode cX4_image 13 = .ok (.invokevirtual 91, 3) := by decide +kernel
theorem dX4_image_16 : decode cX4_image 16 = .ok (.ireturn, 1) := by decide +kernel
theorem dX4_image_17 : decode cX4_image 17 = .ok (.iconst 0, 1) := by decide +kernel
theorem dX4_image_18 : decode cX4_image 18 = .ok (.istore_n 2, 1) := by decide +kernel
theorem dX4_image_19 : decode cX4_image 19 = .ok (.iload_n 2, 1) := by decide +kernel
theorem dX4_image_20 : decode cX4_image 20 = .ok (.bipush 73, 2) := by decide +kernel
theorem dX4_image_22 : decode cX4_image 22 = .ok (.if_icmp .ge 26, 3) := by decide +kernel
theorem dX4_image_25 : decode cX4_image 25 = .ok (.aload_n 0, 1) := by decide +kernel
theorem dX4_image_26 : decode cX4_image 26 = .ok (.getfield 46, 3) := by decide +kernel
theorem dX4_image_29 : decode cX4_image 29 = .ok (.bipush 73, 2) := by decide +kernel
theorem dX4_image_31 : decode cX4_image 31 = .ok (.iload_n 1, 1) := by decide +kernel
theorem dX4_image_32 : decode cX4_image 32 = .ok (.imul, 1) := by decide +kernel
theorem dX4_image_33 : decode cX4_image 33 = .ok (.iload_n 2, 1) := by decide +kernel
theorem dX4_image_34 : decode cX4_image 34 = .ok (.iadd, 1) := by decide +kernel
theorem dX4_image_35 : decode cX4_image 35 = .ok (.aload_n 0, 1) := by decide +kernel
theorem dX4_image_36 : decode cX4_image 36 = .ok (.getfield 7, 3) := by decide +kernel
theorem dX4_image_39 : decode cX4_image 39 = .ok (.iload_n 2, 1) := by decide +kernel
theorem dX4_image_40 : decode cX4_image 40 = .ok (.iaload, 1) := by decide +kernel
theorem dX4_image_41 : decode cX4_image 41 = .ok (.iastore, 1) := by decide +kernel
theorem dX4_image_42 : decode cX4_image 42 = .ok (.iinc 2 1, 3) := by decide +kernel
theorem dX4_image_45 : decode cX4_image 45 = .ok (.goto (-26), 3) := by decide +kernel
theorem dX4_image_48 : decode cX4_image 48 = .ok (.aload_n 0, 1) := by decide +kernel
theorem dX4_image_49 : decode cX4_image 49 = .ok (.getfield 49, 3) := by decide +kernel
theorem dX4_image_52 : decode cX4_image 52 = .ok (.iload_n 1, 1) := by decide +kernel
theorem dX4_image_53 : decode cX4_image 53 = .ok (.iconst 1, 1) := by decide +kernel
theorem dX4_image_54 : decode cX4_image 54 = .ok (.bastore, 1) := by decide +kernel
theorem dX4_image_55 : decode cX4_image 55 = .ok (.iconst 1, 1) := by decide +kernel
theorem dX4_image_56 : decode cX4_image 56 = .ok (.ireturn, 1) := by decide +kernel
theorem dX4_from_0 : decode cX4_from 0 = .ok (.iload_n 1, 1) := by decide +kernel
theorem dX4_from_1 : decode cX4_from 1 = .ok (.i2l, 1) := by decide +kernel
theorem dX4_from_2 : decode cX4_from 2 = .ok (.lconst 0, 1) := by decide +kernel
theorem dX4_from_3 : decode cX4_from 3 = .ok (.lconst 1, 1) := by decide +kernel
theorem dX4_from_4 : decode cX4_from 4 = .ok (.invokestatic 58, 3) := by decide +kernel
theorem dX4_from_7 : decode cX4_from 7 = .ok (.ifCond .ne 10, 3) := by decide +kernel
theorem dX4_from_10 : decode cX4_from 10 = .ok (.aload_n 0, 1) := by decide +kernel
theorem dX4_from_11 : decode cX4_from 11 = .ok (.bipush (-2), 2) := by decide +kernel
theorem dX4_from_13 : decode cX4_from 13 = .ok (.invokevirtual 91, 3) := by decide +kernel
theorem dX4_from_16 : decode cX4_from 16 = .ok (.ireturn, 1) := by decide +kernel
theorem dX4_from_17 : decode cX4_from 17 = .ok (.aload_n 0, 1) := by decide +kernel
theorem dX4_from_18 : decode cX4_from 18 = .ok (.getfield 49, 3) := by decide +kernel
theorem dX4_from_21 : decode cX4_from 21 = .ok (.iload_n 1, 1) := by decide +kernel
theorem dX4_from_22 : decode cX4_from 22 = .ok (.baload, 1) := by decide +kernel
theorem dX4_from_23 : decode cX4_from 23 = .ok (.ifCond .ne 10, 3) := by decide +kernel
theorem dX4_from_26 : decode cX4_from 26 = .ok (.aload_n 0, 1) := by decide +kernel
theorem dX4_from_27 : decode cX4_from 27 = .ok (.bipush (-3), 2) := by decide +kernel
theorem dX4_from_29 : decode cX4_from 29 = .ok (.invokevirtual 91, 3) := by decide +kernel
theorem dX4_from_32 : decode cX4_from 32 = .ok (.ireturn, 1) := by decide +kernel
theorem dX4_from_33 : decode cX4_from 33 = .ok (.iconst 0, 1) := by decide +kernel
theorem dX4_from_34 : decode cX4_from 34 = .ok (.istore_n 2, 1) := by decide +kernel
theorem dX4_from_35 : decode cX4_from 35 = .ok (.iload_n 2, 1) := by decide +kernel
theorem dX4_from_36 : decode cX4_from 36 = .ok (.bipush 73, 2) := by decide +kernel
theorem dX4_from_38 : decode cX4_from 38 = .ok (.if_icmp .ge 26, 3) := by decide +kernel
theorem dX4_from_41 : decode cX4_from 41 = .ok (.aload_n 0, 1) := by decide +kernel
theorem dX4_from_42 : decode cX4_from 42 = .ok (.getfield 7, 3) := by decide +kernel
theorem dX4_from_45 : decode cX4_from 45 = .ok (.iload_n 2, 1) := by decide +kernel
theorem dX4_from_46 : decode cX4_from 46 = .ok (.aload_n 0, 1) := by decide +kernel
theorem dX4_from_47 : decode cX4_from 47 = .ok (.getfield 46, 3) := by decide +kernel
theorem dX4_from_50 : decode cX4_from 50 = .ok (.bipush 73, 2) := by decide +kernel
theorem dX4_from_52 : decode cX4_from 52 = .ok (.iload_n 1, 1) := by decide +kernel
theorem dX4_from_53 : decode cX4_from 53 = .ok (.imul, 1) := by decide +kernel
theorem dX4_from_54 : decode cX4_from 54 = .ok (.iload_n 2, 1) := by decide +kernel
theorem dX4_from_55 : decode cX4_from 55 = .ok (.iadd, 1) := by decide +kernel
theorem dX4_from_56 : decode cX4_from 56 = .ok (.iaload, 1) := by decide +kernel
theorem dX4_from_57 : decode cX4_from 57 = .ok (.iastore, 1) := by decide +kernel
theorem dX4_from_58 : decode cX4_from 58 = .ok (.iinc 2 1, 3) := by decide +kernel
theorem dX4_from_61 : decode cX4_from 61 = .ok (.goto (-26), 3) := by decide +kernel
theorem dX4_from_64 : decode cX4_from 64 = .ok (.iconst 1, 1) := by decide +kernel
theorem dX4_from_65 : decode cX4_from 65 = .ok (.ireturn, 1) := by decide +kernel
theorem dX4_countOf_0 : decode cX4_countOf 0 = .ok (.iload_n 1, 1) := by decide +kernel
theorem dX4_countOf_1 : decode cX4_countOf 1 = .ok (.tableswitch 50 0 2 #[27, 34, 42], 27) := by decide +kernel
theorem dX4_countOf_28 : decode cX4_countOf 28 = .ok (.aload_n 0, 1) := by decide +kernel
theorem dX4_countOf_29 : decode cX4_countOf 29 = .ok (.getfield 7, 3) := by decide +kernel
theorem dX4_countOf_32 : decode cX4_countOf 32 = .ok (.iconst 5, 1) := by decide +kernel
theorem dX4_countOf_33 : decode cX4_countOf 33 = .ok (.iaload, 1) := by decide +kernel
theorem dX4_countOf_34 : decode cX4_countOf 34 = .ok (.ireturn, 1) := by decide +kernel
theorem dX4_countOf_35 : decode cX4_countOf 35 = .ok (.aload_n 0, 1) := by decide +kernel
theorem dX4_countOf_36 : decode cX4_countOf 36 = .ok (.getfield 7, 3) := by decide +kernel
theorem dX4_countOf_39 : decode cX4_countOf 39 = .ok (.bipush 15, 2) := by decide +kernel
theorem dX4_countOf_41 : decode cX4_countOf 41 = .ok (.iaload, 1) := by decide +kernel
theorem dX4_countOf_42 : decode cX4_countOf 42 = .ok (.ireturn, 1) := by decide +kernel
theorem dX4_countOf_43 : decode cX4_countOf 43 = .ok (.aload_n 0, 1) := by decide +kernel
theorem dX4_countOf_44 : decode cX4_countOf 44 = .ok (.getfield 7, 3) := by decide +kernel
theorem dX4_countOf_47 : decode cX4_countOf 47 = .ok (.bipush 40, 2) := by decide +kernel
theorem dX4_countOf_49 : decode cX4_countOf 49 = .ok (.iaload, 1) := by decide +kernel
theorem dX4_countOf_50 : decode cX4_countOf 50 = .ok (.ireturn, 1) := by decide +kernel
theorem dX4_countOf_51 : decode cX4_countOf 51 = .ok (.aload_n 0, 1) := by decide +kernel
theorem dX4_countOf_52 : decode cX4_countOf 52 = .ok (.getfield 102, 3) := by decide +kernel
theorem dX4_countOf_55 : decode cX4_countOf 55 = .ok (.ireturn, 1) := by decide +kernel
theorem dX4_count_0 : decode cX4_count 0 = .ok (.iload_n 1, 1) := by decide +kernel
theorem dX4_count_1 : decode cX4_count 1 = .ok (.i2l, 1) := by decide +kernel
theorem dX4_count_2 : decode cX4_count 2 = .ok (.lconst 0, 1) := by decide +kernel
theorem dX4_count_3 : decode cX4_count 3 = .ok (.ldc2_w 180, 3) := by decide +kernel
theorem dX4_count_6 : decode cX4_count 6 = .ok (.invokestatic 58, 3) := by decide +kernel
theorem dX4_count_9 : decode cX4_count 9 = .ok (.ifCond .eq 11, 3) := by decide +kernel
theorem dX4_count_12 : decode cX4_count 12 = .ok (.aload_n 0, 1) := by decide +kernel
theorem dX4_count_13 : decode cX4_count 13 = .ok (.iload_n 1, 1) := by decide +kernel
theorem dX4_count_14 : decode cX4_count 14 = .ok (.invokevirtual 250, 3) := by decide +kernel
theorem dX4_count_17 : decode cX4_count 17 = .ok (.goto 9, 3) := by decide +kernel
theorem dX4_count_20 : decode cX4_count 20 = .ok (.aload_n 0, 1) := by decide +kernel
theorem dX4_count_21 : decode cX4_count 21 = .ok (.bipush (-2), 2) := by decide +kernel
theorem dX4_count_23 : decode cX4_count 23 = .ok (.invokevirtual 91, 3) := by decide +kernel
theorem dX4_count_26 : decode cX4_count 26 = .ok (.ireturn, 1) := by decide +kernel
theorem dX4_digest_0 : decode cX4_digest 0 = .ok (.ldc2_w 253, 3) := by decide +kernel
theorem dX4_digest_3 : decode cX4_digest 3 = .ok (.lstore_n 1, 1) := by decide +kernel
theorem dX4_digest_4 : decode cX4_digest 4 = .ok (.iconst 0, 1) := by decide +kernel
theorem dX4_digest_5 : decode cX4_digest 5 = .ok (.istore_n 3, 1) := by decide +kernel
theorem dX4_digest_6 : decode cX4_digest 6 = .ok (.iload_n 3, 1) := by decide +kernel
theorem dX4_digest_7 : decode cX4_digest 7 = .ok (.iconst 4, 1) := by decide +kernel
theorem dX4_digest_8 : decode cX4_digest 8 = .ok (.if_icmp .ge 22, 3) := by decide +kernel
theorem dX4_digest_11 : decode cX4_digest 11 = .ok (.ldc2_w 255, 3) := by decide +kernel
theorem dX4_digest_14 : decode cX4_digest 14 = .ok (.lload_n 1, 1) := by decide +kernel
theorem dX4_digest_15 : decode cX4_digest 15 = .ok (.lmul, 1) := by decide +kernel
theorem dX4_digest_16 : decode cX4_digest 16 = .ok (.aload_n 0, 1) := by decide +kernel
theorem dX4_digest_17 : decode cX4_digest 17 = .ok (.iload_n 3, 1) := by decide +kernel
theorem dX4_digest_18 : decode cX4_digest 18 = .ok (.invokevirtual 250, 3) := by decide +kernel
theorem dX4_digest_21 : decode cX4_digest 21 = .ok (.i2l, 1) := by decide +kernel
theorem dX4_digest_22 : decode cX4_digest 22 = .ok (.ladd, 1) := by decide +kernel
theorem dX4_digest_23 : decode cX4_digest 23 = .ok (.lstore_n 1, 1) := by decide +kernel
theorem dX4_digest_24 : decode cX4_digest 24 = .ok (.iinc 3 1, 3) := by decide +kernel
theorem dX4_digest_27 : decode cX4_digest 27 = .ok (.goto (-21), 3) := by decide +kernel
theorem dX4_digest_30 : decode cX4_digest 30 = .ok (.iconst 0, 1) := by decide +kernel
theorem dX4_digest_31 : decode cX4_digest 31 = .ok (.istore_n 3, 1) := by decide +kernel
theorem dX4_digest_32 : decode cX4_digest 32 = .ok (.iload_n 3, 1) := by decide +kernel
theorem dX4_digest_33 : decode cX4_digest 33 = .ok (.bipush 7, 2) := by decide +kernel
theorem dX4_digest_35 : decode cX4_digest 35 = .ok (.if_icmp .ge 32, 3) := by decide +kernel
theorem dX4_digest_38 : decode cX4_digest 38 = .ok (.iload_n 3, 1) := by decide +kernel
theorem dX4_digest_39 : decode cX4_digest 39 = .ok (.iconst 5, 1) := by decide +kernel
theorem dX4_digest_40 : decode cX4_digest 40 = .ok (.if_icmp .ne 7, 3) := by decide +kernel
theorem dX4_digest_43 : decode cX4_digest 43 = .ok (.lload_n 1, 1) := by decide +kernel
theorem dX4_digest_44 : decode cX4_digest 44 = .ok (.goto 16, 3) := by decide +kernel
theorem dX4_digest_47 : decode cX4_digest 47 = .ok (.ldc2_w 255, 3) := by decide +kernel
theorem dX4_digest_50 : decode cX4_digest 50 = .ok (.lload_n 1, 1) := by decide +kernel
theorem dX4_digest_51 : decode cX4_digest 51 = .ok (.lmul, 1) := by decide +kernel
theorem dX4_digest_52 : decode cX4_digest 52 = .ok (.aload_n 0, 1) := by decide +kernel
theorem dX4_digest_53 : decode cX4_digest 53 = .ok (.getfield 7, 3) := by decide +kernel
theorem dX4_digest_56 : decode cX4_digest 56 = .ok (.iload_n 3, 1) := by decide +kernel
theorem dX4_digest_57 : decode cX4_digest 57 = .ok (.iaload, 1) := by decide +kernel
theorem dX4_digest_58 : decode cX4_digest 58 = .ok (.i2l, 1) := by decide +kernel
theorem dX4_digest_59 : decode cX4_digest 59 = .ok (.ladd, 1) := by decide +kernel
theorem dX4_digest_60 : decode cX4_digest 60 = .ok (.lstore_n 1, 1) := by decide +kernel
theorem dX4_digest_61 : decode cX4_digest 61 = .ok (.iinc 3 1, 3) := by decide +kernel
theorem dX4_digest_64 : decode cX4_digest 64 = .ok (.goto (-32), 3) := by decide +kernel
theorem dX4_digest_67 : decode cX4_digest 67 = .ok (.iconst 0, 1) := by decide +kernel
theorem dX4_digest_68 : decode cX4_digest 68 = .ok (.istore_n 3, 1) := by decide +kernel
theorem dX4_digest_69 : decode cX4_digest 69 = .ok (.iload_n 3, 1) := by decide +kernel
theorem dX4_digest_70 : decode cX4_digest 70 = .ok (.bipush 8, 2) := by decide +kernel
theorem dX4_digest_72 : decode cX4_digest 72 = .ok (.if_icmp .ge 26, 3) := by decide +kernel
theorem dX4_digest_75 : decode cX4_digest 75 = .ok (.ldc2_w 255, 3) := by decide +kernel
theorem dX4_digest_78 : decode cX4_digest 78 = .ok (.lload_n 1, 1) := by decide +kernel
theorem dX4_digest_79 : decode cX4_digest 79 = .ok (.lmul, 1) := by decide +kernel
theorem dX4_digest_80 : decode cX4_digest 80 = .ok (.aload_n 0, 1) := by decide +kernel
theorem dX4_digest_81 : decode cX4_digest 81 = .ok (.getfield 7, 3) := by decide +kernel
theorem dX4_digest_84 : decode cX4_digest 84 = .ok (.bipush 7, 2) := by decide +kernel
theorem dX4_digest_86 : decode cX4_digest 86 = .ok (.iload_n 3, 1) := by decide +kernel
theorem dX4_digest_87 : decode cX4_digest 87 = .ok (.iadd, 1) := by decide +kernel
theorem dX4_digest_88 : decode cX4_digest 88 = .ok (.iaload, 1) := by decide +kernel
theorem dX4_digest_89 : decode cX4_digest 89 = .ok (.i2l, 1) := by decide +kernel
theorem dX4_digest_90 : decode cX4_digest 90 = .ok (.ladd, 1) := by decide +kernel
theorem dX4_digest_91 : decode cX4_digest 91 = .ok (.lstore_n 1, 1) := by decide +kernel
theorem dX4_digest_92 : decode cX4_digest 92 = .ok (.iinc 3 1, 3) := by decide +kernel
theorem dX4_digest_95 : decode cX4_digest 95 = .ok (.goto (-26), 3) := by decide +kernel
theorem dX4_digest_98 : decode cX4_digest 98 = .ok (.iconst 0, 1) := by decide +kernel
theorem dX4_digest_99 : decode cX4_digest 99 = .ok (.istore_n 3, 1) := by decide +kernel
theorem dX4_digest_100 : decode cX4_digest 100 = .ok (.iload_n 3, 1) := by decide +kernel
theorem dX4_digest_101 : decode cX4_digest 101 = .ok (.iconst 4, 1) := by decide +kernel
theorem dX4_digest_102 : decode cX4_digest 102 = .ok (.aload_n 0, 1) := by decide +kernel
theorem dX4_digest_103 : decode cX4_digest 103 = .ok (.getfield 7, 3) := by decide +kernel
theorem dX4_digest_106 : decode cX4_digest 106 = .ok (.bipush 15, 2) := by decide +kernel
theorem dX4_digest_108 : decode cX4_digest 108 = .ok (.iaload, 1) := by decide +kernel
theorem dX4_digest_109 : decode cX4_digest 109 = .ok (.imul, 1) := by decide +kernel
theorem dX4_digest_110 : decode cX4_digest 110 = .ok (.if_icmp .ge 26, 3) := by decide +kernel
theorem dX4_digest_113 : decode cX4_digest 113 = .ok (.ldc2_w 255, 3) := by decide +kernel
theorem dX4_digest_116 : decode cX4_digest 116 = .ok (.lload_n 1, 1) := by decide +kernel
theorem dX4_digest_117 : decode cX4_digest 117 = .ok (.lmul, 1) := by decide +kernel
theorem dX4_digest_118 : decode cX4_digest 118 = .ok (.aload_n 0, 1) := by decide +kernel
theorem dX4_digest_119 : decode cX4_digest 119 = .ok (.getfield 7, 3) := by decide +kernel
theorem dX4_digest_122 : decode cX4_digest 122 = .ok (.bipush 16, 2) := by decide +kernel
theorem dX4_digest_124 : decode cX4_digest 124 = .ok (.iload_n 3, 1) := by decide +kernel
theorem dX4_digest_125 : decode cX4_digest 125 = .ok (.iadd, 1) := by decide +kernel
theorem dX4_digest_126 : decode cX4_digest 126 = .ok (.iaload, 1) := by decide +kernel
theorem dX4_digest_127 : decode cX4_digest 127 = .ok (.i2l, 1) := by decide +kernel
theorem dX4_digest_128 : decode cX4_digest 128 = .ok (.ladd, 1) := by decide +kernel
theorem dX4_digest_129 : decode cX4_digest 129 = .ok (.lstore_n 1, 1) := by decide +kernel
theorem dX4_digest_130 : decode cX4_digest 130 = .ok (.iinc 3 1, 3) := by decide +kernel
theorem dX4_digest_133 : decode cX4_digest 133 = .ok (.goto (-33), 3) := by decide +kernel
theorem dX4_digest_136 : decode cX4_digest 136 = .ok (.ldc2_w 255, 3) := by decide +kernel
theorem dX4_digest_139 : decode cX4_digest 139 = .ok (.lload_n 1, 1) := by decide +kernel
theorem dX4_digest_140 : decode cX4_digest 140 = .ok (.lmul, 1) := by decide +kernel
theorem dX4_digest_141 : decode cX4_digest 141 = .ok (.aload_n 0, 1) := by decide +kernel
theorem dX4_digest_142 : decode cX4_digest 142 = .ok (.getfield 215, 3) := by decide +kernel
theorem dX4_digest_145 : decode cX4_digest 145 = .ok (.ladd, 1) := by decide +kernel
theorem dX4_digest_146 : decode cX4_digest 146 = .ok (.lstore_n 1, 1) := by decide +kernel
theorem dX4_digest_147 : decode cX4_digest 147 = .ok (.ldc2_w 255, 3) := by decide +kernel
theorem dX4_digest_150 : decode cX4_digest 150 = .ok (.lload_n 1, 1) := by decide +kernel
theorem dX4_digest_151 : decode cX4_digest 151 = .ok (.lmul, 1) := by decide +kernel
theorem dX4_digest_152 : decode cX4_digest 152 = .ok (.aload_n 0, 1) := by decide +kernel
theorem dX4_digest_153 : decode cX4_digest 153 = .ok (.getfield 42, 3) := by decide +kernel
theorem dX4_digest_156 : decode cX4_digest 156 = .ok (.ladd, 1) := by decide +kernel
theorem dX4_digest_157 : decode cX4_digest 157 = .ok (.lreturn, 1) := by decide +kernel
