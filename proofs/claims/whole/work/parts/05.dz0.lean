theorem dX4_init_0 : decode cX4_init 0 = .ok (.aload_n 0, 1) := by decide +kernel
theorem dX4_init_1 : decode cX4_init 1 = .ok (.invokespecial 1, 3) := by decide +kernel
theorem dX4_init_4 : decode cX4_init 4 = .ok (.aload_n 0, 1) := by decide +kernel
theorem dX4_init_5 : decode cX4_init 5 = .ok (.bipush 73, 2) := by decide +kernel
theorem dX4_init_7 : decode cX4_init 7 = .ok (.newarray .int, 2) := by decide +kernel
theorem dX4_init_9 : decode cX4_init 9 = .ok (.putfield 7, 3) := by decide +kernel
theorem dX4_init_12 : decode cX4_init 12 = .ok (.aload_n 0, 1) := by decide +kernel
theorem dX4_init_13 : decode cX4_init 13 = .ok (.bipush 6, 2) := by decide +kernel
theorem dX4_init_15 : decode cX4_init 15 = .ok (.newarray .int, 2) := by decide +kernel
theorem dX4_init_17 : decode cX4_init 17 = .ok (.putfield 13, 3) := by decide +kernel
theorem dX4_init_20 : decode cX4_init 20 = .ok (.aload_n 0, 1) := by decide +kernel
theorem dX4_init_21 : decode cX4_init 21 = .ok (.bipush 6, 2) := by decide +kernel
theorem dX4_init_23 : decode cX4_init 23 = .ok (.newarray .int, 2) := by decide +kernel
theorem dX4_init_25 : decode cX4_init 25 = .ok (.putfield 16, 3) := by decide +kernel
theorem dX4_init_28 : decode cX4_init 28 = .ok (.aload_n 0, 1) := by decide +kernel
theorem dX4_init_29 : decode cX4_init 29 = .ok (.iconst 3, 1) := by decide +kernel
theorem dX4_init_30 : decode cX4_init 30 = .ok (.newarray .int, 2) := by decide +kernel
theorem dX4_init_32 : decode cX4_init 32 = .ok (.putfield 19, 3) := by decide +kernel
theorem dX4_init_35 : decode cX4_init 35 = .ok (.aload_n 0, 1) := by decide +kernel
theorem dX4_init_36 : decode cX4_init 36 = .ok (.sipush 150, 3) := by decide +kernel
theorem dX4_init_39 : decode cX4_init 39 = .ok (.newarray .int, 2) := by decide +kernel
theorem dX4_init_41 : decode cX4_init 41 = .ok (.putfield 22, 3) := by decide +kernel
theorem dX4_init_44 : decode cX4_init 44 = .ok (.aload_n 0, 1) := by decide +kernel
theorem dX4_init_45 : decode cX4_init 45 = .ok (.bipush 73, 2) := by decide +kernel
theorem dX4_init_47 : decode cX4_init 47 = .ok (.newarray .int, 2) := by decide +kernel
theorem dX4_init_49 : decode cX4_init 49 = .ok (.putfield 25, 3) := by decide +kernel
theorem dX4_init_52 : decode cX4_init 52 = .ok (.aload_n 0, 1) := by decide +kernel
theorem dX4_init_53 : decode cX4_init 53 = .ok (.bipush 9, 2) := by decide +kernel
theorem dX4_init_55 : decode cX4_init 55 = .ok (.newarray .int, 2) := by decide +kernel
theorem dX4_init_57 : decode cX4_init 57 = .ok (.putfield 28, 3) := by decide +kernel
theorem dX4_init_60 : decode cX4_init 60 = .ok (.aload_n 0, 1) := by decide +kernel
theorem dX4_init_61 : decode cX4_init 61 = .ok (.sipush 20000, 3) := by decide +kernel
theorem dX4_init_64 : decode cX4_init 64 = .ok (.newarray .int, 2) := by decide +kernel
theorem dX4_init_66 : decode cX4_init 66 = .ok (.putfield 31, 3) := by decide +kernel
theorem dX4_init_69 : decode cX4_init 69 = .ok (.aload_n 0, 1) := by decide +kernel
theorem dX4_init_70 : decode cX4_init 70 = .ok (.ldc 34, 2) := by decide +kernel
theorem dX4_init_72 : decode cX4_init 72 = .ok (.newarray .boolean, 2) := by decide +kernel
theorem dX4_init_74 : decode cX4_init 74 = .ok (.putfield 35, 3) := by decide +kernel
theorem dX4_init_77 : decode cX4_init 77 = .ok (.aload_n 0, 1) := by decide +kernel
theorem dX4_init_78 : decode cX4_init 78 = .ok (.bipush 12, 2) := by decide +kernel
theorem dX4_init_80 : decode cX4_init 80 = .ok (.newarray .int, 2) := by decide +kernel
theorem dX4_init_82 : decode cX4_init 82 = .ok (.putfield 39, 3) := by decide +kernel
theorem dX4_init_85 : decode cX4_init 85 = .ok (.aload_n 0, 1) := by decide +kernel
theorem dX4_init_86 : decode cX4_init 86 = .ok (.lconst 1, 1) := by decide +kernel
theorem dX4_init_87 : decode cX4_init 87 = .ok (.putfield 42, 3) := by decide +kernel
theorem dX4_init_90 : decode cX4_init 90 = .ok (.aload_n 0, 1) := by decide +kernel
theorem dX4_init_91 : decode cX4_init 91 = .ok (.sipush 146, 3) := by decide +kernel
theorem dX4_init_94 : decode cX4_init 94 = .ok (.newarray .int, 2) := by decide +kernel
theorem dX4_init_96 : decode cX4_init 96 = .ok (.putfield 46, 3) := by decide +kernel
theorem dX4_init_99 : decode cX4_init 99 = .ok (.aload_n 0, 1) := by decide +kernel
theorem dX4_init_100 : decode cX4_init 100 = .ok (.iconst 2, 1) := by decide +kernel
theorem dX4_init_101 : decode cX4_init 101 = .ok (.newarray .boolean, 2) := by decide +kernel
theorem dX4_init_103 : decode cX4_init 103 = .ok (.putfield 49, 3) := by decide +kernel
theorem dX4_init_106 : decode cX4_init 106 = .ok (.aload_n 0, 1) := by decide +kernel
theorem dX4_init_107 : decode cX4_init 107 = .ok (.getfield 13, 3) := by decide +kernel
theorem dX4_init_110 : decode cX4_init 110 = .ok (.iconst 0, 1) := by decide +kernel
theorem dX4_init_111 : decode cX4_init 111 = .ok (.iconst (-1), 1) := by decide +kernel
theorem dX4_init_112 : decode cX4_init 112 = .ok (.iastore, 1) := by decide +kernel
theorem dX4_init_113 : decode cX4_init 113 = .ok (.aload_n 0, 1) := by decide +kernel
theorem dX4_init_114 : decode cX4_init 114 = .ok (.getfield 13, 3) := by decide +kernel
theorem dX4_init_117 : decode cX4_init 117 = .ok (.iconst 1, 1) := by decide +kernel
theorem dX4_init_118 : decode cX4_init 118 = .ok (.iconst 1, 1) := by decide +kernel
theorem dX4_init_119 : decode cX4_init 119 = .ok (.iastore, 1) := by decide +kernel
theorem dX4_init_120 : decode cX4_init 120 = .ok (.aload_n 0, 1) := by decide +kernel
theorem dX4_init_121 : decode cX4_init 121 = .ok (.getfield 13, 3) := by decide +kernel
theorem dX4_init_124 : decode cX4_init 124 = .ok (.iconst 3, 1) := by decide +kernel
theorem dX4_init_125 : decode cX4_init 125 = .ok (.bipush (-2), 2) := by decide +kernel
theorem dX4_init_127 : decode cX4_init 127 = .ok (.iastore, 1) := by decide +kernel
theorem dX4_init_128 : decode cX4_init 128 = .ok (.aload_n 0, 1) := by decide +kernel
theorem dX4_init_129 : decode cX4_init 129 = .ok (.getfield 13, 3) := by decide +kernel
theorem dX4_init_132 : decode cX4_init 132 = .ok (.iconst 4, 1) := by decide +kernel
theorem dX4_init_133 : decode cX4_init 133 = .ok (.bipush (-3), 2) := by decide +kernel
theorem dX4_init_135 : decode cX4_init 135 = .ok (.iastore, 1) := by decide +kernel
theorem dX4_init_136 : decode cX4_init 136 = .ok (.aload_n 0, 1) := by decide +kernel
theorem dX4_init_137 : decode cX4_init 137 = .ok (.getfield 13, 3) := by decide +kernel
theorem dX4_init_140 : decode cX4_init 140 = .ok (.iconst 5, 1) := by decide +kernel
theorem dX4_init_141 : decode cX4_init 141 = .ok (.iconst 2, 1) := by decide +kernel
theorem dX4_init_142 : decode cX4_init 142 = .ok (.iastore, 1) := by decide +kernel
theorem dX4_init_143 : decode cX4_init 143 = .ok (.aload_n 0, 1) := by decide +kernel
theorem dX4_init_144 : decode cX4_init 144 = .ok (.getfield 16, 3) := by decide +kernel
theorem dX4_init_147 : decode cX4_init 147 = .ok (.iconst 1, 1) := by decide +kernel
theorem dX4_init_148 : decode cX4_init 148 = .ok (.iconst 3, 1) := by decide +kernel
theorem dX4_init_149 : decode cX4_init 149 = .ok (.iastore, 1) := by decide +kernel
theorem dX4_init_150 : decode cX4_init 150 = .ok (.aload_n 0, 1) := by decide +kernel
theorem dX4_init_151 : decode cX4_init 151 = .ok (.getfield 16, 3) := by decide +kernel
theorem dX4_init_154 : decode cX4_init 154 = .ok (.iconst 2, 1) := by decide +kernel
theorem dX4_init_155 : decode cX4_init 155 = .ok (.iconst 2, 1) := by decide +kernel
theorem dX4_init_156 : decode cX4_init 156 = .ok (.iastore, 1) := by decide +kernel
theorem dX4_init_157 : decode cX4_init 157 = .ok (.aload_n 0, 1) := by decide +kernel
theorem dX4_init_158 : decode cX4_init 158 = .ok (.getfield 16, 3) := by decide +kernel
theorem dX4_init_161 : decode cX4_init 161 = .ok (.iconst 4, 1) := by decide +kernel
theorem dX4_init_162 : decode cX4_init 162 = .ok (.iconst (-1), 1) := by decide +kernel
theorem dX4_init_163 : decode cX4_init 163 = .ok (.iastore, 1) := by decide +kernel
theorem dX4_init_164 : decode cX4_init 164 = .ok (.aload_n 0, 1) := by decide +kernel
theorem dX4_init_165 : decode cX4_init 165 = .ok (.iconst 0, 1) := by decide +kernel
theorem dX4_init_166 : decode cX4_init 166 = .ok (.invokevirtual 52, 3) := by decide +kernel
theorem dX4_init_169 : decode cX4_init 169 = .ok (.return_, 1) := by decide +kernel
theorem dX4_in_0 : decode cX4_in 0 = .ok (.lload_n 0, 1) := by decide +kernel
theorem dX4_in_1 : decode cX4_in 1 = .ok (.lload_n 2, 1) := by decide +kernel
theorem dX4_in_2 : decode cX4_in 2 = .ok (.lcmp, 1) := by decide +kernel
theorem dX4_in_3 : decode cX4_in 3 = .ok (.ifCond .lt 14, 3) := by decide +kernel
theorem dX4_in_6 : decode cX4_in 6 = .ok (.lload_n 0, 1) := by decide +kernel
theorem dX4_in_7 : decode cX4_in 7 = .ok (.lload 4, 2) := by decide +kernel
theorem dX4_in_9 : decode cX4_in 9 = .ok (.lcmp, 1) := by decide +kernel
theorem dX4_in_10 : decode cX4_in 10 = .ok (.ifCond .gt 7, 3) := by decide +kernel
theorem dX4_in_13 : decode cX4_in 13 = .ok (.iconst 1, 1) := by decide +kernel
theorem dX4_in_14 : decode cX4_in 14 = .ok (.goto 4, 3) := by decide +kernel
theorem dX4_in_17 : decode cX4_in 17 = .ok (.iconst 0, 1) := by decide +kernel
theorem dX4_in_18 : decode cX4_in 18 = .ok (.ireturn, 1) := by decide +kernel
theorem dX4_fresh_0 : decode cX4_fresh 0 = .ok (.iconst 0, 1) := by decide +kernel
theorem dX4_fresh_1 : decode cX4_fresh 1 = .ok (.istore_n 2, 1) := by decide +kernel
theorem dX4_fresh_2 : decode cX4_fresh 2 = .ok (.iload_n 2, 1) := by decide +kernel
theorem dX4_fresh_3 : decode cX4_fresh 3 = .ok (.bipush 73, 2) := by decide +kernel
theorem dX4_fresh_5 : decode cX4_fresh 5 = .ok (.if_icmp .ge 16, 3) := by decide +kernel
theorem dX4_fresh_8 : decode cX4_fresh 8 = .ok (.aload_n 0, 1) := by decide +kernel
theorem dX4_fresh_9 : decode cX4_fresh 9 = .ok (.getfield 7, 3) := by decide +kernel
theorem dX4_fresh_12 : decode cX4_fresh 12 = .ok (.iload_n 2, 1) := by decide +kernel
theorem dX4_fresh_13 : decode cX4_fresh 13 = .ok (.iconst 0, 1) := by decide +kernel
theorem dX4_fresh_14 : decode cX4_fresh 14 = .ok (.iastore, 1) := by decide +kernel
theorem dX4_fresh_15 : decode cX4_fresh 15 = .ok (.iinc 2 1, 3) := by decide +kernel
theorem dX4_fresh_18 : decode cX4_fresh 18 = .ok (.goto (-16), 3) := by decide +kernel
theorem dX4_fresh_21 : decode cX4_fresh 21 = .ok (.aload_n 0, 1) := by decide +kernel
theorem dX4_fresh_22 : decode cX4_fresh 22 = .ok (.getfield 7, 3) := by decide +kernel
theorem dX4_fresh_25 : decode cX4_fresh 25 = .ok (.iconst 0, 1) := by decide +kernel
theorem dX4_fresh_26 : decode cX4_fresh 26 = .ok (.iload_n 1, 1) := by decide +kernel
theorem dX4_fresh_27 : decode cX4_fresh 27 = .ok (.iastore, 1) := by decide +kernel
theorem dX4_fresh_28 : decode cX4_fresh 28 = .ok (.aload_n 0, 1) := by decide +kernel
theorem dX4_fresh_29 : decode cX4_fresh 29 = .ok (.getfield 7, 3) := by decide +kernel
theorem dX4_fresh_32 : decode cX4_fresh 32 = .ok (.iconst 1, 1) := by decide +kernel
theorem dX4_fresh_33 : decode cX4_fresh 33 = .ok (.bipush 20, 2) := by decide +kernel
theorem dX4_fresh_35 : decode cX4_fresh 35 = .ok (.iastore, 1) := by decide +kernel
theorem dX4_fresh_36 : decode cX4_fresh 36 = .ok (.aload_n 0, 1) := by decide +kernel
theorem dX4_fresh_37 : decode cX4_fresh 37 = .ok (.getfield 7, 3) := by decide +kernel
theorem dX4_fresh_40 : decode cX4_fresh 40 = .ok (.iconst 3, 1) := by decide +kernel
theorem dX4_fresh_41 : decode cX4_fresh 41 = .ok (.bipush 40, 2) := by decide +kernel
theorem dX4_fresh_43 : decode cX4_fresh 43 = .ok (.iastore, 1) := by decide +kernel
theorem dX4_fresh_44 : decode cX4_fresh 44 = .ok (.aload_n 0, 1) := by decide +kernel
theorem dX4_fresh_45 : decode cX4_fresh 45 = .ok (.getfield 7, 3) := by decide +kernel
theorem dX4_fresh_48 : decode cX4_fresh 48 = .ok (.iconst 4, 1) := by decide +kernel
theorem dX4_fresh_49 : decode cX4_fresh 49 = .ok (.bipush 9, 2) := by decide +kernel
theorem dX4_fresh_51 : decode cX4_fresh 51 = .ok (.iastore, 1) := by decide +kernel
theorem dX4_fresh_52 : decode cX4_fresh 52 = .ok (.iconst 0, 1) := by decide +kernel
theorem dX4_fresh_53 : decode cX4_fresh 53 = .ok (.istore_n 2, 1) := by decide +kernel
theorem dX4_fresh_54 : decode cX4_fresh 54 = .ok (.iload_n 2, 1) := by decide +kernel
theorem dX4_fresh_55 : decode cX4_fresh 55 = .ok (.bipush 8, 2) := by decide +kernel
theorem dX4_fresh_57 : decode cX4_fresh 57 = .ok (.if_icmp .ge 28, 3) := by decide +kernel
theorem dX4_fresh_60 : decode cX4_fresh 60 = .ok (.aload_n 0, 1) := by decide +kernel
theorem dX4_fresh_61 : decode cX4_fresh 61 = .ok (.getfield 7, 3) := by decide +kernel
theorem dX4_fresh_64 : decode cX4_fresh 64 = .ok (.bipush 7, 2) := by decide +kernel
theorem dX4_fresh_66 : decode cX4_fresh 66 = .ok (.iload_n 2, 1) := by decide +kernel
theorem dX4_fresh_67 : decode cX4_fresh 67 = .ok (.iadd, 1) := by decide +kernel
theorem dX4_fresh_68 : decode cX4_fresh 68 = .ok (.iload_n 2, 1) := by decide +kernel
theorem dX4_fresh_69 : decode cX4_fresh 69 = .ok (.iconst 4, 1) := by decide +kernel
theorem dX4_fresh_70 : decode cX4_fresh 70 = .ok (.if_icmp .ge 7, 3) := by decide +kernel
theorem dX4_fresh_73 : decode cX4_fresh 73 = .ok (.iload_n 2, 1) := by decide +kernel
theorem dX4_fresh_74 : decode cX4_fresh 74 = .ok (.goto 4, 3) := by decide +kernel
theorem dX4_fresh_77 : decode cX4_fresh 77 = .ok (.iconst 4, 1) := by decide +kernel
theorem dX4_fresh_78 : decode cX4_fresh 78 = .ok (.iastore, 1) := by decide +kernel
theorem dX4_fresh_79 : decode cX4_fresh 79 = .ok (.iinc 2 1, 3) := by decide +kernel
theorem dX4_fresh_82 : decode cX4_fresh 82 = .ok (.goto (-28), 3) := by decide +kernel
theorem dX4_fresh_85 : decode cX4_fresh 85 = .ok (.return_, 1) := by decide +kernel
theorem dX4_no_0 : decode cX4_no 0 = .ok (.aload_n 0, 1) := by decide +kernel
theorem dX4_no_1 : decode cX4_no 1 = .ok (.getfield 19, 3) := by decide +kernel
theorem dX4_no_4 : decode cX4_no 4 = .ok (.bipush (-2), 2) := by decide +kernel
theorem dX4_no_6 : decode cX4_no 6 = .ok (.iload_n 1, 1) := by decide +kernel
theorem dX4_no_7 : decode cX4_no 7 = .ok (.isub, 1) := by decide +kernel
theorem dX4_no_8 : decode cX4_no 8 = .ok (.dup2, 1) := by decide +kernel
theorem dX4_no_9 : decode cX4_no 9 = .ok (.iaload, 1) := by decide +kernel
theorem dX4_no_10 : decode cX4_no 10 = .ok (.iconst 1, 1) := by decide +kernel
theorem dX4_no_11 : decode cX4_no 11 = .ok (.iadd, 1) := by decide +kernel
theorem dX4_no_12 : decode cX4_no 12 = .ok (.iastore, 1) := by decide +kernel
theorem dX4_no_13 : decode cX4_no 13 = .ok (.iload_n 1, 1) := by decide +kernel
theorem dX4_no_14 : decode cX4_no 14 = .ok (.ireturn, 1) := by decide +kernel
theorem dX4_noAs_0 : decode cX4_noAs 0 = .ok (.aload_n 0, 1) := by decide +kernel
theorem dX4_noAs_1 : decode cX4_noAs 1 = .ok (.getfield 19, 3) := by decide +kernel
theorem dX4_noAs_4 : decode cX4_noAs 4 = .ok (.iconst 0, 1) := by decide +kernel
theorem dX4_noAs_5 : decode cX4_noAs 5 = .ok (.dup2, 1) := by decide +kernel
theorem dX4_noAs_6 : decode cX4_noAs 6 = .ok (.iaload, 1) := by decide +kernel
theorem dX4_noAs_7 : decode cX4_noAs 7 = .ok (.iconst 1, 1) := by decide +kernel
theorem dX4_noAs_8 : decode cX4_noAs 8 = .ok (.iadd, 1) := by decide +kernel
theorem dX4_noAs_9 : decode cX4_noAs 9 = .ok (.iastore, 1) := by decide +kernel
theorem dX4_noAs_10 : decode cX4_noAs 10 = .ok (.iload_n 1, 1) := by decide +kernel
theorem dX4_noAs_11 : decode cX4_noAs 11 = .ok (.ireturn, 1) := by decide +kernel
theorem dX4_status_0 : decode cX4_status 0 = .ok (.iload_n 1, 1) := by decide +kernel
theorem dX4_status_1 : decode cX4_status 1 = .ok (.i2l, 1) := by decide +kernel
theorem dX4_status_2 : decode cX4_status 2 = .ok (.lconst 0, 1) := by decide +kernel
theorem dX4_status_3 : decode cX4_status 3 = .ok (.ldc2_w 56, 3) := by decide +kernel
theorem dX4_status_6 : decode cX4_status 6 = .ok (.invokestatic 58, 3) := by decide +kernel
theorem dX4_status_9 : decode cX4_status 9 = .ok (.ifCond .eq 12, 3) := by decide +kernel
theorem dX4_status_12 : decode cX4_status 12 = .ok (.aload_n 0, 1) := by decide +kernel
theorem dX4_status_13 : decode cX4_status 13 = .ok (.getfield 19, 3) := by decide +kernel
theorem dX4_status_16 : decode cX4_status 16 = .ok (.iload_n 1, 1) := by decide +kernel
theorem dX4_status_17 : decode cX4_status 17 = .ok (.iaload, 1) := by decide +kernel
theorem dX4_status_18 : decode cX4_status 18 = .ok (.goto 8, 3) := by decide +kernel
theorem dX4_status_21 : decode cX4_status 21 = .ok (.aload_n 0, 1) := by decide +kernel
theorem dX4_status_22 : decode cX4_status 22 = .ok (.iconst (-1), 1) := by decide +kernel
theorem dX4_status_23 : decode cX4_status 23 = .ok (.invokevirtual 62, 3) := by decide +kernel
theorem dX4_status_26 : decode cX4_status 26 = .ok (.ireturn, 1) := by decide +kernel
theorem dX4_angerBy_0 : decode cX4_angerBy 0 = .ok (.aload_n 0, 1) := by decide +kernel
theorem dX4_angerBy_1 : decode cX4_angerBy 1 = .ok (.getfield 13, 3) := by decide +kernel
theorem dX4_angerBy_4 : decode cX4_angerBy 4 = .ok (.iload_n 2, 1) := by decide +kernel
theorem dX4_angerBy_5 : decode cX4_angerBy 5 = .ok (.iaload, 1) := by decide +kernel
theorem dX4_angerBy_6 : decode cX4_angerBy 6 = .ok (.istore 4, 2) := by decide +kernel
theorem dX4_angerBy_8 : decode cX4_angerBy 8 = .ok (.iload_n 1, 1) := by decide +kernel
theorem dX4_angerBy_9 : decode cX4_angerBy 9 = .ok (.tableswitch 68 1 5 #[35, 40, 68, 45, 61], 35) := by decide +kernel
theorem dX4_angerBy_44 : decode cX4_angerBy 44 = .ok (.iload 4, 2) := by decide +kernel
theorem dX4_angerBy_46 : decode cX4_angerBy 46 = .ok (.iconst 2, 1) := by decide +kernel
theorem dX4_angerBy_47 : decode cX4_angerBy 47 = .ok (.idiv, 1) := by decide +kernel
theorem dX4_angerBy_48 : decode cX4_angerBy 48 = .ok (.ireturn, 1) := by decide +kernel
theorem dX4_angerBy_49 : decode cX4_angerBy 49 = .ok (.iload 4, 2) := by decide +kernel
theorem dX4_angerBy_51 : decode cX4_angerBy 51 = .ok (.iconst 1, 1) := by decide +kernel
theorem dX4_angerBy_52 : decode cX4_angerBy 52 = .ok (.isub, 1) := by decide +kernel
theorem dX4_angerBy_53 : decode cX4_angerBy 53 = .ok (.ireturn, 1) := by decide +kernel
theorem dX4_angerBy_54 : decode cX4_angerBy 54 = .ok (.iload_n 3, 1) := by decide +kernel
theorem dX4_angerBy_55 : decode cX4_angerBy 55 = .ok (.iconst 2, 1) := by decide +kernel
theorem dX4_angerBy_56 : decode cX4_angerBy 56 = .ok (.irem, 1) := by decide +kernel
theorem dX4_angerBy_57 : decode cX4_angerBy 57 = .ok (.iconst 1, 1) := by decide +kernel
theorem dX4_angerBy_58 : decode cX4_angerBy 58 = .ok (.if_icmp .ne 7, 3) := by decide +kernel
theorem dX4_angerBy_61 : decode cX4_angerBy 61 = .ok (.iconst 0, 1) := by decide +kernel
theorem dX4_angerBy_62 : decode cX4_angerBy 62 = .ok (.goto 7, 3) := by decide +kernel
theorem dX4_angerBy_65 : decode cX4_angerBy 65 = .ok (.iload 4, 2) := by decide +kernel
theorem dX4_angerBy_67 : decode cX4_angerBy 67 = .ok (.iconst 2, 1) := by decide +kernel
theorem dX4_angerBy_68 : decode cX4_angerBy 68 = .ok (.idiv, 1) := by decide +kernel
theorem dX4_angerBy_69 : decode cX4_angerBy 69 = .ok (.ireturn, 1) := by decide +kernel
theorem dX4_angerBy_70 : decode cX4_angerBy 70 = .ok (.iconst 2, 1) := by decide +kernel
theorem dX4_angerBy_71 : decode cX4_angerBy 71 = .ok (.iload 4, 2) := by decide +kernel
theorem dX4_angerBy_73 : decode cX4_angerBy 73 = .ok (.iconst 1, 1) := by decide +kernel
theorem dX4_angerBy_74 : decode cX4_angerBy 74 = .ok (.isub, 1) := by decide +kernel
theorem dX4_angerBy_75 : decode cX4_angerBy 75 = .ok (.imul, 1) := by decide +kernel
theorem dX4_angerBy_76 : decode cX4_angerBy 76 = .ok (.ireturn, 1) := by decide +kernel
theorem dX4_angerBy_77 : decode cX4_angerBy 77 = .ok (.iload 4, 2) := by decide +kernel
theorem dX4_angerBy_79 : decode cX4_angerBy 79 = .ok (.ireturn, 1) := by decide +kernel
theorem dX4_prideBy_0 : decode cX4_prideBy 0 = .ok (.aload_n 0, 1) := by decide +kernel
theorem dX4_prideBy_1 : decode cX4_prideBy 1 = .ok (.getfield 16, 3) := by decide +kernel
theorem dX4_prideBy_4 : decode cX4_prideBy 4 = .ok (.iload_n 2, 1) := by decide +kernel
theorem dX4_prideBy_5 : decode cX4_prideBy 5 = .ok (.iaload, 1) := by decide +kernel
theorem dX4_prideBy_6 : decode cX4_prideBy 6 = .ok (.istore 4, 2) := by decide +kernel
theorem dX4_prideBy_8 : decode cX4_prideBy 8 = .ok (.iload_n 1, 1) := by decide +kernel
theorem dX4_prideBy_9 : decode cX4_prideBy 9 = .ok (.tableswitch 50 3 5 #[27, 31, 45], 27) := by decide +kernel
theorem dX4_prideBy_36 : decode cX4_prideBy 36 = .ok (.iload 4, 2) := by decide +kernel
theorem dX4_prideBy_38 : decode cX4_prideBy 38 = .ok (.ineg, 1) := by decide +kernel
theorem dX4_prideBy_39 : decode cX4_prideBy 39 = .ok (.ireturn, 1) := by decide +kernel
theorem dX4_prideBy_40 : decode cX4_prideBy 40 = .ok (.iload_n 3, 1) := by decide +kernel
theorem dX4_prideBy_41 : decode cX4_prideBy 41 = .ok (.iconst 2, 1) := by decide +kernel
theorem dX4_prideBy_42 : decode cX4_prideBy 42 = .ok (.irem, 1) := by decide +kernel
theorem dX4_prideBy_43 : decode cX4_prideBy 43 = .ok (.iconst 1, 1) := by decide +kernel
theorem dX4_prideBy_44 : decode cX4_prideBy 44 = .ok (.if_icmp .ne 7, 3) := by decide +kernel
theorem dX4_prideBy_47 : decode cX4_prideBy 47 = .ok (.iconst 0, 1) := by decide +kernel
theorem dX4_prideBy_48 : decode cX4_prideBy 48 = .ok (.goto 5, 3) := by decide +kernel
theorem dX4_prideBy_51 : decode cX4_prideBy 51 = .ok (.iload 4, 2) := by decide +kernel
theorem dX4_prideBy_53 : decode cX4_prideBy 53 = .ok (.ireturn, 1) := by decide +kernel
theorem dX4_prideBy_54 : decode cX4_prideBy 54 = .ok (.iload 4, 2) := by decide +kernel
theorem dX4_prideBy_56 : decode cX4_prideBy 56 = .ok (.iconst 1, 1) := by decide +kernel
theorem dX4_prideBy_57 : decode cX4_prideBy 57 = .ok (.iadd, 1) := by decide +kernel
theorem dX4_prideBy_58 : decode cX4_prideBy 58 = .ok (.ireturn, 1) := by decide +kernel
theorem dX4_prideBy_59 : decode cX4_prideBy 59 = .ok (.iload 4, 2) := by decide +kernel
theorem dX4_prideBy_61 : decode cX4_prideBy 61 = .ok (.ireturn, 1) := by decide +kernel
theorem dX4_kept_0 : decode cX4_kept 0 = .ok (.iload_n 0, 1) := by decide +kernel
theorem dX4_kept_1 : decode cX4_kept 1 = .ok (.ifCond .ge 7, 3) := by decide +kernel
theorem dX4_kept_4 : decode cX4_kept 4 = .ok (.iconst 0, 1) := by decide +kernel
theorem dX4_kept_5 : decode cX4_kept 5 = .ok (.goto 15, 3) := by decide +kernel
theorem dX4_kept_8 : decode cX4_kept 8 = .ok (.iload_n 0, 1) := by decide +kernel
theorem dX4_kept_9 : decode cX4_kept 9 = .ok (.bipush 99, 2) := by decide +kernel
theorem dX4_kept_11 : decode cX4_kept 11 = .ok (.if_icmp .le 8, 3) := by decide +kernel
theorem dX4_kept_14 : decode cX4_kept 14 = .ok (.bipush 99, 2) := by decide +kernel
theorem dX4_kept_16 : decode cX4_kept 16 = .ok (.goto 4, 3) := by decide +kernel
theorem dX4_kept_19 : decode cX4_kept 19 = .ok (.iload_n 0, 1) := by decide +kernel
theorem dX4_kept_20 : decode cX4_kept 20 = .ok (.ireturn, 1) := by decide +kernel
theorem dX4_begin_0 : decode cX4_begin 0 = .ok (.aload_n 0, 1) := by decide +kernel
theorem dX4_begin_1 : decode cX4_begin 1 = .ok (.aload_n 0, 1) := by decide +kernel
theorem dX4_begin_2 : decode cX4_begin 2 = .ok (.getfield 7, 3) := by decide +kernel
theorem dX4_begin_5 : decode cX4_begin 5 = .ok (.iconst 1, 1) := by decide +kernel
theorem dX4_begin_6 : decode cX4_begin 6 = .ok (.iaload, 1) := by decide +kernel
theorem dX4_begin_7 : decode cX4_begin 7 = .ok (.putfield 66, 3) := by decide +kernel
theorem dX4_begin_10 : decode cX4_begin 10 = .ok (.aload_n 0, 1) := by decide +kernel
theorem dX4_begin_11 : decode cX4_begin 11 = .ok (.aload_n 0, 1) := by decide +kernel
theorem dX4_begin_12 : decode cX4_begin 12 = .ok (.getfield 7, 3) := by decide +kernel
theorem dX4_begin_15 : decode cX4_begin 15 = .ok (.iconst 2, 1) := by decide +kernel
theorem dX4_begin_16 : decode cX4_begin 16 = .ok (.iaload, 1) := by decide +kernel
theorem dX4_begin_17 : decode cX4_begin 17 = .ok (.putfield 70, 3) := by decide +kernel
theorem dX4_begin_20 : decode cX4_begin 20 = .ok (.aload_n 0, 1) := by decide +kernel
theorem dX4_begin_21 : decode cX4_begin 21 = .ok (.aload_n 0, 1) := by decide +kernel
theorem dX4_begin_22 : decode cX4_begin 22 = .ok (.getfield 7, 3) := by decide +kernel
theorem dX4_begin_25 : decode cX4_begin 25 = .ok (.iconst 5, 1) := by decide +kernel
theorem dX4_begin_26 : decode cX4_begin 26 = .ok (.iaload, 1) := by decide +kernel
theorem dX4_begin_27 : decode cX4_begin 27 = .ok (.putfield 73, 3) := by decide +kernel
theorem dX4_begin_30 : decode cX4_begin 30 = .ok (.aload_n 0, 1) := by decide +kernel
theorem dX4_begin_31 : decode cX4_begin 31 = .ok (.aload_n 0, 1) := by decide +kernel
theorem dX4_begin_32 : decode cX4_begin 32 = .ok (.getfield 7, 3) := by decide +kernel
theorem dX4_begin_35 : decode cX4_begin 35 = .ok (.bipush 6, 2) := by decide +kernel
theorem dX4_begin_37 : decode cX4_begin 37 = .ok (.iaload, 1) := by decide +kernel
theorem dX4_begin_38 : decode cX4_begin 38 = .ok (.putfield 76, 3) := by decide +kernel
theorem dX4_begin_41 : decode cX4_begin 41 = .ok (.return_, 1) := by decide +kernel
theorem dX4_hear_0 : decode cX4_hear 0 = .ok (.aload_n 0, 1) := by decide +kernel
theorem dX4_hear_1 : decode cX4_hear 1 = .ok (.iload_n 2, 1) := by decide +kernel
theorem dX4_hear_2 : decode cX4_hear 2 = .ok (.ifCond .eq 29, 3) := by decide +kernel
theorem dX4_hear_5 : decode cX4_hear 5 = .ok (.aload_n 0, 1) := by decide +kernel
theorem dX4_hear_6 : decode cX4_hear 6 = .ok (.getfield 66, 3) := by decide +kernel
theorem dX4_hear_9 : decode cX4_hear 9 = .ok (.aload_n 0, 1) := by decide +kernel
theorem dX4_hear_10 : decode cX4_hear 10 = .ok (.aload_n 0, 1) := by decide +kernel
theorem dX4_hear_11 : decode cX4_hear 11 = .ok (.getfield 7, 3) := by decide +kernel
theorem dX4_hear_14 : decode cX4_hear 14 = .ok (.iconst 0, 1) := by decide +kernel
theorem dX4_hear_15 : decode cX4_hear 15 = .ok (.iaload, 1) := by decide +kernel
theorem dX4_hear_16 : decode cX4_hear 16 = .ok (.iload_n 1, 1) := by decide +kernel
theorem dX4_hear_17 : decode cX4_hear 17 = .ok (.aload_n 0, 1) := by decide +kernel
theorem dX4_hear_18 : decode cX4_hear 18 = .ok (.getfield 73, 3) := by decide +kernel
theorem dX4_hear_21 : decode cX4_hear 21 = .ok (.invokevirtual 79, 3) := by decide +kernel
theorem dX4_hear_24 : decode cX4_hear 24 = .ok (.iadd, 1) := by decide +kernel
theorem dX4_hear_25 : decode cX4_hear 25 = .ok (.invokestatic 83, 3) := by decide +kernel
theorem dX4_hear_28 : decode cX4_hear 28 = .ok (.goto 7, 3) := by decide +kernel
theorem dX4_hear_31 : decode cX4_hear 31 = .ok (.aload_n 0, 1) := by decide +kernel
theorem dX4_hear_32 : decode cX4_hear 32 = .ok (.getfield 66, 3) := by decide +kernel
theorem dX4_hear_35 : decode cX4_hear 35 = .ok (.putfield 66, 3) := by decide +kernel
theorem dX4_hear_38 : decode cX4_hear 38 = .ok (.aload_n 0, 1) := by decide +kernel
theorem dX4_hear_39 : decode cX4_hear 39 = .ok (.iload_n 2, 1) := by decide +kernel
theorem dX4_hear_40 : decode cX4_hear 40 = .ok (.ifCond .eq 29, 3) := by decide +kernel
theorem dX4_hear_43 : decode cX4_hear 43 = .ok (.aload_n 0, 1) := by decide +kernel
theorem dX4_hear_44 : decode cX4_hear 44 = .ok (.getfield 70, 3) := by decide +kernel
theorem dX4_hear_47 : decode cX4_hear 47 = .ok (.aload_n 0, 1) := by decide +kernel
theorem dX4_hear_48 : decode cX4_hear 48 = .ok (.aload_n 0, 1) := by decide +kernel
theorem dX4_hear_49 : decode cX4_hear 49 = .ok (.getfield 7, 3) := by decide +kernel
theorem dX4_hear_52 : decode cX4_hear 52 = .ok (.iconst 0, 1) := by decide +kernel
theorem dX4_hear_53 : decode cX4_hear 53 = .ok (.iaload, 1) := by decide +kernel
theorem dX4_hear_54 : decode cX4_hear 54 = .ok (.iload_n 1, 1) := by decide +kernel
theorem dX4_hear_55 : decode cX4_hear 55 = .ok (.aload_n 0, 1) := by decide +kernel
theorem dX4_hear_56 : decode cX4_hear 56 = .ok (.getfield 73, 3) := by decide +kernel
theorem dX4_hear_59 : decode cX4_hear 59 = .ok (.invokevirtual 86, 3) := by decide +kernel
theorem dX4_hear_62 : decode cX4_hear 62 = .ok (.iadd, 1) := by decide +kernel
theorem dX4_hear_63 : decode cX4_hear 63 = .ok (.invokestatic 83, 3) := by decide +kernel
theorem dX4_hear_66 : decode cX4_hear 66 = .ok (.goto 7, 3) := by decide +kernel
theorem dX4_hear_69 : decode cX4_hear 69 = .ok (.aload_n 0, 1) := by decide +kernel
theorem dX4_hear_70 : decode cX4_hear 70 = .ok (.getfield 70, 3) := by decide +kernel
theorem dX4_hear_73 : decode cX4_hear 73 = .ok (.putfield 70, 3) := by decide +kernel
theorem dX4_hear_76 : decode cX4_hear 76 = .ok (.aload_n 0, 1) := by decide +kernel
theorem dX4_hear_77 : decode cX4_hear 77 = .ok (.dup, 1) := by decide +kernel
theorem dX4_hear_78 : decode cX4_hear 78 = .ok (.getfield 73, 3) := by decide +kernel
theorem dX4_hear_81 : decode cX4_hear 81 = .ok (.iconst 1, 1) := by decide +kernel
theorem dX4_hear_82 : decode cX4_hear 82 = .ok (.iadd, 1) := by decide +kernel
theorem dX4_hear_83 : decode cX4_hear 83 = .ok (.putfield 73, 3) := by decide +kernel
theorem dX4_hear_86 : decode cX4_hear 86 = .ok (.aload_n 0, 1) := by decide +kernel
theorem dX4_hear_87 : decode cX4_hear 87 = .ok (.aload_n 0, 1) := by decide +kernel
theorem dX4_hear_88 : decode cX4_hear 88 = .ok (.getfield 66, 3) := by decide +kernel
theorem dX4_hear_91 : decode cX4_hear 91 = .ok (.aload_n 0, 1) := by decide +kernel
theorem dX4_hear_92 : decode cX4_hear 92 = .ok (.getfield 7, 3) := by decide +kernel
theorem dX4_hear_95 : decode cX4_hear 95 = .ok (.iconst 3, 1) := by decide +kernel
theorem dX4_hear_96 : decode cX4_hear 96 = .ok (.iaload, 1) := by decide +kernel
theorem dX4_hear_97 : decode cX4_hear 97 = .ok (.if_icmp .lt 7, 3) := by decide +kernel
theorem dX4_hear_100 : decode cX4_hear 100 = .ok (.iconst 2, 1) := by decide +kernel
theorem dX4_hear_101 : decode cX4_hear 101 = .ok (.goto 26, 3) := by decide +kernel
theorem dX4_hear_104 : decode cX4_hear 104 = .ok (.iload_n 1, 1) := by decide +kernel
theorem dX4_hear_105 : decode cX4_hear 105 = .ok (.iconst 1, 1) := by decide +kernel
theorem dX4_hear_106 : decode cX4_hear 106 = .ok (.if_icmp .ne 20, 3) := by decide +kernel
theorem dX4_hear_109 : decode cX4_hear 109 = .ok (.aload_n 0, 1) := by decide +kernel
theorem dX4_hear_110 : decode cX4_hear 110 = .ok (.getfield 70, 3) := by decide +kernel
theorem dX4_hear_113 : decode cX4_hear 113 = .ok (.aload_n 0, 1) := by decide +kernel
theorem dX4_hear_114 : decode cX4_hear 114 = .ok (.getfield 7, 3) := by decide +kernel
theorem dX4_hear_117 : decode cX4_hear 117 = .ok (.iconst 4, 1) := by decide +kernel
theorem dX4_hear_118 : decode cX4_hear 118 = .ok (.iaload, 1) := by decide +kernel
theorem dX4_hear_119 : decode cX4_hear 119 = .ok (.if_icmp .lt 7, 3) := by decide +kernel
theorem dX4_hear_122 : decode cX4_hear 122 = .ok (.iconst 1, 1) := by decide +kernel
theorem dX4_hear_123 : decode cX4_hear 123 = .ok (.goto 4, 3) := by decide +kernel
theorem dX4_hear_126 : decode cX4_hear 126 = .ok (.iconst 0, 1) := by decide +kernel
theorem dX4_hear_127 : decode cX4_hear 127 = .ok (.putfield 76, 3) := by decide +kernel
theorem dX4_hear_130 : decode cX4_hear 130 = .ok (.return_, 1) := by decide +kernel
theorem dX4_giveBack_0 : decode cX4_giveBack 0 = .ok (.aload_n 0, 1) := by decide +kernel
theorem dX4_giveBack_1 : decode cX4_giveBack 1 = .ok (.getfield 7, 3) := by decide +kernel
theorem dX4_giveBack_4 : decode cX4_giveBack 4 = .ok (.iconst 1, 1) := by decide +kernel
theorem dX4_giveBack_5 : decode cX4_giveBack 5 = .ok (.aload_n 0, 1) := by decide +kernel
theorem dX4_giveBack_6 : decode cX4_giveBack 6 = .ok (.getfield 66, 3) := by decide +kernel
theorem dX4_giveBack_9 : decode cX4_giveBack 9 = .ok (.iastore, 1) := by decide +kernel
theorem dX4_giveBack_10 : decode cX4_giveBack 10 = .ok (.aload_n 0, 1) := by decide +kernel
theorem dX4_giveBack_11 : decode cX4_giveBack 11 = .ok (.getfield 7, 3) := by decide +kernel
theorem dX4_giveBack_14 : decode cX4_giveBack 14 = .ok (.iconst 2, 1) := by decide +kernel
theorem dX4_giveBack_15 : decode cX4_giveBack 15 = .ok (.aload_n 0, 1) := by decide +kernel
theorem dX4_giveBack_16 : decode cX4_giveBack 16 = .ok (.getfield 70, 3) := by decide +kernel
theorem dX4_giveBack_19 : decode cX4_giveBack 19 = .ok (.iastore, 1) := by decide +kernel
theorem dX4_giveBack_20 : decode cX4_giveBack 20 = .ok (.aload_n 0, 1) := by decide +kernel
theorem dX4_giveBack_21 : decode cX4_giveBack 21 = .ok (.getfield 7, 3) := by decide +kernel
theorem dX4_giveBack_24 : decode cX4_giveBack 24 = .ok (.iconst 5, 1) := by decide +kernel
theorem dX4_giveBack_25 : decode cX4_giveBack 25 = .ok (.aload_n 0, 1) := by decide +kernel
theorem dX4_giveBack_26 : decode cX4_giveBack 26 = .ok (.getfield 73, 3) := by decide +kernel
theorem dX4_giveBack_29 : decode cX4_giveBack 29 = .ok (.iastore, 1) := by decide +kernel
theorem dX4_giveBack_30 : decode cX4_giveBack 30 = .ok (.aload_n 0, 1) := by decide +kernel
theorem dX4_giveBack_31 : decode cX4_giveBack 31 = .ok (.getfield 7, 3) := by decide +kernel
theorem dX4_giveBack_34 : decode cX4_giveBack 34 = .ok (.bipush 6, 2) := by decide +kernel
theorem dX4_giveBack_36 : decode cX4_giveBack 36 = .ok (.aload_n 0, 1) := by decide +kernel
theorem dX4_giveBack_37 : decode cX4_giveBack 37 = .ok (.getfield 76, 3) := by decide +kernel
theorem dX4_giveBack_40 : decode cX4_giveBack 40 = .ok (.iastore, 1) := by decide +kernel
theorem dX4_giveBack_41 : decode cX4_giveBack 41 = .ok (.return_, 1) := by decide +kernel
theorem dX4_jar_0 : decode cX4_jar 0 = .ok (.iload_n 1, 1) := by decide +kernel
theorem dX4_jar_1 : decode cX4_jar 1 = .ok (.i2l, 1) := by decide +kernel
theorem dX4_jar_2 : decode cX4_jar 2 = .ok (.lconst 0, 1) := by decide +kernel
theorem dX4_jar_3 : decode cX4_jar 3 = .ok (.ldc2_w 89, 3) := by decide +kernel
theorem dX4_jar_6 : decode cX4_jar 6 = .ok (.invokestatic 58, 3) := by decide +kernel
theorem dX4_jar_9 : decode cX4_jar 9 = .ok (.ifCond .ne 10, 3) := by decide +kernel
theorem dX4_jar_12 : decode cX4_jar 12 = .ok (.aload_n 0, 1) := by decide +kernel
theorem dX4_jar_13 : decode cX4_jar 13 = .ok (.bipush (-2), 2) := by decide +kernel
theorem dX4_jar_15 : decode cX4_jar 15 = .ok (.invokevirtual 91, 3) := by decide +kernel
theorem dX4_jar_18 : decode cX4_jar 18 = .ok (.ireturn, 1) := by decide +kernel
theorem dX4_jar_19 : decode cX4_jar 19 = .ok (.aload_n 0, 1) := by decide +kernel
theorem dX4_jar_20 : decode cX4_jar 20 = .ok (.getfield 7, 3) := by decide +kernel
theorem dX4_jar_23 : decode cX4_jar 23 = .ok (.iconst 5, 1) := by decide +kernel
theorem dX4_jar_24 : decode cX4_jar 24 = .ok (.iaload, 1) := by decide +kernel
theorem dX4_jar_25 : decode cX4_jar 25 = .ok (.istore_n 2, 1) := by decide +kernel
theorem dX4_jar_26 : decode cX4_jar 26 = .ok (.aload_n 0, 1) := by decide +kernel
theorem dX4_jar_27 : decode cX4_jar 27 = .ok (.iload_n 1, 1) := by decide +kernel
theorem dX4_jar_28 : decode cX4_jar 28 = .ok (.invokevirtual 52, 3) := by decide +kernel
theorem dX4_jar_31 : decode cX4_jar 31 = .ok (.iload_n 2, 1) := by decide +kernel
theorem dX4_jar_32 : decode cX4_jar 32 = .ok (.ireturn, 1) := by decide +kernel
theorem dX4_mood_0 : decode cX4_mood 0 = .ok (.iload_n 1, 1) := by decide +kernel
theorem dX4_mood_1 : decode cX4_mood 1 = .ok (.i2l, 1) := by decide +kernel
theorem dX4_mood_2 : decode cX4_mood 2 = .ok (.lconst 0, 1) := by decide +kernel
theorem dX4_mood_3 : decode cX4_mood 3 = .ok (.ldc2_w 94, 3) := by decide +kernel
theorem dX4_mood_6 : decode cX4_mood 6 = .ok (.invokestatic 58, 3) := by decide +kernel
theorem dX4_mood_9 : decode cX4_mood 9 = .ok (.ifCond .eq 15, 3) := by decide +kernel
theorem dX4_mood_12 : decode cX4_mood 12 = .ok (.iload_n 2, 1) := by decide +kernel
theorem dX4_mood_13 : decode cX4_mood 13 = .ok (.i2l, 1) := by decide +kernel
theorem dX4_mood_14 : decode cX4_mood 14 = .ok (.lconst 0, 1) := by decide +kernel
theorem dX4_mood_15 : decode cX4_mood 15 = .ok (.ldc2_w 94, 3) := by decide +kernel
theorem dX4_mood_18 : decode cX4_mood 18 = .ok (.invokestatic 58, 3) := by decide +kernel
theorem dX4_mood_21 : decode cX4_mood 21 = .ok (.ifCond .ne 10, 3) := by decide +kernel
theorem dX4_mood_24 : decode cX4_mood 24 = .ok (.aload_n 0, 1) := by decide +kernel
theorem dX4_mood_25 : decode cX4_mood 25 = .ok (.bipush (-2), 2) := by decide +kernel
theorem dX4_mood_27 : decode cX4_mood 27 = .ok (.invokevirtual 91, 3) := by decide +kernel
theorem dX4_mood_30 : decode cX4_mood 30 = .ok (.ireturn, 1) := by decide +kernel
theorem dX4_mood_31 : decode cX4_mood 31 = .ok (.iload_n 1, 1) := by decide +kernel
theorem dX4_mood_32 : decode cX4_mood 32 = .ok (.aload_n 0, 1) := by decide +kernel
theorem dX4_mood_33 : decode cX4_mood 33 = .ok (.getfield 7, 3) := by decide +kernel
theorem dX4_mood_36 : decode cX4_mood 36 = .ok (.iconst 3, 1) := by decide +kernel
theorem dX4_mood_37 : decode cX4_mood 37 = .ok (.iaload, 1) := by decide +kernel
theorem dX4_mood_38 : decode cX4_mood 38 = .ok (.if_icmp .lt 10, 3) := by decide +kernel
theorem dX4_mood_41 : decode cX4_mood 41 = .ok (.aload_n 0, 1) := by decide +kernel
theorem dX4_mood_42 : decode cX4_mood 42 = .ok (.bipush (-3), 2) := by decide +kernel
theorem dX4_mood_44 : decode cX4_mood 44 = .ok (.invokevirtual 91, 3) := by decide +kernel
theorem dX4_mood_47 : decode cX4_mood 47 = .ok (.ireturn, 1) := by decide +kernel
theorem dX4_mood_48 : decode cX4_mood 48 = .ok (.aload_n 0, 1) := by decide +kernel
theorem dX4_mood_49 : decode cX4_mood 49 = .ok (.getfield 7, 3) := by decide +kernel
theorem dX4_mood_52 : decode cX4_mood 52 = .ok (.iconst 1, 1) := by decide +kernel
theorem dX4_mood_53 : decode cX4_mood 53 = .ok (.iload_n 1, 1) := by decide +kernel
theorem dX4_mood_54 : decode cX4_mood 54 = .ok (.iastore, 1) := by decide +kernel
theorem dX4_mood_55 : decode cX4_mood 55 = .ok (.aload_n 0, 1) := by decide +kernel
theorem dX4_mood_56 : decode cX4_mood 56 = .ok (.getfield 7, 3) := by decide +kernel
theorem dX4_mood_59 : decode cX4_mood 59 = .ok (.iconst 2, 1) := by decide +kernel
theorem dX4_mood_60 : decode cX4_mood 60 = .ok (.iload_n 2, 1) := by decide +kernel
theorem dX4_mood_61 : decode cX4_mood 61 = .ok (.iastore, 1) := by decide +kernel
theorem dX4_mood_62 : decode cX4_mood 62 = .ok (.iconst 1, 1) := by decide +kernel
theorem dX4_mood_63 : decode cX4_mood 63 = .ok (.ireturn, 1) := by decide +kernel
theorem dX4_bound_0 : decode cX4_bound 0 = .ok (.iload_n 1, 1) := by decide +kernel
theorem dX4_bound_1 : decode cX4_bound 1 = .ok (.i2l, 1) := by decide +kernel
theorem dX4_bound_2 : decode cX4_bound 2 = .ok (.lconst 1, 1) := by decide +kernel
theorem dX4_bound_3 : decode cX4_bound 3 = .ok (.ldc2_w 94, 3) := by decide +kernel
theorem dX4_bound_6 : decode cX4_bound 6 = .ok (.invokestatic 58, 3) := by decide +kernel
theorem dX4_bound_9 : decode cX4_bound 9 = .ok (.ifCond .eq 15, 3) := by decide +kernel
theorem dX4_bound_12 : decode cX4_bound 12 = .ok (.iload_n 2, 1) := by decide +kernel
theorem dX4_bound_13 : decode cX4_bound 13 = .ok (.i2l, 1) := by decide +kernel
theorem dX4_bound_14 : decode cX4_bound 14 = .ok (.lconst 1, 1) := by decide +kernel
theorem dX4_bound_15 : decode cX4_bound 15 = .ok (.ldc2_w 94, 3) := by decide +kernel
theorem dX4_bound_18 : decode cX4_bound 18 = .ok (.invokestatic 58, 3) := by decide +kernel
theorem dX4_bound_21 : decode cX4_bound 21 = .ok (.ifCond .ne 10, 3) := by decide +kernel
theorem dX4_bound_24 : decode cX4_bound 24 = .ok (.aload_n 0, 1) := by decide +kernel
theorem dX4_bound_25 : decode cX4_bound 25 = .ok (.bipush (-2), 2) := by decide +kernel
theorem dX4_bound_27 : decode cX4_bound 27 = .ok (.invokevirtual 91, 3) := by decide +kernel
theorem dX4_bound_30 : decode cX4_bound 30 = .ok (.ireturn, 1) := by decide +kernel
theorem dX4_bound_31 : decode cX4_bound 31 = .ok (.aload_n 0, 1) := by decide +kernel
theorem dX4_bound_32 : decode cX4_bound 32 = .ok (.getfield 7, 3) := by decide +kernel
theorem dX4_bound_35 : decode cX4_bound 35 = .ok (.iconst 1, 1) := by decide +kernel
theorem dX4_bound_36 : decode cX4_bound 36 = .ok (.iaload, 1) := by decide +kernel
theorem dX4_bound_37 : decode cX4_bound 37 = .ok (.iload_n 1, 1) := by decide +kernel
theorem dX4_bound_38 : decode cX4_bound 38 = .ok (.if_icmp .lt 10, 3) := by decide +kernel
theorem dX4_bound_41 : decode cX4_bound 41 = .ok (.aload_n 0, 1) := by decide +kernel
theorem dX4_bound_42 : decode cX4_bound 42 = .ok (.bipush (-3), 2) := by decide +kernel
theorem dX4_bound_44 : decode cX4_bound 44 = .ok (.invokevirtual 91, 3) := by decide +kernel
theorem dX4_bound_47 : decode cX4_bound 47 = .ok (.ireturn, 1) := by decide +kernel
theorem dX4_bound_48 : decode cX4_bound 48 = .ok (.aload_n 0, 1) := by decide +kernel
theorem dX4_bound_49 : decode cX4_bound 49 = .ok (.getfield 7, 3) := by decide +kernel
theorem dX4_bound_52 : decode cX4_bound 52 = .ok (.iconst 3, 1) := by decide +kernel
theorem dX4_bound_53 : decode cX4_bound 53 = .ok (.iload_n 1, 1) := by decide +kernel
theorem dX4_bound_54 : decode cX4_bound 54 = .ok (.iastore, 1) := by decide +kernel
theorem dX4_bound_55 : decode cX4_bound 55 = .ok (.aload_n 0, 1) := by decide +kernel
theorem dX4_bound_56 : decode cX4_bound 56 = .ok (.getfield 7, 3) := by decide +kernel
theorem dX4_bound_59 : decode cX4_bound 59 = .ok (.iconst 4, 1) := by decide +kernel
theorem dX4_bound_60 : decode cX4_bound 60 = .ok (.iload_n 2, 1) := by decide +kernel
theorem dX4_bound_61 : decode cX4_bound 61 = .ok (.iastore, 1) := by decide +kernel
theorem dX4_bound_62 : decode cX4_bound 62 = .ok (.iconst 1, 1) := by decide +kernel
theorem dX4_bound_63 : decode cX4_bound 63 = .ok (.ireturn, 1) := by decide +kernel
theorem dX4_vow_0 : decode cX4_vow 0 = .ok (.iload_n 1, 1) := by decide +kernel
theorem dX4_vow_1 : decode cX4_vow 1 = .ok (.i2l, 1) := by decide +kernel
theorem dX4_vow_2 : decode cX4_vow 2 = .ok (.lconst 0, 1) := by decide +kernel
theorem dX4_vow_3 : decode cX4_vow 3 = .ok (.ldc2_w 96, 3) := by decide +kernel
theorem dX4_vow_6 : decode cX4_vow 6 = .ok (.invokestatic 58, 3) := by decide +kernel
theorem dX4_vow_9 : decode cX4_vow 9 = .ok (.ifCond .eq 15, 3) := by decide +kernel
theorem dX4_vow_12 : decode cX4_vow 12 = .ok (.iload_n 2, 1) := by decide +kernel
theorem dX4_vow_13 : decode cX4_vow 13 = .ok (.i2l, 1) := by decide +kernel
theorem dX4_vow_14 : decode cX4_vow 14 = .ok (.lconst 0, 1) := by decide +kernel
theorem dX4_vow_15 : decode cX4_vow 15 = .ok (.ldc2_w 98, 3) := by decide +kernel
theorem dX4_vow_18 : decode cX4_vow 18 = .ok (.invokestatic 58, 3) := by decide +kernel
theorem dX4_vow_21 : decode cX4_vow 21 = .ok (.ifCond .ne 10, 3) := by decide +kernel
theorem dX4_vow_24 : decode cX4_vow 24 = .ok (.aload_n 0, 1) := by decide +kernel
theorem dX4_vow_25 : decode cX4_vow 25 = .ok (.bipush (-2), 2) := by decide +kernel
theorem dX4_vow_27 : decode cX4_vow 27 = .ok (.invokevirtual 91, 3) := by decide +kernel
theorem dX4_vow_30 : decode cX4_vow 30 = .ok (.ireturn, 1) := by decide +kernel
theorem dX4_vow_31 : decode cX4_vow 31 = .ok (.aload_n 0, 1) := by decide +kernel
theorem dX4_vow_32 : decode cX4_vow 32 = .ok (.getfield 7, 3) := by decide +kernel
theorem dX4_vow_35 : decode cX4_vow 35 = .ok (.bipush 7, 2) := by decide +kernel
theorem dX4_vow_37 : decode cX4_vow 37 = .ok (.iload_n 1, 1) := by decide +kernel
theorem dX4_vow_38 : decode cX4_vow 38 = .ok (.iadd, 1) := by decide +kernel
theorem dX4_vow_39 : decode cX4_vow 39 = .ok (.iaload, 1) := by decide +kernel
theorem dX4_vow_40 : decode cX4_vow 40 = .ok (.istore_n 3, 1) := by decide +kernel
theorem dX4_vow_41 : decode cX4_vow 41 = .ok (.aload_n 0, 1) := by decide +kernel
theorem dX4_vow_42 : decode cX4_vow 42 = .ok (.getfield 7, 3) := by decide +kernel
theorem dX4_vow_45 : decode cX4_vow 45 = .ok (.bipush 7, 2) := by decide +kernel
theorem dX4_vow_47 : decode cX4_vow 47 = .ok (.iload_n 1, 1) := by decide +kernel
theorem dX4_vow_48 : decode cX4_vow 48 = .ok (.iadd, 1) := by decide +kernel
theorem dX4_vow_49 : decode cX4_vow 49 = .ok (.iload_n 2, 1) := by decide +kernel
theorem dX4_vow_50 : decode cX4_vow 50 = .ok (.iastore, 1) := by decide +kernel
theorem dX4_vow_51 : decode cX4_vow 51 = .ok (.iload_n 3, 1) := by decide +kernel
theorem dX4_vow_52 : decode cX4_vow 52 = .ok (.ireturn, 1) := by decide +kernel
theorem dX4_type_0 : decode cX4_type 0 = .ok (.iload_n 1, 1) := by decide +kernel
theorem dX4_type_1 : decode cX4_type 1 = .ok (.i2l, 1) := by decide +kernel
theorem dX4_type_2 : decode cX4_type 2 = .ok (.lconst 0, 1) := by decide +kernel
theorem dX4_type_3 : decode cX4_type 3 = .ok (.ldc2_w 100, 3) := by decide +kernel
theorem dX4_type_6 : decode cX4_type 6 = .ok (.invokestatic 58, 3) := by decide +kernel
theorem dX4_type_9 : decode cX4_type 9 = .ok (.ifCond .ne 10, 3) := by decide +kernel
theorem dX4_type_12 : decode cX4_type 12 = .ok (.aload_n 0, 1) := by decide +kernel
theorem dX4_type_13 : decode cX4_type 13 = .ok (.bipush (-2), 2) := by decide +kernel
theorem dX4_type_15 : decode cX4_type 15 = .ok (.invokevirtual 91, 3) := by decide +kernel
theorem dX4_type_18 : decode cX4_type 18 = .ok (.ireturn, 1) := by decide +kernel
theorem dX4_type_19 : decode cX4_type 19 = .ok (.aload_n 0, 1) := by decide +kernel
theorem dX4_type_20 : decode cX4_type 20 = .ok (.getfield 102, 3) := by decide +kernel
theorem dX4_type_23 : decode cX4_type 23 = .ok (.sipush 150, 3) := by decide +kernel
theorem dX4_type_26 : decode cX4_type 26 = .ok (.if_icmp .ne 10, 3) := by decide +kernel
theorem dX4_type_29 : decode cX4_type 29 = .ok (.aload_n 0, 1) := by decide +kernel
theorem dX4_type_30 : decode cX4_type 30 = .ok (.bipush (-4), 2) := by decide +kernel
theorem dX4_type_32 : decode cX4_type 32 = .ok (.invokevirtual 91, 3) := by decide +kernel
theorem dX4_type_35 : decode cX4_type 35 = .ok (.ireturn, 1) := by decide +kernel
theorem dX4_type_36 : decode cX4_type 36 = .ok (.aload_n 0, 1) := by decide +kernel
theorem dX4_type_37 : decode cX4_type 37 = .ok (.getfield 22, 3) := by decide +kernel
theorem dX4_type_40 : decode cX4_type 40 = .ok (.aload_n 0, 1) := by decide +kernel
theorem dX4_type_41 : decode cX4_type 41 = .ok (.getfield 102, 3) := by decide +kernel
theorem dX4_type_44 : decode cX4_type 44 = .ok (.iload_n 1, 1) := by decide +kernel
theorem dX4_type_45 : decode cX4_type 45 = .ok (.iastore, 1) := by decide +kernel
theorem dX4_type_46 : decode cX4_type 46 = .ok (.aload_n 0, 1) := by decide +kernel
theorem dX4_type_47 : decode cX4_type 47 = .ok (.dup, 1) := by decide +kernel
theorem dX4_type_48 : decode cX4_type 48 = .ok (.getfield 102, 3) := by decide +kernel
theorem dX4_type_51 : decode cX4_type 51 = .ok (.iconst 1, 1) := by decide +kernel
theorem dX4_type_52 : decode cX4_type 52 = .ok (.iadd, 1) := by decide +kernel
theorem dX4_type_53 : decode cX4_type 53 = .ok (.putfield 102, 3) := by decide +kernel
theorem dX4_type_56 : decode cX4_type 56 = .ok (.aload_n 0, 1) := by decide +kernel
theorem dX4_type_57 : decode cX4_type 57 = .ok (.getfield 102, 3) := by decide +kernel
theorem dX4_type_60 : decode cX4_type 60 = .ok (.ireturn, 1) := by decide +kernel
theorem dX4_clear_0 : decode cX4_clear 0 = .ok (.aload_n 0, 1) := by decide +kernel
theorem dX4_clear_1 : decode cX4_clear 1 = .ok (.getfield 102, 3) := by decide +kernel
theorem dX4_clear_4 : decode cX4_clear 4 = .ok (.istore_n 1, 1) := by decide +kernel
theorem dX4_clear_5 : decode cX4_clear 5 = .ok (.aload_n 0, 1) := by decide +kernel
theorem dX4_clear_6 : decode cX4_clear 6 = .ok (.iconst 0, 1) := by decide +kernel
theorem dX4_clear_7 : decode cX4_clear 7 = .ok (.putfield 102, 3) := by decide +kernel
theorem dX4_clear_10 : decode cX4_clear 10 = .ok (.iload_n 1, 1) := by decide +kernel
theorem dX4_clear_11 : decode cX4_clear 11 = .ok (.ireturn, 1) := by decide +kernel
theorem dX4_here_0 : decode cX4_here 0 = .ok (.aload_n 0, 1) := by decide +kernel
theorem dX4_here_1 : decode cX4_here 1 = .ok (.getfield 105, 3) := by decide +kernel
theorem dX4_here_4 : decode cX4_here 4 = .ok (.aload_n 0, 1) := by decide +kernel
theorem dX4_here_5 : decode cX4_here 5 = .ok (.getfield 102, 3) := by decide +kernel
theorem dX4_here_8 : decode cX4_here 8 = .ok (.if_icmp .ge 30, 3) := by decide +kernel
theorem dX4_here_11 : decode cX4_here 11 = .ok (.aload_n 0, 1) := by decide +kernel
theorem dX4_here_12 : decode cX4_here 12 = .ok (.getfield 22, 3) := by decide +kernel
theorem dX4_here_15 : decode cX4_here 15 = .ok (.aload_n 0, 1) := by decide +kernel
theorem dX4_here_16 : decode cX4_here 16 = .ok (.getfield 105, 3) := by decide +kernel
theorem dX4_here_19 : decode cX4_here 19 = .ok (.iaload, 1) := by decide +kernel
theorem dX4_here_20 : decode cX4_here 20 = .ok (.bipush 32, 2) := by decide +kernel
theorem dX4_here_22 : decode cX4_here 22 = .ok (.if_icmp .ne 16, 3) := by decide +kernel
theorem dX4_here_25 : decode cX4_here 25 = .ok (.aload_n 0, 1) := by decide +kernel
theorem dX4_here_26 : decode cX4_here 26 = .ok (.dup, 1) := by decide +kernel
theorem dX4_here_27 : decode cX4_here 27 = .ok (.getfield 105, 3) := by decide +kernel
theorem dX4_here_30 : decode cX4_here 30 = .ok (.iconst 1, 1) := by decide +kernel
theorem dX4_here_31 : decode cX4_here 31 = .ok (.iadd, 1) := by decide +kernel
theorem dX4_here_32 : decode cX4_here 32 = .ok (.putfield 105, 3) := by decide +kernel
theorem dX4_here_35 : decode cX4_here 35 = .ok (.goto (-35), 3) := by decide +kernel
theorem dX4_here_38 : decode cX4_here 38 = .ok (.aload_n 0, 1) := by decide +kernel
theorem dX4_here_39 : decode cX4_here 39 = .ok (.aload_n 0, 1) := by decide +kernel
theorem dX4_here_40 : decode cX4_here 40 = .ok (.getfield 105, 3) := by decide +kernel
theorem dX4_here_43 : decode cX4_here 43 = .ok (.putfield 108, 3) := by decide +kernel
theorem dX4_here_46 : decode cX4_here 46 = .ok (.aload_n 0, 1) := by decide +kernel
theorem dX4_here_47 : decode cX4_here 47 = .ok (.getfield 105, 3) := by decide +kernel
theorem dX4_here_50 : decode cX4_here 50 = .ok (.aload_n 0, 1) := by decide +kernel
theorem dX4_here_51 : decode cX4_here 51 = .ok (.getfield 102, 3) := by decide +kernel
theorem dX4_here_54 : decode cX4_here 54 = .ok (.if_icmp .ge 15, 3) := by decide +kernel
theorem dX4_here_57 : decode cX4_here 57 = .ok (.aload_n 0, 1) := by decide +kernel
theorem dX4_here_58 : decode cX4_here 58 = .ok (.getfield 22, 3) := by decide +kernel
theorem dX4_here_61 : decode cX4_here 61 = .ok (.aload_n 0, 1) := by decide +kernel
theorem dX4_here_62 : decode cX4_here 62 = .ok (.getfield 105, 3) := by decide +kernel
theorem dX4_here_65 : decode cX4_here 65 = .ok (.iaload, 1) := by decide +kernel
theorem dX4_here_66 : decode cX4_here 66 = .ok (.goto 4, 3) := by decide +kernel
theorem dX4_here_69 : decode cX4_here 69 = .ok (.iconst (-1), 1) := by decide +kernel
theorem dX4_here_70 : decode cX4_here 70 = .ok (.ireturn, 1) := by decide +kernel
theorem dX4_wrong_0 : decode cX4_wrong 0 = .ok (.aload_n 0, 1) := by decide +kernel
theorem dX4_wrong_1 : decode cX4_wrong 1 = .ok (.aload_n 0, 1) := by decide +kernel
theorem dX4_wrong_2 : decode cX4_wrong 2 = .ok (.getfield 111, 3) := by decide +kernel
theorem dX4_wrong_5 : decode cX4_wrong 5 = .ok (.ifCond .ge 10, 3) := by decide +kernel
theorem dX4_wrong_8 : decode cX4_wrong 8 = .ok (.aload_n 0, 1) := by decide +kernel
theorem dX4_wrong_9 : decode cX4_wrong 9 = .ok (.getfield 108, 3) := by decide +kernel
theorem dX4_wrong_12 : decode cX4_wrong 12 = .ok (.goto 7, 3) := by decide +kernel
theorem dX4_wrong_15 : decode cX4_wrong 15 = .ok (.aload_n 0, 1) := by decide +kernel
theorem dX4_wrong_16 : decode cX4_wrong 16 = .ok (.getfield 111, 3) := by decide +kernel
theorem dX4_wrong_19 : decode cX4_wrong 19 = .ok (.putfield 111, 3) := by decide +kernel
theorem dX4_wrong_22 : decode cX4_wrong 22 = .ok (.return_, 1) := by decide +kernel
theorem dX4_takeNumber_0 : decode cX4_takeNumber 0 = .ok (.aload_n 0, 1) := by decide +kernel
theorem dX4_takeNumber_1 : decode cX4_takeNumber 1 = .ok (.getfield 111, 3) := by decide +kernel
theorem dX4_takeNumber_4 : decode cX4_takeNumber 4 = .ok (.ifCond .lt 5, 3) := by decide +kernel
theorem dX4_takeNumber_7 : decode cX4_takeNumber 7 = .ok (.iconst 0, 1) := by decide +kernel
theorem dX4_takeNumber_8 : decode cX4_takeNumber 8 = .ok (.ireturn, 1) := by decide +kernel
theorem dX4_takeNumber_9 : decode cX4_takeNumber 9 = .ok (.aload_n 0, 1) := by decide +kernel
theorem dX4_takeNumber_10 : decode cX4_takeNumber 10 = .ok (.iconst 0, 1) := by decide +kernel
theorem dX4_takeNumber_11 : decode cX4_takeNumber 11 = .ok (.putfield 114, 3) := by decide +kernel
theorem dX4_takeNumber_14 : decode cX4_takeNumber 14 = .ok (.aload_n 0, 1) := by decide +kernel
theorem dX4_takeNumber_15 : decode cX4_takeNumber 15 = .ok (.invokevirtual 117, 3) := by decide +kernel
theorem dX4_takeNumber_18 : decode cX4_takeNumber 18 = .ok (.istore_n 3, 1) := by decide +kernel
theorem dX4_takeNumber_19 : decode cX4_takeNumber 19 = .ok (.iconst 0, 1) := by decide +kernel
theorem dX4_takeNumber_20 : decode cX4_takeNumber 20 = .ok (.istore 4, 2) := by decide +kernel
theorem dX4_takeNumber_22 : decode cX4_takeNumber 22 = .ok (.aload_n 0, 1) := by decide +kernel
theorem dX4_takeNumber_23 : decode cX4_takeNumber 23 = .ok (.getfield 105, 3) := by decide +kernel
theorem dX4_takeNumber_26 : decode cX4_takeNumber 26 = .ok (.aload_n 0, 1) := by decide +kernel
theorem dX4_takeNumber_27 : decode cX4_takeNumber 27 = .ok (.getfield 102, 3) := by decide +kernel
theorem dX4_takeNumber_30 : decode cX4_takeNumber 30 = .ok (.if_icmp .ge 77, 3) := by decide +kernel
theorem dX4_takeNumber_33 : decode cX4_takeNumber 33 = .ok (.aload_n 0, 1) := by decide +kernel
theorem dX4_takeNumber_34 : decode cX4_takeNumber 34 = .ok (.getfield 22, 3) := by decide +kernel
theorem dX4_takeNumber_37 : decode cX4_takeNumber 37 = .ok (.aload_n 0, 1) := by decide +kernel
theorem dX4_takeNumber_38 : decode cX4_takeNumber 38 = .ok (.getfield 105, 3) := by decide +kernel
theorem dX4_takeNumber_41 : decode cX4_takeNumber 41 = .ok (.iaload, 1) := by decide +kernel
theorem dX4_takeNumber_42 : decode cX4_takeNumber 42 = .ok (.i2l, 1) := by decide +kernel
theorem dX4_takeNumber_43 : decode cX4_takeNumber 43 = .ok (.ldc2_w 121, 3) := by decide +kernel
theorem dX4_takeNumber_46 : decode cX4_takeNumber 46 = .ok (.ldc2_w 123, 3) := by decide +kernel
theorem dX4_takeNumber_49 : decode cX4_takeNumber 49 = .ok (.invokestatic 58, 3) := by decide +kernel
theorem dX4_takeNumber_52 : decode cX4_takeNumber 52 = .ok (.ifCond .eq 55, 3) := by decide +kernel
theorem dX4_takeNumber_55 : decode cX4_takeNumber 55 = .ok (.aload_n 0, 1) := by decide +kernel
theorem dX4_takeNumber_56 : decode cX4_takeNumber 56 = .ok (.iload 4, 2) := by decide +kernel
theorem dX4_takeNumber_58 : decode cX4_takeNumber 58 = .ok (.iconst 2, 1) := by decide +kernel
theorem dX4_takeNumber_59 : decode cX4_takeNumber 59 = .ok (.if_icmp .ge 26, 3) := by decide +kernel
theorem dX4_takeNumber_62 : decode cX4_takeNumber 62 = .ok (.bipush 10, 2) := by decide +kernel
theorem dX4_takeNumber_64 : decode cX4_takeNumber 64 = .ok (.aload_n 0, 1) := by decide +kernel
theorem dX4_takeNumber_65 : decode cX4_takeNumber 65 = .ok (.getfield 114, 3) := by decide +kernel
theorem dX4_takeNumber_68 : decode cX4_takeNumber 68 = .ok (.imul, 1) := by decide +kernel
theorem dX4_takeNumber_69 : decode cX4_takeNumber 69 = .ok (.aload_n 0, 1) := by decide +kernel
theorem dX4_takeNumber_70 : decode cX4_takeNumber 70 = .ok (.getfield 22, 3) := by decide +kernel
theorem dX4_takeNumber_73 : decode cX4_takeNumber 73 = .ok (.aload_n 0, 1) := by decide +kernel
theorem dX4_takeNumber_74 : decode cX4_takeNumber 74 = .ok (.getfield 105, 3) := by decide +kernel
theorem dX4_takeNumber_77 : decode cX4_takeNumber 77 = .ok (.iaload, 1) := by decide +kernel
theorem dX4_takeNumber_78 : decode cX4_takeNumber 78 = .ok (.iadd, 1) := by decide +kernel
theorem dX4_takeNumber_79 : decode cX4_takeNumber 79 = .ok (.bipush 48, 2) := by decide +kernel
theorem dX4_takeNumber_81 : decode cX4_takeNumber 81 = .ok (.isub, 1) := by decide +kernel
theorem dX4_takeNumber_82 : decode cX4_takeNumber 82 = .ok (.goto 6, 3) := by decide +kernel
theorem dX4_takeNumber_85 : decode cX4_takeNumber 85 = .ok (.sipush 1000, 3) := by decide +kernel
theorem dX4_takeNumber_88 : decode cX4_takeNumber 88 = .ok (.putfield 114, 3) := by decide +kernel
theorem dX4_takeNumber_91 : decode cX4_takeNumber 91 = .ok (.iinc 4 1, 3) := by decide +kernel
theorem dX4_takeNumber_94 : decode cX4_takeNumber 94 = .ok (.aload_n 0, 1) := by decide +kernel
theorem dX4_takeNumber_95 : decode cX4_takeNumber 95 = .ok (.dup, 1) := by decide +kernel
theorem dX4_takeNumber_96 : decode cX4_takeNumber 96 = .ok (.getfield 105, 3) := by decide +kernel
theorem dX4_takeNumber_99 : decode cX4_takeNumber 99 = .ok (.iconst 1, 1) := by decide +kernel
theorem dX4_takeNumber_100 : decode cX4_takeNumber 100 = .ok (.iadd, 1) := by decide +kernel
theorem dX4_takeNumber_101 : decode cX4_takeNumber 101 = .ok (.putfield 105, 3) := by decide +kernel
theorem dX4_takeNumber_104 : decode cX4_takeNumber 104 = .ok (.goto (-82), 3) := by decide +kernel
theorem dX4_takeNumber_107 : decode cX4_takeNumber 107 = .ok (.iload_n 3, 1) := by decide +kernel
theorem dX4_takeNumber_108 : decode cX4_takeNumber 108 = .ok (.ifCond .lt 23, 3) := by decide +kernel
theorem dX4_takeNumber_111 : decode cX4_takeNumber 111 = .ok (.iload 4, 2) := by decide +kernel
theorem dX4_takeNumber_113 : decode cX4_takeNumber 113 = .ok (.ifCond .eq 18, 3) := by decide +kernel
theorem dX4_takeNumber_116 : decode cX4_takeNumber 116 = .ok (.aload_n 0, 1) := by decide +kernel
theorem dX4_takeNumber_117 : decode cX4_takeNumber 117 = .ok (.getfield 114, 3) := by decide +kernel
theorem dX4_takeNumber_120 : decode cX4_takeNumber 120 = .ok (.i2l, 1) := by decide +kernel
theorem dX4_takeNumber_121 : decode cX4_takeNumber 121 = .ok (.iload_n 1, 1) := by decide +kernel
theorem dX4_takeNumber_122 : decode cX4_takeNumber 122 = .ok (.i2l, 1) := by decide +kernel
theorem dX4_takeNumber_123 : decode cX4_takeNumber 123 = .ok (.iload_n 2, 1) := by decide +kernel
theorem dX4_takeNumber_124 : decode cX4_takeNumber 124 = .ok (.i2l, 1) := by decide +kernel
theorem dX4_takeNumber_125 : decode cX4_takeNumber 125 = .ok (.invokestatic 58, 3) := by decide +kernel
theorem dX4_takeNumber_128 : decode cX4_takeNumber 128 = .ok (.ifCond .ne 7, 3) := by decide +kernel
theorem dX4_takeNumber_131 : decode cX4_takeNumber 131 = .ok (.aload_n 0, 1) := by decide +kernel
theorem dX4_takeNumber_132 : decode cX4_takeNumber 132 = .ok (.invokevirtual 125, 3) := by decide +kernel
theorem dX4_takeNumber_135 : decode cX4_takeNumber 135 = .ok (.aload_n 0, 1) := by decide +kernel
theorem dX4_takeNumber_136 : decode cX4_takeNumber 136 = .ok (.getfield 114, 3) := by decide +kernel
theorem dX4_takeNumber_139 : decode cX4_takeNumber 139 = .ok (.ireturn, 1) := by decide +kernel
theorem dX4_takeWord_0 : decode cX4_takeWord 0 = .ok (.aload_n 0, 1) := by decide +kernel
theorem dX4_takeWord_1 : decode cX4_takeWord 1 = .ok (.invokevirtual 117, 3) := by decide +kernel
theorem dX4_takeWord_4 : decode cX4_takeWord 4 = .ok (.istore_n 1, 1) := by decide +kernel
theorem dX4_takeWord_5 : decode cX4_takeWord 5 = .ok (.iconst 0, 1) := by decide +kernel
theorem dX4_takeWord_6 : decode cX4_takeWord 6 = .ok (.istore_n 2, 1) := by decide +kernel
theorem dX4_takeWord_7 : decode cX4_takeWord 7 = .ok (.aload_n 0, 1) := by decide +kernel
theorem dX4_takeWord_8 : decode cX4_takeWord 8 = .ok (.getfield 105, 3) := by decide +kernel
theorem dX4_takeWord_11 : decode cX4_takeWord 11 = .ok (.aload_n 0, 1) := by decide +kernel
theorem dX4_takeWord_12 : decode cX4_takeWord 12 = .ok (.getfield 102, 3) := by decide +kernel
theorem dX4_takeWord_15 : decode cX4_takeWord 15 = .ok (.if_icmp .ge 95, 3) := by decide +kernel
theorem dX4_takeWord_18 : decode cX4_takeWord 18 = .ok (.aload_n 0, 1) := by decide +kernel
theorem dX4_takeWord_19 : decode cX4_takeWord 19 = .ok (.getfield 22, 3) := by decide +kernel
theorem dX4_takeWord_22 : decode cX4_takeWord 22 = .ok (.aload_n 0, 1) := by decide +kernel
theorem dX4_takeWord_23 : decode cX4_takeWord 23 = .ok (.getfield 105, 3) := by decide +kernel
theorem dX4_takeWord_26 : decode cX4_takeWord 26 = .ok (.iaload, 1) := by decide +kernel
theorem dX4_takeWord_27 : decode cX4_takeWord 27 = .ok (.i2l, 1) := by decide +kernel
theorem dX4_takeWord_28 : decode cX4_takeWord 28 = .ok (.ldc2_w 128, 3) := by decide +kernel
theorem dX4_takeWord_31 : decode cX4_takeWord 31 = .ok (.ldc2_w 130, 3) := by decide +kernel
theorem dX4_takeWord_34 : decode cX4_takeWord 34 = .ok (.invokestatic 58, 3) := by decide +kernel
theorem dX4_takeWord_37 : decode cX4_takeWord 37 = .ok (.ifCond .eq 73, 3) := by decide +kernel
theorem dX4_takeWord_40 : decode cX4_takeWord 40 = .ok (.aload_n 0, 1) := by decide +kernel
theorem dX4_takeWord_41 : decode cX4_takeWord 41 = .ok (.getfield 105, 3) := by decide +kernel
theorem dX4_takeWord_44 : decode cX4_takeWord 44 = .ok (.aload_n 0, 1) := by decide +kernel
theorem dX4_takeWord_45 : decode cX4_takeWord 45 = .ok (.getfield 108, 3) := by decide +kernel
theorem dX4_takeWord_48 : decode cX4_takeWord 48 = .ok (.isub, 1) := by decide +kernel
theorem dX4_takeWord_49 : decode cX4_takeWord 49 = .ok (.bipush 6, 2) := by decide +kernel
theorem dX4_takeWord_51 : decode cX4_takeWord 51 = .ok (.if_icmp .ge 25, 3) := by decide +kernel
theorem dX4_takeWord_54 : decode cX4_takeWord 54 = .ok (.bipush 27, 2) := by decide +kernel
theorem dX4_takeWord_56 : decode cX4_takeWord 56 = .ok (.iload_n 2, 1) := by decide +kernel
theorem dX4_takeWord_57 : decode cX4_takeWord 57 = .ok (.imul, 1) := by decide +kernel
theorem dX4_takeWord_58 : decode cX4_takeWord 58 = .ok (.aload_n 0, 1) := by decide +kernel
theorem dX4_takeWord_59 : decode cX4_takeWord 59 = .ok (.getfield 22, 3) := by decide +kernel
theorem dX4_takeWord_62 : decode cX4_takeWord 62 = .ok (.aload_n 0, 1) := by decide +kernel
theorem dX4_takeWord_63 : decode cX4_takeWord 63 = .ok (.getfield 105, 3) := by decide +kernel
theorem dX4_takeWord_66 : decode cX4_takeWord 66 = .ok (.iaload, 1) := by decide +kernel
theorem dX4_takeWord_67 : decode cX4_takeWord 67 = .ok (.iadd, 1) := by decide +kernel
theorem dX4_takeWord_68 : decode cX4_takeWord 68 = .ok (.bipush 97, 2) := by decide +kernel
theorem dX4_takeWord_70 : decode cX4_takeWord 70 = .ok (.isub, 1) := by decide +kernel
theorem dX4_takeWord_71 : decode cX4_takeWord 71 = .ok (.iconst 1, 1) := by decide +kernel
theorem dX4_takeWord_72 : decode cX4_takeWord 72 = .ok (.iadd, 1) := by decide +kernel
theorem dX4_takeWord_73 : decode cX4_takeWord 73 = .ok (.goto 4, 3) := by decide +kernel
theorem dX4_takeWord_76 : decode cX4_takeWord 76 = .ok (.iconst (-1), 1) := by decide +kernel
theorem dX4_takeWord_77 : decode cX4_takeWord 77 = .ok (.istore_n 2, 1) := by decide +kernel
theorem dX4_takeWord_78 : decode cX4_takeWord 78 = .ok (.aload_n 0, 1) := by decide +kernel
theorem dX4_takeWord_79 : decode cX4_takeWord 79 = .ok (.getfield 105, 3) := by decide +kernel
theorem dX4_takeWord_82 : decode cX4_takeWord 82 = .ok (.aload_n 0, 1) := by decide +kernel
theorem dX4_takeWord_83 : decode cX4_takeWord 83 = .ok (.getfield 108, 3) := by decide +kernel
theorem dX4_takeWord_86 : decode cX4_takeWord 86 = .ok (.isub, 1) := by decide +kernel
theorem dX4_takeWord_87 : decode cX4_takeWord 87 = .ok (.iconst 5, 1) := by decide +kernel
theorem dX4_takeWord_88 : decode cX4_takeWord 88 = .ok (.if_icmp .ge 7, 3) := by decide +kernel
theorem dX4_takeWord_91 : decode cX4_takeWord 91 = .ok (.iload_n 2, 1) := by decide +kernel
theorem dX4_takeWord_92 : decode cX4_takeWord 92 = .ok (.goto 4, 3) := by decide +kernel
theorem dX4_takeWord_95 : decode cX4_takeWord 95 = .ok (.iconst (-1), 1) := by decide +kernel
theorem dX4_takeWord_96 : decode cX4_takeWord 96 = .ok (.istore_n 2, 1) := by decide +kernel
theorem dX4_takeWord_97 : decode cX4_takeWord 97 = .ok (.aload_n 0, 1) := by decide +kernel
theorem dX4_takeWord_98 : decode cX4_takeWord 98 = .ok (.dup, 1) := by decide +kernel
theorem dX4_takeWord_99 : decode cX4_takeWord 99 = .ok (.getfield 105, 3) := by decide +kernel
theorem dX4_takeWord_102 : decode cX4_takeWord 102 = .ok (.iconst 1, 1) := by decide +kernel
theorem dX4_takeWord_103 : decode cX4_takeWord 103 = .ok (.iadd, 1) := by decide +kernel
theorem dX4_takeWord_104 : decode cX4_takeWord 104 = .ok (.putfield 105, 3) := by decide +kernel
theorem dX4_takeWord_107 : decode cX4_takeWord 107 = .ok (.goto (-100), 3) := by decide +kernel
theorem dX4_takeWord_110 : decode cX4_takeWord 110 = .ok (.iload_n 1, 1) := by decide +kernel
theorem dX4_takeWord_111 : decode cX4_takeWord 111 = .ok (.ifCond .ge 7, 3) := by decide +kernel
theorem dX4_takeWord_114 : decode cX4_takeWord 114 = .ok (.iconst (-1), 1) := by decide +kernel
theorem dX4_takeWord_115 : decode cX4_takeWord 115 = .ok (.goto 4, 3) := by decide +kernel
theorem dX4_takeWord_118 : decode cX4_takeWord 118 = .ok (.iload_n 2, 1) := by decide +kernel
theorem dX4_takeWord_119 : decode cX4_takeWord 119 = .ok (.ireturn, 1) := by decide +kernel
theorem dX4_wordOf_0 : decode cX4_wordOf 0 = .ok (.bipush 27, 2) := by decide +kernel
theorem dX4_wordOf_2 : decode cX4_wordOf 2 = .ok (.bipush 27, 2) := by decide +kernel
theorem dX4_wordOf_4 : decode cX4_wordOf 4 = .ok (.iload_n 0, 1) := by decide +kernel
theorem dX4_wordOf_5 : decode cX4_wordOf 5 = .ok (.bipush 97, 2) := by decide +kernel
theorem dX4_wordOf_7 : decode cX4_wordOf 7 = .ok (.isub, 1) := by decide +kernel
theorem dX4_wordOf_8 : decode cX4_wordOf 8 = .ok (.iconst 1, 1) := by decide +kernel
theorem dX4_wordOf_9 : decode cX4_wordOf 9 = .ok (.iadd, 1) := by decide +kernel
theorem dX4_wordOf_10 : decode cX4_wordOf 10 = .ok (.imul, 1) := by decide +kernel
theorem dX4_wordOf_11 : decode cX4_wordOf 11 = .ok (.iload_n 1, 1) := by decide +kernel
theorem dX4_wordOf_12 : decode cX4_wordOf 12 = .ok (.iadd, 1) := by decide +kernel
theorem dX4_wordOf_13 : decode cX4_wordOf 13 = .ok (.bipush 97, 2) := by decide +kernel
theorem dX4_wordOf_15 : decode cX4_wordOf 15 = .ok (.isub, 1) := by decide +kernel
theorem dX4_wordOf_16 : decode cX4_wordOf 16 = .ok (.iconst 1, 1) := by decide +kernel
theorem dX4_wordOf_17 : decode cX4_wordOf 17 = .ok (.iadd, 1) := by decide +kernel
theorem dX4_wordOf_18 : decode cX4_wordOf 18 = .ok (.imul, 1) := by decide +kernel
theorem dX4_wordOf_19 : decode cX4_wordOf 19 = .ok (.iload_n 2, 1) := by decide +kernel
theorem dX4_wordOf_20 : decode cX4_wordOf 20 = .ok (.iadd, 1) := by decide +kernel
theorem dX4_wordOf_21 : decode cX4_wordOf 21 = .ok (.bipush 97, 2) := by decide +kernel
theorem dX4_wordOf_23 : decode cX4_wordOf 23 = .ok (.isub, 1) := by decide +kernel
theorem dX4_wordOf_24 : decode cX4_wordOf 24 = .ok (.iconst 1, 1) := by decide +kernel
theorem dX4_wordOf_25 : decode cX4_wordOf 25 = .ok (.iadd, 1) := by decide +kernel
theorem dX4_wordOf_26 : decode cX4_wordOf 26 = .ok (.istore 5, 2) := by decide +kernel
theorem dX4_wordOf_28 : decode cX4_wordOf 28 = .ok (.iload_n 3, 1) := by decide +kernel
theorem dX4_wordOf_29 : decode cX4_wordOf 29 = .ok (.ifCond .le 18, 3) := by decide +kernel
theorem dX4_wordOf_32 : decode cX4_wordOf 32 = .ok (.bipush 27, 2) := by decide +kernel
theorem dX4_wordOf_34 : decode cX4_wordOf 34 = .ok (.iload 5, 2) := by decide +kernel
theorem dX4_wordOf_36 : decode cX4_wordOf 36 = .ok (.imul, 1) := by decide +kernel
theorem dX4_wordOf_37 : decode cX4_wordOf 37 = .ok (.iload_n 3, 1) := by decide +kernel
theorem dX4_wordOf_38 : decode cX4_wordOf 38 = .ok (.iadd, 1) := by decide +kernel
theorem dX4_wordOf_39 : decode cX4_wordOf 39 = .ok (.bipush 97, 2) := by decide +kernel
theorem dX4_wordOf_41 : decode cX4_wordOf 41 = .ok (.isub, 1) := by decide +kernel
theorem dX4_wordOf_42 : decode cX4_wordOf 42 = .ok (.iconst 1, 1) := by decide +kernel
theorem dX4_wordOf_43 : decode cX4_wordOf 43 = .ok (.iadd, 1) := by decide +kernel
theorem dX4_wordOf_44 : decode cX4_wordOf 44 = .ok (.goto 5, 3) := by decide +kernel
theorem dX4_wordOf_47 : decode cX4_wordOf 47 = .ok (.iload 5, 2) := by decide +kernel
theorem dX4_wordOf_49 : decode cX4_wordOf 49 = .ok (.istore 5, 2) := by decide +kernel
theorem dX4_wordOf_51 : decode cX4_wordOf 51 = .ok (.iload 4, 2) := by decide +kernel
theorem dX4_wordOf_53 : decode cX4_wordOf 53 = .ok (.ifCond .le 19, 3) := by decide +kernel
theorem dX4_wordOf_56 : decode cX4_wordOf 56 = .ok (.bipush 27, 2) := by decide +kernel
theorem dX4_wordOf_58 : decode cX4_wordOf 58 = .ok (.iload 5, 2) := by decide +kernel
theorem dX4_wordOf_60 : decode cX4_wordOf 60 = .ok (.imul, 1) := by decide +kernel
theorem dX4_wordOf_61 : decode cX4_wordOf 61 = .ok (.iload 4, 2) := by decide +kernel
theorem dX4_wordOf_63 : decode cX4_wordOf 63 = .ok (.iadd, 1) := by decide +kernel
theorem dX4_wordOf_64 : decode cX4_wordOf 64 = .ok (.bipush 97, 2) := by decide +kernel
theorem dX4_wordOf_66 : decode cX4_wordOf 66 = .ok (.isub, 1) := by decide +kernel
theorem dX4_wordOf_67 : decode cX4_wordOf 67 = .ok (.iconst 1, 1) := by decide +kernel
theorem dX4_wordOf_68 : decode cX4_wordOf 68 = .ok (.iadd, 1) := by decide +kernel
theorem dX4_wordOf_69 : decode cX4_wordOf 69 = .ok (.goto 5, 3) := by decide +kernel
theorem dX4_wordOf_72 : decode cX4_wordOf 72 = .ok (.iload 5, 2) := by decide +kernel
theorem dX4_wordOf_74 : decode cX4_wordOf 74 = .ok (.ireturn, 1) := by decide +kernel
theorem dX4_takeMood_0 : decode cX4_takeMood 0 = .ok (.aload_n 0, 1) := by decide +kernel
theorem dX4_takeMood_1 : decode cX4_takeMood 1 = .ok (.iconst 0, 1) := by decide +kernel
theorem dX4_takeMood_2 : decode cX4_takeMood 2 = .ok (.aload_n 0, 1) := by decide +kernel
theorem dX4_takeMood_3 : decode cX4_takeMood 3 = .ok (.getfield 7, 3) := by decide +kernel
theorem dX4_takeMood_6 : decode cX4_takeMood 6 = .ok (.iconst 3, 1) := by decide +kernel
theorem dX4_takeMood_7 : decode cX4_takeMood 7 = .ok (.iaload, 1) := by decide +kernel
theorem dX4_takeMood_8 : decode cX4_takeMood 8 = .ok (.iconst 1, 1) := by decide +kernel
theorem dX4_takeMood_9 : decode cX4_takeMood 9 = .ok (.isub, 1) := by decide +kernel
theorem dX4_takeMood_10 : decode cX4_takeMood 10 = .ok (.invokevirtual 132, 3) := by decide +kernel
theorem dX4_takeMood_13 : decode cX4_takeMood 13 = .ok (.istore_n 1, 1) := by decide +kernel
theorem dX4_takeMood_14 : decode cX4_takeMood 14 = .ok (.aload_n 0, 1) := by decide +kernel
theorem dX4_takeMood_15 : decode cX4_takeMood 15 = .ok (.iconst 0, 1) := by decide +kernel
theorem dX4_takeMood_16 : decode cX4_takeMood 16 = .ok (.bipush 99, 2) := by decide +kernel
theorem dX4_takeMood_18 : decode cX4_takeMood 18 = .ok (.invokevirtual 132, 3) := by decide +kernel
theorem dX4_takeMood_21 : decode cX4_takeMood 21 = .ok (.istore_n 2, 1) := by decide +kernel
theorem dX4_takeMood_22 : decode cX4_takeMood 22 = .ok (.aload_n 0, 1) := by decide +kernel
theorem dX4_takeMood_23 : decode cX4_takeMood 23 = .ok (.getfield 111, 3) := by decide +kernel
theorem dX4_takeMood_26 : decode cX4_takeMood 26 = .ok (.ifCond .ge 17, 3) := by decide +kernel
theorem dX4_takeMood_29 : decode cX4_takeMood 29 = .ok (.aload_n 0, 1) := by decide +kernel
theorem dX4_takeMood_30 : decode cX4_takeMood 30 = .ok (.getfield 7, 3) := by decide +kernel
theorem dX4_takeMood_33 : decode cX4_takeMood 33 = .ok (.iconst 1, 1) := by decide +kernel
theorem dX4_takeMood_34 : decode cX4_takeMood 34 = .ok (.iload_n 1, 1) := by decide +kernel
theorem dX4_takeMood_35 : decode cX4_takeMood 35 = .ok (.iastore, 1) := by decide +kernel
theorem dX4_takeMood_36 : decode cX4_takeMood 36 = .ok (.aload_n 0, 1) := by decide +kernel
theorem dX4_takeMood_37 : decode cX4_takeMood 37 = .ok (.getfield 7, 3) := by decide +kernel
theorem dX4_takeMood_40 : decode cX4_takeMood 40 = .ok (.iconst 2, 1) := by decide +kernel
theorem dX4_takeMood_41 : decode cX4_takeMood 41 = .ok (.iload_n 2, 1) := by decide +kernel
theorem dX4_takeMood_42 : decode cX4_takeMood 42 = .ok (.iastore, 1) := by decide +kernel
theorem dX4_takeMood_43 : decode cX4_takeMood 43 = .ok (.return_, 1) := by decide +kernel
theorem dX4_takeBound_0 : decode cX4_takeBound 0 = .ok (.aload_n 0, 1) := by decide +kernel
theorem dX4_takeBound_1 : decode cX4_takeBound 1 = .ok (.aload_n 0, 1) := by decide +kernel
theorem dX4_takeBound_2 : decode cX4_takeBound 2 = .ok (.getfield 7, 3) := by decide +kernel
theorem dX4_takeBound_5 : decode cX4_takeBound 5 = .ok (.iconst 1, 1) := by decide +kernel
theorem dX4_takeBound_6 : decode cX4_takeBound 6 = .ok (.iaload, 1) := by decide +kernel
theorem dX4_takeBound_7 : decode cX4_takeBound 7 = .ok (.iconst 1, 1) := by decide +kernel
theorem dX4_takeBound_8 : decode cX4_takeBound 8 = .ok (.iadd, 1) := by decide +kernel
theorem dX4_takeBound_9 : decode cX4_takeBound 9 = .ok (.bipush 99, 2) := by decide +kernel
theorem dX4_takeBound_11 : decode cX4_takeBound 11 = .ok (.invokevirtual 132, 3) := by decide +kernel
theorem dX4_takeBound_14 : decode cX4_takeBound 14 = .ok (.istore_n 1, 1) := by decide +kernel
theorem dX4_takeBound_15 : decode cX4_takeBound 15 = .ok (.aload_n 0, 1) := by decide +kernel
theorem dX4_takeBound_16 : decode cX4_takeBound 16 = .ok (.iconst 1, 1) := by decide +kernel
theorem dX4_takeBound_17 : decode cX4_takeBound 17 = .ok (.bipush 99, 2) := by decide +kernel
theorem dX4_takeBound_19 : decode cX4_takeBound 19 = .ok (.invokevirtual 132, 3) := by decide +kernel
theorem dX4_takeBound_22 : decode cX4_takeBound 22 = .ok (.istore_n 2, 1) := by decide +kernel
theorem dX4_takeBound_23 : decode cX4_takeBound 23 = .ok (.aload_n 0, 1) := by decide +kernel
theorem dX4_takeBound_24 : decode cX4_takeBound 24 = .ok (.getfield 111, 3) := by decide +kernel
theorem dX4_takeBound_27 : decode cX4_takeBound 27 = .ok (.ifCond .ge 17, 3) := by decide +kernel
theorem dX4_takeBound_30 : decode cX4_takeBound 30 = .ok (.aload_n 0, 1) := by decide +kernel
theorem dX4_takeBound_31 : decode cX4_takeBound 31 = .ok (.getfield 7, 3) := by decide +kernel
theorem dX4_takeBound_34 : decode cX4_takeBound 34 = .ok (.iconst 3, 1) := by decide +kernel
theorem dX4_takeBound_35 : decode cX4_takeBound 35 = .ok (.iload_n 1, 1) := by decide +kernel
theorem dX4_takeBound_36 : decode cX4_takeBound 36 = .ok (.iastore, 1) := by decide +kernel
theorem dX4_takeBound_37 : decode cX4_takeBound 37 = .ok (.aload_n 0, 1) := by decide +kernel
theorem dX4_takeBound_38 : decode cX4_takeBound 38 = .ok (.getfield 7, 3) := by decide +kernel
theorem dX4_takeBound_41 : decode cX4_takeBound 41 = .ok (.iconst 4, 1) := by decide +kernel
theorem dX4_takeBound_42 : decode cX4_takeBound 42 = .ok (.iload_n 2, 1) := by decide +kernel
theorem dX4_takeBound_43 : decode cX4_takeBound 43 = .ok (.iastore, 1) := by decide +kernel
theorem dX4_takeBound_44 : decode cX4_takeBound 44 = .ok (.return_, 1) := by decide +kernel
theorem dX4_takeVow_0 : decode cX4_takeVow 0 = .ok (.aload_n 0, 1) := by decide +kernel
theorem dX4_takeVow_1 : decode cX4_takeVow 1 = .ok (.iconst 0, 1) := by decide +kernel
theorem dX4_takeVow_2 : decode cX4_takeVow 2 = .ok (.bipush 7, 2) := by decide +kernel
theorem dX4_takeVow_4 : decode cX4_takeVow 4 = .ok (.invokevirtual 132, 3) := by decide +kernel
theorem dX4_takeVow_7 : decode cX4_takeVow 7 = .ok (.istore_n 1, 1) := by decide +kernel
theorem dX4_takeVow_8 : decode cX4_takeVow 8 = .ok (.aload_n 0, 1) := by decide +kernel
theorem dX4_takeVow_9 : decode cX4_takeVow 9 = .ok (.iconst 0, 1) := by decide +kernel
theorem dX4_takeVow_10 : decode cX4_takeVow 10 = .ok (.iconst 4, 1) := by decide +kernel
theorem dX4_takeVow_11 : decode cX4_takeVow 11 = .ok (.invokevirtual 132, 3) := by decide +kernel
theorem dX4_takeVow_14 : decode cX4_takeVow 14 = .ok (.istore_n 2, 1) := by decide +kernel
theorem dX4_takeVow_15 : decode cX4_takeVow 15 = .ok (.aload_n 0, 1) := by decide +kernel
theorem dX4_takeVow_16 : decode cX4_takeVow 16 = .ok (.getfield 111, 3) := by decide +kernel
theorem dX4_takeVow_19 : decode cX4_takeVow 19 = .ok (.ifCond .ge 13, 3) := by decide +kernel
theorem dX4_takeVow_22 : decode cX4_takeVow 22 = .ok (.aload_n 0, 1) := by decide +kernel
theorem dX4_takeVow_23 : decode cX4_takeVow 23 = .ok (.getfield 7, 3) := by decide +kernel
theorem dX4_takeVow_26 : decode cX4_takeVow 26 = .ok (.bipush 7, 2) := by decide +kernel
theorem dX4_takeVow_28 : decode cX4_takeVow 28 = .ok (.iload_n 1, 1) := by decide +kernel
theorem dX4_takeVow_29 : decode cX4_takeVow 29 = .ok (.iadd, 1) := by decide +kernel
theorem dX4_takeVow_30 : decode cX4_takeVow 30 = .ok (.iload_n 2, 1) := by decide +kernel
theorem dX4_takeVow_31 : decode cX4_takeVow 31 = .ok (.iastore, 1) := by decide +kernel
theorem dX4_takeVow_32 : decode cX4_takeVow 32 = .ok (.return_, 1) := by decide +kernel
theorem dX4_takeSay_0 : decode cX4_takeSay 0 = .ok (.aload_n 0, 1) := by decide +kernel
theorem dX4_takeSay_1 : decode cX4_takeSay 1 = .ok (.getfield 7, 3) := by decide +kernel
theorem dX4_takeSay_4 : decode cX4_takeSay 4 = .ok (.bipush 6, 2) := by decide +kernel
theorem dX4_takeSay_6 : decode cX4_takeSay 6 = .ok (.iaload, 1) := by decide +kernel
theorem dX4_takeSay_7 : decode cX4_takeSay 7 = .ok (.ifCond .eq 13, 3) := by decide +kernel
theorem dX4_takeSay_10 : decode cX4_takeSay 10 = .ok (.aload_n 0, 1) := by decide +kernel
theorem dX4_takeSay_11 : decode cX4_takeSay 11 = .ok (.invokevirtual 117, 3) := by decide +kernel
theorem dX4_takeSay_14 : decode cX4_takeSay 14 = .ok (.istore_n 1, 1) := by decide +kernel
theorem dX4_takeSay_15 : decode cX4_takeSay 15 = .ok (.aload_n 0, 1) := by decide +kernel
theorem dX4_takeSay_16 : decode cX4_takeSay 16 = .ok (.invokevirtual 125, 3) := by decide +kernel
theorem dX4_takeSay_19 : decode cX4_takeSay 19 = .ok (.return_, 1) := by decide +kernel
theorem dX4_takeSay_20 : decode cX4_takeSay 20 = .ok (.aload_n 0, 1) := by decide +kernel
theorem dX4_takeSay_21 : decode cX4_takeSay 21 = .ok (.iconst 0, 1) := by decide +kernel
theorem dX4_takeSay_22 : decode cX4_takeSay 22 = .ok (.iconst 5, 1) := by decide +kernel
theorem dX4_takeSay_23 : decode cX4_takeSay 23 = .ok (.invokevirtual 132, 3) := by decide +kernel
theorem dX4_takeSay_26 : decode cX4_takeSay 26 = .ok (.istore_n 1, 1) := by decide +kernel
theorem dX4_takeSay_27 : decode cX4_takeSay 27 = .ok (.aload_n 0, 1) := by decide +kernel
theorem dX4_takeSay_28 : decode cX4_takeSay 28 = .ok (.getfield 111, 3) := by decide +kernel
theorem dX4_takeSay_31 : decode cX4_takeSay 31 = .ok (.ifCond .ge 17, 3) := by decide +kernel
theorem dX4_takeSay_34 : decode cX4_takeSay 34 = .ok (.aload_n 0, 1) := by decide +kernel
theorem dX4_takeSay_35 : decode cX4_takeSay 35 = .ok (.invokevirtual 136, 3) := by decide +kernel
theorem dX4_takeSay_38 : decode cX4_takeSay 38 = .ok (.aload_n 0, 1) := by decide +kernel
theorem dX4_takeSay_39 : decode cX4_takeSay 39 = .ok (.iload_n 1, 1) := by decide +kernel
theorem dX4_takeSay_40 : decode cX4_takeSay 40 = .ok (.iconst 1, 1) := by decide +kernel
theorem dX4_takeSay_41 : decode cX4_takeSay 41 = .ok (.invokevirtual 139, 3) := by decide +kernel
theorem dX4_takeSay_44 : decode cX4_takeSay 44 = .ok (.aload_n 0, 1) := by decide +kernel
theorem dX4_takeSay_45 : decode cX4_takeSay 45 = .ok (.invokevirtual 143, 3) := by decide +kernel
theorem dX4_takeSay_48 : decode cX4_takeSay 48 = .ok (.return_, 1) := by decide +kernel
theorem dX4_takeItem_0 : decode cX4_takeItem 0 = .ok (.aload_n 0, 1) := by decide +kernel
theorem dX4_takeItem_1 : decode cX4_takeItem 1 = .ok (.invokevirtual 146, 3) := by decide +kernel
theorem dX4_takeItem_4 : decode cX4_takeItem 4 = .ok (.istore_n 2, 1) := by decide +kernel
theorem dX4_takeItem_5 : decode cX4_takeItem 5 = .ok (.bipush 106, 2) := by decide +kernel
theorem dX4_takeItem_7 : decode cX4_takeItem 7 = .ok (.bipush 97, 2) := by decide +kernel
theorem dX4_takeItem_9 : decode cX4_takeItem 9 = .ok (.bipush 114, 2) := by decide +kernel
theorem dX4_takeItem_11 : decode cX4_takeItem 11 = .ok (.iconst 0, 1) := by decide +kernel
theorem dX4_takeItem_12 : decode cX4_takeItem 12 = .ok (.iconst 0, 1) := by decide +kernel
theorem dX4_takeItem_13 : decode cX4_takeItem 13 = .ok (.invokestatic 149, 3) := by decide +kernel
theorem dX4_takeItem_16 : decode cX4_takeItem 16 = .ok (.istore_n 3, 1) := by decide +kernel
theorem dX4_takeItem_17 : decode cX4_takeItem 17 = .ok (.iload_n 1, 1) := by decide +kernel
theorem dX4_takeItem_18 : decode cX4_takeItem 18 = .ok (.ifCond .ne 11, 3) := by decide +kernel
theorem dX4_takeItem_21 : decode cX4_takeItem 21 = .ok (.iload_n 2, 1) := by decide +kernel
theorem dX4_takeItem_22 : decode cX4_takeItem 22 = .ok (.iload_n 3, 1) := by decide +kernel
theorem dX4_takeItem_23 : decode cX4_takeItem 23 = .ok (.if_icmp .eq 18, 3) := by decide +kernel
theorem dX4_takeItem_26 : decode cX4_takeItem 26 = .ok (.goto 8, 3) := by decide +kernel
theorem dX4_takeItem_29 : decode cX4_takeItem 29 = .ok (.iload_n 2, 1) := by decide +kernel
theorem dX4_takeItem_30 : decode cX4_takeItem 30 = .ok (.iload_n 3, 1) := by decide +kernel
theorem dX4_takeItem_31 : decode cX4_takeItem 31 = .ok (.if_icmp .ne 10, 3) := by decide +kernel
theorem dX4_takeItem_34 : decode cX4_takeItem 34 = .ok (.aload_n 0, 1) := by decide +kernel
theorem dX4_takeItem_35 : decode cX4_takeItem 35 = .ok (.invokevirtual 125, 3) := by decide +kernel
theorem dX4_takeItem_38 : decode cX4_takeItem 38 = .ok (.goto 133, 3) := by decide +kernel
theorem dX4_takeItem_41 : decode cX4_takeItem 41 = .ok (.iload_n 2, 1) := by decide +kernel
theorem dX4_takeItem_42 : decode cX4_takeItem 42 = .ok (.iload_n 3, 1) := by decide +kernel
theorem dX4_takeItem_43 : decode cX4_takeItem 43 = .ok (.if_icmp .ne 33, 3) := by decide +kernel
theorem dX4_takeItem_46 : decode cX4_takeItem 46 = .ok (.aload_n 0, 1) := by decide +kernel
theorem dX4_takeItem_47 : decode cX4_takeItem 47 = .ok (.iconst 0, 1) := by decide +kernel
theorem dX4_takeItem_48 : decode cX4_takeItem 48 = .ok (.iconst 5, 1) := by decide +kernel
theorem dX4_takeItem_49 : decode cX4_takeItem 49 = .ok (.invokevirtual 132, 3) := by decide +kernel
theorem dX4_takeItem_52 : decode cX4_takeItem 52 = .ok (.istore 4, 2) := by decide +kernel
theorem dX4_takeItem_54 : decode cX4_takeItem 54 = .ok (.aload_n 0, 1) := by decide +kernel
theorem dX4_takeItem_55 : decode cX4_takeItem 55 = .ok (.getfield 7, 3) := by decide +kernel
theorem dX4_takeItem_58 : decode cX4_takeItem 58 = .ok (.iconst 0, 1) := by decide +kernel
theorem dX4_takeItem_59 : decode cX4_takeItem 59 = .ok (.aload_n 0, 1) := by decide +kernel
theorem dX4_takeItem_60 : decode cX4_takeItem 60 = .ok (.getfield 111, 3) := by decide +kernel
theorem dX4_takeItem_63 : decode cX4_takeItem 63 = .ok (.ifCond .ge 8, 3) := by decide +kernel
theorem dX4_takeItem_66 : decode cX4_takeItem 66 = .ok (.iload 4, 2) := by decide +kernel
theorem dX4_takeItem_68 : decode cX4_takeItem 68 = .ok (.goto 4, 3) := by decide +kernel
theorem dX4_takeItem_71 : decode cX4_takeItem 71 = .ok (.iconst 0, 1) := by decide +kernel
theorem dX4_takeItem_72 : decode cX4_takeItem 72 = .ok (.iastore, 1) := by decide +kernel
theorem dX4_takeItem_73 : decode cX4_takeItem 73 = .ok (.goto 98, 3) := by decide +kernel
theorem dX4_takeItem_76 : decode cX4_takeItem 76 = .ok (.iload_n 2, 1) := by decide +kernel
theorem dX4_takeItem_77 : decode cX4_takeItem 77 = .ok (.bipush 109, 2) := by decide +kernel
theorem dX4_takeItem_79 : decode cX4_takeItem 79 = .ok (.bipush 111, 2) := by decide +kernel
theorem dX4_takeItem_81 : decode cX4_takeItem 81 = .ok (.bipush 111, 2) := by decide +kernel
theorem dX4_takeItem_83 : decode cX4_takeItem 83 = .ok (.bipush 100, 2) := by decide +kernel
theorem dX4_takeItem_85 : decode cX4_takeItem 85 = .ok (.iconst 0, 1) := by decide +kernel
theorem dX4_takeItem_86 : decode cX4_takeItem 86 = .ok (.invokestatic 149, 3) := by decide +kernel
theorem dX4_takeItem_89 : decode cX4_takeItem 89 = .ok (.if_icmp .ne 10, 3) := by decide +kernel
theorem dX4_takeItem_92 : decode cX4_takeItem 92 = .ok (.aload_n 0, 1) := by decide +kernel
theorem dX4_takeItem_93 : decode cX4_takeItem 93 = .ok (.invokevirtual 153, 3) := by decide +kernel
theorem dX4_takeItem_96 : decode cX4_takeItem 96 = .ok (.goto 75, 3) := by decide +kernel
theorem dX4_takeItem_99 : decode cX4_takeItem 99 = .ok (.iload_n 2, 1) := by decide +kernel
theorem dX4_takeItem_100 : decode cX4_takeItem 100 = .ok (.bipush 98, 2) := by decide +kernel
theorem dX4_takeItem_102 : decode cX4_takeItem 102 = .ok (.bipush 111, 2) := by decide +kernel
theorem dX4_takeItem_104 : decode cX4_takeItem 104 = .ok (.bipush 117, 2) := by decide +kernel
theorem dX4_takeItem_106 : decode cX4_takeItem 106 = .ok (.bipush 110, 2) := by decide +kernel
theorem dX4_takeItem_108 : decode cX4_takeItem 108 = .ok (.bipush 100, 2) := by decide +kernel
theorem dX4_takeItem_110 : decode cX4_takeItem 110 = .ok (.invokestatic 149, 3) := by decide +kernel
theorem dX4_takeItem_113 : decode cX4_takeItem 113 = .ok (.if_icmp .ne 10, 3) := by decide +kernel
theorem dX4_takeItem_116 : decode cX4_takeItem 116 = .ok (.aload_n 0, 1) := by decide +kernel
theorem dX4_takeItem_117 : decode cX4_takeItem 117 = .ok (.invokevirtual 156, 3) := by decide +kernel
theorem dX4_takeItem_120 : decode cX4_takeItem 120 = .ok (.goto 51, 3) := by decide +kernel
theorem dX4_takeItem_123 : decode cX4_takeItem 123 = .ok (.iload_n 2, 1) := by decide +kernel
theorem dX4_takeItem_124 : decode cX4_takeItem 124 = .ok (.bipush 118, 2) := by decide +kernel
theorem dX4_takeItem_126 : decode cX4_takeItem 126 = .ok (.bipush 111, 2) := by decide +kernel
theorem dX4_takeItem_128 : decode cX4_takeItem 128 = .ok (.bipush 119, 2) := by decide +kernel
theorem dX4_takeItem_130 : decode cX4_takeItem 130 = .ok (.iconst 0, 1) := by decide +kernel
theorem dX4_takeItem_131 : decode cX4_takeItem 131 = .ok (.iconst 0, 1) := by decide +kernel
theorem dX4_takeItem_132 : decode cX4_takeItem 132 = .ok (.invokestatic 149, 3) := by decide +kernel
theorem dX4_takeItem_135 : decode cX4_takeItem 135 = .ok (.if_icmp .ne 10, 3) := by decide +kernel
theorem dX4_takeItem_138 : decode cX4_takeItem 138 = .ok (.aload_n 0, 1) := by decide +kernel
theorem dX4_takeItem_139 : decode cX4_takeItem 139 = .ok (.invokevirtual 159, 3) := by decide +kernel
theorem dX4_takeItem_142 : decode cX4_takeItem 142 = .ok (.goto 29, 3) := by decide +kernel
theorem dX4_takeItem_145 : decode cX4_takeItem 145 = .ok (.iload_n 2, 1) := by decide +kernel
theorem dX4_takeItem_146 : decode cX4_takeItem 146 = .ok (.bipush 115, 2) := by decide +kernel
theorem dX4_takeItem_148 : decode cX4_takeItem 148 = .ok (.bipush 97, 2) := by decide +kernel
theorem dX4_takeItem_150 : decode cX4_takeItem 150 = .ok (.bipush 121, 2) := by decide +kernel
theorem dX4_takeItem_152 : decode cX4_takeItem 152 = .ok (.iconst 0, 1) := by decide +kernel
theorem dX4_takeItem_153 : decode cX4_takeItem 153 = .ok (.iconst 0, 1) := by decide +kernel
theorem dX4_takeItem_154 : decode cX4_takeItem 154 = .ok (.invokestatic 149, 3) := by decide +kernel
theorem dX4_takeItem_157 : decode cX4_takeItem 157 = .ok (.if_icmp .ne 10, 3) := by decide +kernel
theorem dX4_takeItem_160 : decode cX4_takeItem 160 = .ok (.aload_n 0, 1) := by decide +kernel
theorem dX4_takeItem_161 : decode cX4_takeItem 161 = .ok (.invokevirtual 162, 3) := by decide +kernel
theorem dX4_takeItem_164 : decode cX4_takeItem 164 = .ok (.goto 7, 3) := by decide +kernel
theorem dX4_takeItem_167 : decode cX4_takeItem 167 = .ok (.aload_n 0, 1) := by decide +kernel
theorem dX4_takeItem_168 : decode cX4_takeItem 168 = .ok (.invokevirtual 125, 3) := by decide +kernel
theorem dX4_takeItem_171 : decode cX4_takeItem 171 = .ok (.aload_n 0, 1) := by decide +kernel
theorem dX4_takeItem_172 : decode cX4_takeItem 172 = .ok (.getfield 111, 3) := by decide +kernel
theorem dX4_takeItem_175 : decode cX4_takeItem 175 = .ok (.ifCond .ge 16, 3) := by decide +kernel
theorem dX4_takeItem_178 : decode cX4_takeItem 178 = .ok (.aload_n 0, 1) := by decide +kernel
theorem dX4_takeItem_179 : decode cX4_takeItem 179 = .ok (.invokevirtual 117, 3) := by decide +kernel
theorem dX4_takeItem_182 : decode cX4_takeItem 182 = .ok (.bipush 59, 2) := by decide +kernel
theorem dX4_takeItem_184 : decode cX4_takeItem 184 = .ok (.if_icmp .eq 7, 3) := by decide +kernel
theorem dX4_takeItem_187 : decode cX4_takeItem 187 = .ok (.aload_n 0, 1) := by decide +kernel
theorem dX4_takeItem_188 : decode cX4_takeItem 188 = .ok (.invokevirtual 125, 3) := by decide +kernel
theorem dX4_takeItem_191 : decode cX4_takeItem 191 = .ok (.aload_n 0, 1) := by decide +kernel
theorem dX4_takeItem_192 : decode cX4_takeItem 192 = .ok (.dup, 1) := by decide +kernel
theorem dX4_takeItem_193 : decode cX4_takeItem 193 = .ok (.getfield 105, 3) := by decide +kernel
theorem dX4_takeItem_196 : decode cX4_takeItem 196 = .ok (.iconst 1, 1) := by decide +kernel
theorem dX4_takeItem_197 : decode cX4_takeItem 197 = .ok (.iadd, 1) := by decide +kernel
theorem dX4_takeItem_198 : decode cX4_takeItem 198 = .ok (.putfield 105, 3) := by decide +kernel
theorem dX4_takeItem_201 : decode cX4_takeItem 201 = .ok (.return_, 1) := by decide +kernel
theorem dX4_read_0 : decode cX4_read 0 = .ok (.iconst 0, 1) := by decide +kernel
theorem dX4_read_1 : decode cX4_read 1 = .ok (.istore_n 1, 1) := by decide +kernel
theorem dX4_read_2 : decode cX4_read 2 = .ok (.iload_n 1, 1) := by decide +kernel
theorem dX4_read_3 : decode cX4_read 3 = .ok (.bipush 73, 2) := by decide +kernel
theorem dX4_read_5 : decode cX4_read 5 = .ok (.if_icmp .ge 21, 3) := by decide +kernel
theorem dX4_read_8 : decode cX4_read 8 = .ok (.aload_n 0, 1) := by decide +kernel
theorem dX4_read_9 : decode cX4_read 9 = .ok (.getfield 25, 3) := by decide +kernel
theorem dX4_read_12 : decode cX4_read 12 = .ok (.iload_n 1, 1) := by decide +kernel
theorem dX4_read_13 : decode cX4_read 13 = .ok (.aload_n 0, 1) := by decide +kernel
theorem dX4_read_14 : decode cX4_read 14 = .ok (.getfield 7, 3) := by decide +kernel
theorem dX4_read_17 : decode cX4_read 17 = .ok (.iload_n 1, 1) := by decide +kernel
theorem dX4_read_18 : decode cX4_read 18 = .ok (.iaload, 1) := by decide +kernel
theorem dX4_read_19 : decode cX4_read 19 = .ok (.iastore, 1) := by decide +kernel
theorem dX4_read_20 : decode cX4_read 20 = .ok (.iinc 1 1, 3) := by decide +kernel
theorem dX4_read_23 : decode cX4_read 23 = .ok (.goto (-21), 3) := by decide +kernel
theorem dX4_read_26 : decode cX4_read 26 = .ok (.aload_n 0, 1) := by decide +kernel
theorem dX4_read_27 : decode cX4_read 27 = .ok (.iconst 0, 1) := by decide +kernel
theorem dX4_read_28 : decode cX4_read 28 = .ok (.invokevirtual 52, 3) := by decide +kernel
theorem dX4_read_31 : decode cX4_read 31 = .ok (.aload_n 0, 1) := by decide +kernel
theorem dX4_read_32 : decode cX4_read 32 = .ok (.iconst 0, 1) := by decide +kernel
theorem dX4_read_33 : decode cX4_read 33 = .ok (.putfield 105, 3) := by decide +kernel
theorem dX4_read_36 : decode cX4_read 36 = .ok (.aload_n 0, 1) := by decide +kernel
theorem dX4_read_37 : decode cX4_read 37 = .ok (.iconst (-1), 1) := by decide +kernel
theorem dX4_read_38 : decode cX4_read 38 = .ok (.putfield 111, 3) := by decide +kernel
theorem dX4_read_41 : decode cX4_read 41 = .ok (.iconst 0, 1) := by decide +kernel
theorem dX4_read_42 : decode cX4_read 42 = .ok (.istore_n 1, 1) := by decide +kernel
theorem dX4_read_43 : decode cX4_read 43 = .ok (.aload_n 0, 1) := by decide +kernel
theorem dX4_read_44 : decode cX4_read 44 = .ok (.getfield 111, 3) := by decide +kernel
theorem dX4_read_47 : decode cX4_read 47 = .ok (.ifCond .ge 25, 3) := by decide +kernel
theorem dX4_read_50 : decode cX4_read 50 = .ok (.aload_n 0, 1) := by decide +kernel
theorem dX4_read_51 : decode cX4_read 51 = .ok (.invokevirtual 117, 3) := by decide +kernel
theorem dX4_read_54 : decode cX4_read 54 = .ok (.ifCond .ge 7, 3) := by decide +kernel
theorem dX4_read_57 : decode cX4_read 57 = .ok (.iload_n 1, 1) := by decide +kernel
theorem dX4_read_58 : decode cX4_read 58 = .ok (.ifCond .ne 14, 3) := by decide +kernel
theorem dX4_read_61 : decode cX4_read 61 = .ok (.aload_n 0, 1) := by decide +kernel
theorem dX4_read_62 : decode cX4_read 62 = .ok (.iload_n 1, 1) := by decide +kernel
theorem dX4_read_63 : decode cX4_read 63 = .ok (.invokevirtual 165, 3) := by decide +kernel
theorem dX4_read_66 : decode cX4_read 66 = .ok (.iinc 1 1, 3) := by decide +kernel
theorem dX4_read_69 : decode cX4_read 69 = .ok (.goto (-26), 3) := by decide +kernel
theorem dX4_read_72 : decode cX4_read 72 = .ok (.aload_n 0, 1) := by decide +kernel
theorem dX4_read_73 : decode cX4_read 73 = .ok (.getfield 111, 3) := by decide +kernel
theorem dX4_read_76 : decode cX4_read 76 = .ok (.ifCond .ge 5, 3) := by decide +kernel
theorem dX4_read_79 : decode cX4_read 79 = .ok (.iload_n 1, 1) := by decide +kernel
theorem dX4_read_80 : decode cX4_read 80 = .ok (.ireturn, 1) := by decide +kernel
theorem dX4_read_81 : decode cX4_read 81 = .ok (.iconst 0, 1) := by decide +kernel
