theorem dX3_digest_75 : decode cX3_digest 75 = .ok (.if_icmp .ge 28, 3) := by decide +kernel
theorem dX3_digest_78 : decode cX3_digest 78 = .ok (.ldc2_w 227, 3) := by decide +kernel
theorem dX3_digest_81 : decode cX3_digest 81 = .ok (.lload_n 1, 1) := by decide +kernel
theorem dX3_digest_82 : decode cX3_digest 82 = .ok (.lmul, 1) := by decide +kernel
theorem dX3_digest_83 : decode cX3_digest 83 = .ok (.aload_n 0, 1) := by decide +kernel
theorem dX3_digest_84 : decode cX3_digest 84 = .ok (.getfield 12, 3) := by decide +kernel
theorem dX3_digest_87 : decode cX3_digest 87 = .ok (.getfield 87, 3) := by decide +kernel
theorem dX3_digest_90 : decode cX3_digest 90 = .ok (.iload_n 3, 1) := by decide +kernel
theorem dX3_digest_91 : decode cX3_digest 91 = .ok (.invokestatic 91, 3) := by decide +kernel
theorem dX3_digest_94 : decode cX3_digest 94 = .ok (.i2l, 1) := by decide +kernel
theorem dX3_digest_95 : decode cX3_digest 95 = .ok (.ladd, 1) := by decide +kernel
theorem dX3_digest_96 : decode cX3_digest 96 = .ok (.lstore_n 1, 1) := by decide +kernel
theorem dX3_digest_97 : decode cX3_digest 97 = .ok (.iinc 3 1, 3) := by decide +kernel
theorem dX3_digest_100 : decode cX3_digest 100 = .ok (.goto (-28), 3) := by decide +kernel
theorem dX3_digest_103 : decode cX3_digest 103 = .ok (.iconst 0, 1) := by decide +kernel
theorem dX3_digest_104 : decode cX3_digest 104 = .ok (.istore_n 3, 1) := by decide +kernel
theorem dX3_digest_105 : decode cX3_digest 105 = .ok (.iload_n 3, 1) := by decide +kernel
theorem dX3_digest_106 : decode cX3_digest 106 = .ok (.aload_n 0, 1) := by decide +kernel
theorem dX3_digest_107 : decode cX3_digest 107 = .ok (.getfield 12, 3) := by decide +kernel
theorem dX3_digest_110 : decode cX3_digest 110 = .ok (.getfield 178, 3) := by decide +kernel
theorem dX3_digest_113 : decode cX3_digest 113 = .ok (.iconst 4, 1) := by decide +kernel
theorem dX3_digest_114 : decode cX3_digest 114 = .ok (.imul, 1) := by decide +kernel
theorem dX3_digest_115 : decode cX3_digest 115 = .ok (.if_icmp .ge 28, 3) := by decide +kernel
theorem dX3_digest_118 : decode cX3_digest 118 = .ok (.ldc2_w 227, 3) := by decide +kernel
theorem dX3_digest_121 : decode cX3_digest 121 = .ok (.lload_n 1, 1) := by decide +kernel
theorem dX3_digest_122 : decode cX3_digest 122 = .ok (.lmul, 1) := by decide +kernel
theorem dX3_digest_123 : decode cX3_digest 123 = .ok (.aload_n 0, 1) := by decide +kernel
theorem dX3_digest_124 : decode cX3_digest 124 = .ok (.getfield 12, 3) := by decide +kernel
theorem dX3_digest_127 : decode cX3_digest 127 = .ok (.getfield 235, 3) := by decide +kernel
theorem dX3_digest_130 : decode cX3_digest 130 = .ok (.iload_n 3, 1) := by decide +kernel
theorem dX3_digest_131 : decode cX3_digest 131 = .ok (.invokestatic 91, 3) := by decide +kernel
theorem dX3_digest_134 : decode cX3_digest 134 = .ok (.i2l, 1) := by decide +kernel
theorem dX3_digest_135 : decode cX3_digest 135 = .ok (.ladd, 1) := by decide +kernel
theorem dX3_digest_136 : decode cX3_digest 136 = .ok (.lstore_n 1, 1) := by decide +kernel
theorem dX3_digest_137 : decode cX3_digest 137 = .ok (.iinc 3 1, 3) := by decide +kernel
theorem dX3_digest_140 : decode cX3_digest 140 = .ok (.goto (-35), 3) := by decide +kernel
theorem dX3_digest_143 : decode cX3_digest 143 = .ok (.ldc2_w 227, 3) := by decide +kernel
theorem dX3_digest_146 : decode cX3_digest 146 = .ok (.lload_n 1, 1) := by decide +kernel
theorem dX3_digest_147 : decode cX3_digest 147 = .ok (.lmul, 1) := by decide +kernel
theorem dX3_digest_148 : decode cX3_digest 148 = .ok (.aload_n 0, 1) := by decide +kernel
theorem dX3_digest_149 : decode cX3_digest 149 = .ok (.getfield 39, 3) := by decide +kernel
theorem dX3_digest_152 : decode cX3_digest 152 = .ok (.ladd, 1) := by decide +kernel
theorem dX3_digest_153 : decode cX3_digest 153 = .ok (.lstore_n 1, 1) := by decide +kernel
theorem dX3_digest_154 : decode cX3_digest 154 = .ok (.ldc2_w 227, 3) := by decide +kernel
theorem dX3_digest_157 : decode cX3_digest 157 = .ok (.lload_n 1, 1) := by decide +kernel
theorem dX3_digest_158 : decode cX3_digest 158 = .ok (.lmul, 1) := by decide +kernel
theorem dX3_digest_159 : decode cX3_digest 159 = .ok (.aload_n 0, 1) := by decide +kernel
theorem dX3_digest_160 : decode cX3_digest 160 = .ok (.getfield 43, 3) := by decide +kernel
theorem dX3_digest_163 : decode cX3_digest 163 = .ok (.ladd, 1) := by decide +kernel
theorem dX3_digest_164 : decode cX3_digest 164 = .ok (.lreturn, 1) := by decide +kernel
theorem dX3_refuse_0 : decode cX3_refuse 0 = .ok (.iload_n 1, 1) := by decide +kernel
theorem dX3_refuse_1 : decode cX3_refuse 1 = .ok (.bipush (-2), 2) := by decide +kernel
theorem dX3_refuse_3 : decode cX3_refuse 3 = .ok (.if_icmp .ne 16, 3) := by decide +kernel
theorem dX3_refuse_6 : decode cX3_refuse 6 = .ok (.aload_n 0, 1) := by decide +kernel
theorem dX3_refuse_7 : decode cX3_refuse 7 = .ok (.dup, 1) := by decide +kernel
theorem dX3_refuse_8 : decode cX3_refuse 8 = .ok (.getfield 46, 3) := by decide +kernel
theorem dX3_refuse_11 : decode cX3_refuse 11 = .ok (.iconst 1, 1) := by decide +kernel
theorem dX3_refuse_12 : decode cX3_refuse 12 = .ok (.iadd, 1) := by decide +kernel
theorem dX3_refuse_13 : decode cX3_refuse 13 = .ok (.putfield 46, 3) := by decide +kernel
theorem dX3_refuse_16 : decode cX3_refuse 16 = .ok (.goto 32, 3) := by decide +kernel
theorem dX3_refuse_19 : decode cX3_refuse 19 = .ok (.iload_n 1, 1) := by decide +kernel
theorem dX3_refuse_20 : decode cX3_refuse 20 = .ok (.bipush (-3), 2) := by decide +kernel
theorem dX3_refuse_22 : decode cX3_refuse 22 = .ok (.if_icmp .ne 16, 3) := by decide +kernel
theorem dX3_refuse_25 : decode cX3_refuse 25 = .ok (.aload_n 0, 1) := by decide +kernel
theorem dX3_refuse_26 : decode cX3_refuse 26 = .ok (.dup, 1) := by decide +kernel
theorem dX3_refuse_27 : decode cX3_refuse 27 = .ok (.getfield 50, 3) := by decide +kernel
theorem dX3_refuse_30 : decode cX3_refuse 30 = .ok (.iconst 1, 1) := by decide +kernel
theorem dX3_refuse_31 : decode cX3_refuse 31 = .ok (.iadd, 1) := by decide +kernel
theorem dX3_refuse_32 : decode cX3_refuse 32 = .ok (.putfield 50, 3) := by decide +kernel
theorem dX3_refuse_35 : decode cX3_refuse 35 = .ok (.goto 13, 3) := by decide +kernel
theorem dX3_refuse_38 : decode cX3_refuse 38 = .ok (.aload_n 0, 1) := by decide +kernel
theorem dX3_refuse_39 : decode cX3_refuse 39 = .ok (.dup, 1) := by decide +kernel
theorem dX3_refuse_40 : decode cX3_refuse 40 = .ok (.getfield 53, 3) := by decide +kernel
theorem dX3_refuse_43 : decode cX3_refuse 43 = .ok (.iconst 1, 1) := by decide +kernel
theorem dX3_refuse_44 : decode cX3_refuse 44 = .ok (.iadd, 1) := by decide +kernel
theorem dX3_refuse_45 : decode cX3_refuse 45 = .ok (.putfield 53, 3) := by decide +kernel
theorem dX3_refuse_48 : decode cX3_refuse 48 = .ok (.iload_n 1, 1) := by decide +kernel
theorem dX3_refuse_49 : decode cX3_refuse 49 = .ok (.ireturn, 1) := by decide +kernel
theorem dX3_refuseBad_0 : decode cX3_refuseBad 0 = .ok (.aload_n 0, 1) := by decide +kernel
theorem dX3_refuseBad_1 : decode cX3_refuseBad 1 = .ok (.dup, 1) := by decide +kernel
theorem dX3_refuseBad_2 : decode cX3_refuseBad 2 = .ok (.getfield 46, 3) := by decide +kernel
theorem dX3_refuseBad_5 : decode cX3_refuseBad 5 = .ok (.iconst 1, 1) := by decide +kernel
theorem dX3_refuseBad_6 : decode cX3_refuseBad 6 = .ok (.iadd, 1) := by decide +kernel
theorem dX3_refuseBad_7 : decode cX3_refuseBad 7 = .ok (.putfield 46, 3) := by decide +kernel
theorem dX3_refuseBad_10 : decode cX3_refuseBad 10 = .ok (.iload_n 1, 1) := by decide +kernel
theorem dX3_refuseBad_11 : decode cX3_refuseBad 11 = .ok (.ireturn, 1) := by decide +kernel
theorem dX3_lengthOrWord_0 : decode cX3_lengthOrWord 0 = .ok (.iload_n 2, 1) := by decide +kernel
theorem dX3_lengthOrWord_1 : decode cX3_lengthOrWord 1 = .ok (.iconst (-1), 1) := by decide +kernel
theorem dX3_lengthOrWord_2 : decode cX3_lengthOrWord 2 = .ok (.if_icmp .ne 5, 3) := by decide +kernel
theorem dX3_lengthOrWord_5 : decode cX3_lengthOrWord 5 = .ok (.iload_n 1, 1) := by decide +kernel
theorem dX3_lengthOrWord_6 : decode cX3_lengthOrWord 6 = .ok (.ireturn, 1) := by decide +kernel
theorem dX3_lengthOrWord_7 : decode cX3_lengthOrWord 7 = .ok (.iload_n 2, 1) := by decide +kernel
theorem dX3_lengthOrWord_8 : decode cX3_lengthOrWord 8 = .ok (.iload_n 1, 1) := by decide +kernel
theorem dX3_lengthOrWord_9 : decode cX3_lengthOrWord 9 = .ok (.if_icmp .lt 8, 3) := by decide +kernel
theorem dX3_lengthOrWord_12 : decode cX3_lengthOrWord 12 = .ok (.bipush (-5), 2) := by decide +kernel
theorem dX3_lengthOrWord_14 : decode cX3_lengthOrWord 14 = .ok (.goto 14, 3) := by decide +kernel
theorem dX3_lengthOrWord_17 : decode cX3_lengthOrWord 17 = .ok (.aload_n 0, 1) := by decide +kernel
theorem dX3_lengthOrWord_18 : decode cX3_lengthOrWord 18 = .ok (.getfield 35, 3) := by decide +kernel
theorem dX3_lengthOrWord_21 : decode cX3_lengthOrWord 21 = .ok (.getfield 157, 3) := by decide +kernel
theorem dX3_lengthOrWord_24 : decode cX3_lengthOrWord 24 = .ok (.iload_n 2, 1) := by decide +kernel
theorem dX3_lengthOrWord_25 : decode cX3_lengthOrWord 25 = .ok (.invokestatic 91, 3) := by decide +kernel
theorem dX3_lengthOrWord_28 : decode cX3_lengthOrWord 28 = .ok (.ireturn, 1) := by decide +kernel
theorem dX3_imageAt_0 : decode cX3_imageAt 0 = .ok (.iload_n 1, 1) := by decide +kernel
theorem dX3_imageAt_1 : decode cX3_imageAt 1 = .ok (.ifCond .ne 10, 3) := by decide +kernel
theorem dX3_imageAt_4 : decode cX3_imageAt 4 = .ok (.aload_n 0, 1) := by decide +kernel
theorem dX3_imageAt_5 : decode cX3_imageAt 5 = .ok (.getfield 19, 3) := by decide +kernel
theorem dX3_imageAt_8 : decode cX3_imageAt 8 = .ok (.goto 7, 3) := by decide +kernel
theorem dX3_imageAt_11 : decode cX3_imageAt 11 = .ok (.aload_n 0, 1) := by decide +kernel
theorem dX3_imageAt_12 : decode cX3_imageAt 12 = .ok (.getfield 22, 3) := by decide +kernel
theorem dX3_imageAt_15 : decode cX3_imageAt 15 = .ok (.areturn, 1) := by decide +kernel
theorem dX3_setFraction_0 : decode cX3_setFraction 0 = .ok (.lload_n 1, 1) := by decide +kernel
theorem dX3_setFraction_1 : decode cX3_setFraction 1 = .ok (.lload_n 3, 1) := by decide +kernel
theorem dX3_setFraction_2 : decode cX3_setFraction 2 = .ok (.invokestatic 238, 3) := by decide +kernel
theorem dX3_setFraction_5 : decode cX3_setFraction 5 = .ok (.lstore 5, 2) := by decide +kernel
theorem dX3_setFraction_7 : decode cX3_setFraction 7 = .ok (.lload 5, 2) := by decide +kernel
theorem dX3_setFraction_9 : decode cX3_setFraction 9 = .ok (.lconst 0, 1) := by decide +kernel
theorem dX3_setFraction_10 : decode cX3_setFraction 10 = .ok (.lcmp, 1) := by decide +kernel
theorem dX3_setFraction_11 : decode cX3_setFraction 11 = .ok (.ifCond .eq 19, 3) := by decide +kernel
theorem dX3_setFraction_14 : decode cX3_setFraction 14 = .ok (.aload_n 0, 1) := by decide +kernel
theorem dX3_setFraction_15 : decode cX3_setFraction 15 = .ok (.lload_n 1, 1) := by decide +kernel
theorem dX3_setFraction_16 : decode cX3_setFraction 16 = .ok (.lload 5, 2) := by decide +kernel
theorem dX3_setFraction_18 : decode cX3_setFraction 18 = .ok (.ldiv, 1) := by decide +kernel
theorem dX3_setFraction_19 : decode cX3_setFraction 19 = .ok (.putfield 39, 3) := by decide +kernel
theorem dX3_setFraction_22 : decode cX3_setFraction 22 = .ok (.aload_n 0, 1) := by decide +kernel
theorem dX3_setFraction_23 : decode cX3_setFraction 23 = .ok (.lload_n 3, 1) := by decide +kernel
theorem dX3_setFraction_24 : decode cX3_setFraction 24 = .ok (.lload 5, 2) := by decide +kernel
theorem dX3_setFraction_26 : decode cX3_setFraction 26 = .ok (.ldiv, 1) := by decide +kernel
theorem dX3_setFraction_27 : decode cX3_setFraction 27 = .ok (.putfield 43, 3) := by decide +kernel
theorem dX3_setFraction_30 : decode cX3_setFraction 30 = .ok (.return_, 1) := by decide +kernel
theorem dX3_pairWorth_0 : decode cX3_pairWorth 0 = .ok (.iload_n 2, 1) := by decide +kernel
theorem dX3_pairWorth_1 : decode cX3_pairWorth 1 = .ok (.iconst 1, 1) := by decide +kernel
theorem dX3_pairWorth_2 : decode cX3_pairWorth 2 = .ok (.iand, 1) := by decide +kernel
theorem dX3_pairWorth_3 : decode cX3_pairWorth 3 = .ok (.ifCond .ne 7, 3) := by decide +kernel
theorem dX3_pairWorth_6 : decode cX3_pairWorth 6 = .ok (.iload_n 1, 1) := by decide +kernel
theorem dX3_pairWorth_7 : decode cX3_pairWorth 7 = .ok (.goto 4, 3) := by decide +kernel
theorem dX3_pairWorth_10 : decode cX3_pairWorth 10 = .ok (.iconst 0, 1) := by decide +kernel
theorem dX3_pairWorth_11 : decode cX3_pairWorth 11 = .ok (.istore_n 3, 1) := by decide +kernel
theorem dX3_pairWorth_12 : decode cX3_pairWorth 12 = .ok (.iload_n 2, 1) := by decide +kernel
theorem dX3_pairWorth_13 : decode cX3_pairWorth 13 = .ok (.iconst 2, 1) := by decide +kernel
theorem dX3_pairWorth_14 : decode cX3_pairWorth 14 = .ok (.iand, 1) := by decide +kernel
theorem dX3_pairWorth_15 : decode cX3_pairWorth 15 = .ok (.ifCond .eq 7, 3) := by decide +kernel
theorem dX3_pairWorth_18 : decode cX3_pairWorth 18 = .ok (.iconst 1, 1) := by decide +kernel
theorem dX3_pairWorth_19 : decode cX3_pairWorth 19 = .ok (.goto 4, 3) := by decide +kernel
theorem dX3_pairWorth_22 : decode cX3_pairWorth 22 = .ok (.iconst 0, 1) := by decide +kernel
theorem dX3_pairWorth_23 : decode cX3_pairWorth 23 = .ok (.istore 4, 2) := by decide +kernel
theorem dX3_pairWorth_25 : decode cX3_pairWorth 25 = .ok (.iload 4, 2) := by decide +kernel
theorem dX3_pairWorth_27 : decode cX3_pairWorth 27 = .ok (.ifCond .eq 34, 3) := by decide +kernel
theorem dX3_pairWorth_30 : decode cX3_pairWorth 30 = .ok (.aload_n 0, 1) := by decide +kernel
theorem dX3_pairWorth_31 : decode cX3_pairWorth 31 = .ok (.getfield 12, 3) := by decide +kernel
theorem dX3_pairWorth_34 : decode cX3_pairWorth 34 = .ok (.aload_n 0, 1) := by decide +kernel
theorem dX3_pairWorth_35 : decode cX3_pairWorth 35 = .ok (.getfield 12, 3) := by decide +kernel
theorem dX3_pairWorth_38 : decode cX3_pairWorth 38 = .ok (.getfield 78, 3) := by decide +kernel
theorem dX3_pairWorth_41 : decode cX3_pairWorth 41 = .ok (.invokestatic 81, 3) := by decide +kernel
theorem dX3_pairWorth_44 : decode cX3_pairWorth 44 = .ok (.aload_n 0, 1) := by decide +kernel
theorem dX3_pairWorth_45 : decode cX3_pairWorth 45 = .ok (.getfield 12, 3) := by decide +kernel
theorem dX3_pairWorth_48 : decode cX3_pairWorth 48 = .ok (.getfield 78, 3) := by decide +kernel
theorem dX3_pairWorth_51 : decode cX3_pairWorth 51 = .ok (.invokestatic 129, 3) := by decide +kernel
theorem dX3_pairWorth_54 : decode cX3_pairWorth 54 = .ok (.iload_n 3, 1) := by decide +kernel
theorem dX3_pairWorth_55 : decode cX3_pairWorth 55 = .ok (.invokevirtual 242, 3) := by decide +kernel
theorem dX3_pairWorth_58 : decode cX3_pairWorth 58 = .ok (.goto 25, 3) := by decide +kernel
theorem dX3_pairWorth_61 : decode cX3_pairWorth 61 = .ok (.aload_n 0, 1) := by decide +kernel
theorem dX3_pairWorth_62 : decode cX3_pairWorth 62 = .ok (.getfield 12, 3) := by decide +kernel
theorem dX3_pairWorth_65 : decode cX3_pairWorth 65 = .ok (.aload_n 0, 1) := by decide +kernel
theorem dX3_pairWorth_66 : decode cX3_pairWorth 66 = .ok (.getfield 12, 3) := by decide +kernel
theorem dX3_pairWorth_69 : decode cX3_pairWorth 69 = .ok (.getfield 78, 3) := by decide +kernel
theorem dX3_pairWorth_72 : decode cX3_pairWorth 72 = .ok (.aload_n 0, 1) := by decide +kernel
theorem dX3_pairWorth_73 : decode cX3_pairWorth 73 = .ok (.getfield 12, 3) := by decide +kernel
theorem dX3_pairWorth_76 : decode cX3_pairWorth 76 = .ok (.getfield 68, 3) := by decide +kernel
theorem dX3_pairWorth_79 : decode cX3_pairWorth 79 = .ok (.iload_n 3, 1) := by decide +kernel
theorem dX3_pairWorth_80 : decode cX3_pairWorth 80 = .ok (.invokevirtual 160, 3) := by decide +kernel
theorem dX3_pairWorth_83 : decode cX3_pairWorth 83 = .ok (.istore 5, 2) := by decide +kernel
theorem dX3_pairWorth_85 : decode cX3_pairWorth 85 = .ok (.iload 5, 2) := by decide +kernel
theorem dX3_pairWorth_87 : decode cX3_pairWorth 87 = .ok (.invokestatic 120, 3) := by decide +kernel
theorem dX3_pairWorth_90 : decode cX3_pairWorth 90 = .ok (.lookupswitch 30 #[(0, 28), (1, 26)], 26) := by decide +kernel
theorem dX3_pairWorth_116 : decode cX3_pairWorth 116 = .ok (.iconst 2, 1) := by decide +kernel
theorem dX3_pairWorth_117 : decode cX3_pairWorth 117 = .ok (.ireturn, 1) := by decide +kernel
theorem dX3_pairWorth_118 : decode cX3_pairWorth 118 = .ok (.iconst 1, 1) := by decide +kernel
theorem dX3_pairWorth_119 : decode cX3_pairWorth 119 = .ok (.ireturn, 1) := by decide +kernel
theorem dX3_pairWorth_120 : decode cX3_pairWorth 120 = .ok (.iconst 0, 1) := by decide +kernel
theorem dX3_pairWorth_121 : decode cX3_pairWorth 121 = .ok (.ireturn, 1) := by decide +kernel
theorem dX3_within_0 : decode cX3_within 0 = .ok (.iload_n 0, 1) := by decide +kernel
theorem dX3_within_1 : decode cX3_within 1 = .ok (.iload_n 1, 1) := by decide +kernel
theorem dX3_within_2 : decode cX3_within 2 = .ok (.if_icmp .lt 12, 3) := by decide +kernel
theorem dX3_within_5 : decode cX3_within 5 = .ok (.iload_n 0, 1) := by decide +kernel
theorem dX3_within_6 : decode cX3_within 6 = .ok (.iload_n 2, 1) := by decide +kernel
theorem dX3_within_7 : decode cX3_within 7 = .ok (.if_icmp .gt 7, 3) := by decide +kernel
theorem dX3_within_10 : decode cX3_within 10 = .ok (.iconst 1, 1) := by decide +kernel
theorem dX3_within_11 : decode cX3_within 11 = .ok (.goto 4, 3) := by decide +kernel
theorem dX3_within_14 : decode cX3_within 14 = .ok (.iconst 0, 1) := by decide +kernel
theorem dX3_within_15 : decode cX3_within 15 = .ok (.ireturn, 1) := by decide +kernel
theorem dX3_isWord_0 : decode cX3_isWord 0 = .ok (.iload_n 0, 1) := by decide +kernel
theorem dX3_isWord_1 : decode cX3_isWord 1 = .ok (.iconst 0, 1) := by decide +kernel
theorem dX3_isWord_2 : decode cX3_isWord 2 = .ok (.iconst 5, 1) := by decide +kernel
theorem dX3_isWord_3 : decode cX3_isWord 3 = .ok (.invokestatic 60, 3) := by decide +kernel
theorem dX3_isWord_6 : decode cX3_isWord 6 = .ok (.ireturn, 1) := by decide +kernel
theorem dX3_at_0 : decode cX3_at 0 = .ok (.iload_n 1, 1) := by decide +kernel
theorem dX3_at_1 : decode cX3_at 1 = .ok (.ifCond .lt 15, 3) := by decide +kernel
theorem dX3_at_4 : decode cX3_at 4 = .ok (.iload_n 1, 1) := by decide +kernel
theorem dX3_at_5 : decode cX3_at 5 = .ok (.aload_n 0, 1) := by decide +kernel
theorem dX3_at_6 : decode cX3_at 6 = .ok (.arraylength, 1) := by decide +kernel
theorem dX3_at_7 : decode cX3_at 7 = .ok (.if_icmp .ge 9, 3) := by decide +kernel
theorem dX3_at_10 : decode cX3_at 10 = .ok (.aload_n 0, 1) := by decide +kernel
theorem dX3_at_11 : decode cX3_at 11 = .ok (.iload_n 1, 1) := by decide +kernel
theorem dX3_at_12 : decode cX3_at 12 = .ok (.iaload, 1) := by decide +kernel
theorem dX3_at_13 : decode cX3_at 13 = .ok (.goto 4, 3) := by decide +kernel
theorem dX3_at_16 : decode cX3_at 16 = .ok (.iconst 0, 1) := by decide +kernel
theorem dX3_at_17 : decode cX3_at 17 = .ok (.ireturn, 1) := by decide +kernel
theorem dX3_put_0 : decode cX3_put 0 = .ok (.iload_n 1, 1) := by decide +kernel
theorem dX3_put_1 : decode cX3_put 1 = .ok (.ifCond .lt 13, 3) := by decide +kernel
theorem dX3_put_4 : decode cX3_put 4 = .ok (.iload_n 1, 1) := by decide +kernel
theorem dX3_put_5 : decode cX3_put 5 = .ok (.aload_n 0, 1) := by decide +kernel
theorem dX3_put_6 : decode cX3_put 6 = .ok (.arraylength, 1) := by decide +kernel
theorem dX3_put_7 : decode cX3_put 7 = .ok (.if_icmp .ge 7, 3) := by decide +kernel
theorem dX3_put_10 : decode cX3_put 10 = .ok (.aload_n 0, 1) := by decide +kernel
theorem dX3_put_11 : decode cX3_put 11 = .ok (.iload_n 1, 1) := by decide +kernel
theorem dX3_put_12 : decode cX3_put 12 = .ok (.iload_n 2, 1) := by decide +kernel
theorem dX3_put_13 : decode cX3_put 13 = .ok (.iastore, 1) := by decide +kernel
theorem dX3_put_14 : decode cX3_put 14 = .ok (.return_, 1) := by decide +kernel
theorem dX3_powerOfTen_0 : decode cX3_powerOfTen 0 = .ok (.lconst 1, 1) := by decide +kernel
theorem dX3_powerOfTen_1 : decode cX3_powerOfTen 1 = .ok (.lstore_n 1, 1) := by decide +kernel
theorem dX3_powerOfTen_2 : decode cX3_powerOfTen 2 = .ok (.iconst 0, 1) := by decide +kernel
theorem dX3_powerOfTen_3 : decode cX3_powerOfTen 3 = .ok (.istore_n 3, 1) := by decide +kernel
theorem dX3_powerOfTen_4 : decode cX3_powerOfTen 4 = .ok (.iload_n 3, 1) := by decide +kernel
theorem dX3_powerOfTen_5 : decode cX3_powerOfTen 5 = .ok (.iload_n 0, 1) := by decide +kernel
theorem dX3_powerOfTen_6 : decode cX3_powerOfTen 6 = .ok (.if_icmp .ge 21, 3) := by decide +kernel
theorem dX3_powerOfTen_9 : decode cX3_powerOfTen 9 = .ok (.iload_n 3, 1) := by decide +kernel
theorem dX3_powerOfTen_10 : decode cX3_powerOfTen 10 = .ok (.bipush 9, 2) := by decide +kernel
theorem dX3_powerOfTen_12 : decode cX3_powerOfTen 12 = .ok (.if_icmp .ge 15, 3) := by decide +kernel
theorem dX3_powerOfTen_15 : decode cX3_powerOfTen 15 = .ok (.lload_n 1, 1) := by decide +kernel
theorem dX3_powerOfTen_16 : decode cX3_powerOfTen 16 = .ok (.ldc2_w 245, 3) := by decide +kernel
theorem dX3_powerOfTen_19 : decode cX3_powerOfTen 19 = .ok (.lmul, 1) := by decide +kernel
theorem dX3_powerOfTen_20 : decode cX3_powerOfTen 20 = .ok (.lstore_n 1, 1) := by decide +kernel
theorem dX3_powerOfTen_21 : decode cX3_powerOfTen 21 = .ok (.iinc 3 1, 3) := by decide +kernel
theorem dX3_powerOfTen_24 : decode cX3_powerOfTen 24 = .ok (.goto (-20), 3) := by decide +kernel
theorem dX3_powerOfTen_27 : decode cX3_powerOfTen 27 = .ok (.lload_n 1, 1) := by decide +kernel
theorem dX3_powerOfTen_28 : decode cX3_powerOfTen 28 = .ok (.lreturn, 1) := by decide +kernel
theorem dX3_commonDivisor_0 : decode cX3_commonDivisor 0 = .ok (.lload_n 0, 1) := by decide +kernel
theorem dX3_commonDivisor_1 : decode cX3_commonDivisor 1 = .ok (.invokestatic 247, 3) := by decide +kernel
theorem dX3_commonDivisor_4 : decode cX3_commonDivisor 4 = .ok (.lstore 4, 2) := by decide +kernel
theorem dX3_commonDivisor_6 : decode cX3_commonDivisor 6 = .ok (.lload_n 2, 1) := by decide +kernel
theorem dX3_commonDivisor_7 : decode cX3_commonDivisor 7 = .ok (.invokestatic 247, 3) := by decide +kernel
theorem dX3_commonDivisor_10 : decode cX3_commonDivisor 10 = .ok (.lstore 6, 2) := by decide +kernel
theorem dX3_commonDivisor_12 : decode cX3_commonDivisor 12 = .ok (.iconst 0, 1) := by decide +kernel
theorem dX3_commonDivisor_13 : decode cX3_commonDivisor 13 = .ok (.istore 8, 2) := by decide +kernel
theorem dX3_commonDivisor_15 : decode cX3_commonDivisor 15 = .ok (.iload 8, 2) := by decide +kernel
theorem dX3_commonDivisor_17 : decode cX3_commonDivisor 17 = .ok (.sipush 200, 3) := by decide +kernel
theorem dX3_commonDivisor_20 : decode cX3_commonDivisor 20 = .ok (.if_icmp .ge 31, 3) := by decide +kernel
theorem dX3_commonDivisor_23 : decode cX3_commonDivisor 23 = .ok (.lload 6, 2) := by decide +kernel
theorem dX3_commonDivisor_25 : decode cX3_commonDivisor 25 = .ok (.lconst 0, 1) := by decide +kernel
theorem dX3_commonDivisor_26 : decode cX3_commonDivisor 26 = .ok (.lcmp, 1) := by decide +kernel
theorem dX3_commonDivisor_27 : decode cX3_commonDivisor 27 = .ok (.ifCond .eq 24, 3) := by decide +kernel
theorem dX3_commonDivisor_30 : decode cX3_commonDivisor 30 = .ok (.lload 4, 2) := by decide +kernel
theorem dX3_commonDivisor_32 : decode cX3_commonDivisor 32 = .ok (.lload 6, 2) := by decide +kernel
theorem dX3_commonDivisor_34 : decode cX3_commonDivisor 34 = .ok (.lrem, 1) := by decide +kernel
theorem dX3_commonDivisor_35 : decode cX3_commonDivisor 35 = .ok (.lstore 9, 2) := by decide +kernel
theorem dX3_commonDivisor_37 : decode cX3_commonDivisor 37 = .ok (.lload 6, 2) := by decide +kernel
theorem dX3_commonDivisor_39 : decode cX3_commonDivisor 39 = .ok (.lstore 4, 2) := by decide +kernel
theorem dX3_commonDivisor_41 : decode cX3_commonDivisor 41 = .ok (.lload 9, 2) := by decide +kernel
theorem dX3_commonDivisor_43 : decode cX3_commonDivisor 43 = .ok (.lstore 6, 2) := by decide +kernel
theorem dX3_commonDivisor_45 : decode cX3_commonDivisor 45 = .ok (.iinc 8 1, 3) := by decide +kernel
theorem dX3_commonDivisor_48 : decode cX3_commonDivisor 48 = .ok (.goto (-33), 3) := by decide +kernel
theorem dX3_commonDivisor_51 : decode cX3_commonDivisor 51 = .ok (.lload 4, 2) := by decide +kernel
theorem dX3_commonDivisor_53 : decode cX3_commonDivisor 53 = .ok (.lreturn, 1) := by decide +kernel
theorem dX3_mind_0 : decode cX3_mind 0 = .ok (.iload_n 2, 1) := by decide +kernel
theorem dX3_mind_1 : decode cX3_mind 1 = .ok (.sipush 10000, 3) := by decide +kernel
theorem dX3_mind_4 : decode cX3_mind 4 = .ok (.imul, 1) := by decide +kernel
theorem dX3_mind_5 : decode cX3_mind 5 = .ok (.iload_n 0, 1) := by decide +kernel
theorem dX3_mind_6 : decode cX3_mind 6 = .ok (.bipush 100, 2) := by decide +kernel
theorem dX3_mind_8 : decode cX3_mind 8 = .ok (.imul, 1) := by decide +kernel
theorem dX3_mind_9 : decode cX3_mind 9 = .ok (.iadd, 1) := by decide +kernel
theorem dX3_mind_10 : decode cX3_mind 10 = .ok (.iload_n 1, 1) := by decide +kernel
theorem dX3_mind_11 : decode cX3_mind 11 = .ok (.iadd, 1) := by decide +kernel
theorem dX3_mind_12 : decode cX3_mind 12 = .ok (.ireturn, 1) := by decide +kernel
theorem dX3_angerOf_0 : decode cX3_angerOf 0 = .ok (.iload_n 0, 1) := by decide +kernel
theorem dX3_angerOf_1 : decode cX3_angerOf 1 = .ok (.sipush 10000, 3) := by decide +kernel
theorem dX3_angerOf_4 : decode cX3_angerOf 4 = .ok (.irem, 1) := by decide +kernel
theorem dX3_angerOf_5 : decode cX3_angerOf 5 = .ok (.bipush 100, 2) := by decide +kernel
theorem dX3_angerOf_7 : decode cX3_angerOf 7 = .ok (.idiv, 1) := by decide +kernel
theorem dX3_angerOf_8 : decode cX3_angerOf 8 = .ok (.ireturn, 1) := by decide +kernel
theorem dX3_prideOf_0 : decode cX3_prideOf 0 = .ok (.iload_n 0, 1) := by decide +kernel
theorem dX3_prideOf_1 : decode cX3_prideOf 1 = .ok (.bipush 100, 2) := by decide +kernel
theorem dX3_prideOf_3 : decode cX3_prideOf 3 = .ok (.irem, 1) := by decide +kernel
theorem dX3_prideOf_4 : decode cX3_prideOf 4 = .ok (.ireturn, 1) := by decide +kernel
theorem dX3_beingOf_0 : decode cX3_beingOf 0 = .ok (.iload_n 0, 1) := by decide +kernel
theorem dX3_beingOf_1 : decode cX3_beingOf 1 = .ok (.sipush 10000, 3) := by decide +kernel
theorem dX3_beingOf_4 : decode cX3_beingOf 4 = .ok (.idiv, 1) := by decide +kernel
theorem dX3_beingOf_5 : decode cX3_beingOf 5 = .ok (.ireturn, 1) := by decide +kernel
theorem dX3_kept_0 : decode cX3_kept 0 = .ok (.iconst 0, 1) := by decide +kernel
theorem dX3_kept_1 : decode cX3_kept 1 = .ok (.bipush 99, 2) := by decide +kernel
theorem dX3_kept_3 : decode cX3_kept 3 = .ok (.iload_n 0, 1) := by decide +kernel
theorem dX3_kept_4 : decode cX3_kept 4 = .ok (.invokestatic 253, 3) := by decide +kernel
theorem dX3_kept_7 : decode cX3_kept 7 = .ok (.invokestatic 256, 3) := by decide +kernel
theorem dX3_kept_10 : decode cX3_kept 10 = .ok (.ireturn, 1) := by decide +kernel
theorem dX3_angerMove_0 : decode cX3_angerMove 0 = .ok (.getstatic 259, 3) := by decide +kernel
theorem dX3_angerMove_3 : decode cX3_angerMove 3 = .ok (.iload_n 1, 1) := by decide +kernel
theorem dX3_angerMove_4 : decode cX3_angerMove 4 = .ok (.invokestatic 91, 3) := by decide +kernel
theorem dX3_angerMove_7 : decode cX3_angerMove 7 = .ok (.istore_n 3, 1) := by decide +kernel
theorem dX3_angerMove_8 : decode cX3_angerMove 8 = .ok (.iload_n 0, 1) := by decide +kernel
theorem dX3_angerMove_9 : decode cX3_angerMove 9 = .ok (.tableswitch 63 1 5 #[35, 39, 63, 43, 57], 35) := by decide +kernel
theorem dX3_angerMove_44 : decode cX3_angerMove 44 = .ok (.iload_n 3, 1) := by decide +kernel
theorem dX3_angerMove_45 : decode cX3_angerMove 45 = .ok (.iconst 2, 1) := by decide +kernel
theorem dX3_angerMove_46 : decode cX3_angerMove 46 = .ok (.idiv, 1) := by decide +kernel
theorem dX3_angerMove_47 : decode cX3_angerMove 47 = .ok (.ireturn, 1) := by decide +kernel
theorem dX3_angerMove_48 : decode cX3_angerMove 48 = .ok (.iload_n 3, 1) := by decide +kernel
theorem dX3_angerMove_49 : decode cX3_angerMove 49 = .ok (.iconst 1, 1) := by decide +kernel
theorem dX3_angerMove_50 : decode cX3_angerMove 50 = .ok (.isub, 1) := by decide +kernel
theorem dX3_angerMove_51 : decode cX3_angerMove 51 = .ok (.ireturn, 1) := by decide +kernel
theorem dX3_angerMove_52 : decode cX3_angerMove 52 = .ok (.iload_n 2, 1) := by decide +kernel
theorem dX3_angerMove_53 : decode cX3_angerMove 53 = .ok (.iconst 2, 1) := by decide +kernel
theorem dX3_angerMove_54 : decode cX3_angerMove 54 = .ok (.irem, 1) := by decide +kernel
theorem dX3_angerMove_55 : decode cX3_angerMove 55 = .ok (.ifCond .eq 7, 3) := by decide +kernel
theorem dX3_angerMove_58 : decode cX3_angerMove 58 = .ok (.iconst 0, 1) := by decide +kernel
theorem dX3_angerMove_59 : decode cX3_angerMove 59 = .ok (.goto 6, 3) := by decide +kernel
theorem dX3_angerMove_62 : decode cX3_angerMove 62 = .ok (.iload_n 3, 1) := by decide +kernel
theorem dX3_angerMove_63 : decode cX3_angerMove 63 = .ok (.iconst 2, 1) := by decide +kernel
theorem dX3_angerMove_64 : decode cX3_angerMove 64 = .ok (.idiv, 1) := by decide +kernel
theorem dX3_angerMove_65 : decode cX3_angerMove 65 = .ok (.ireturn, 1) := by decide +kernel
theorem dX3_angerMove_66 : decode cX3_angerMove 66 = .ok (.iconst 2, 1) := by decide +kernel
theorem dX3_angerMove_67 : decode cX3_angerMove 67 = .ok (.iload_n 3, 1) := by decide +kernel
theorem dX3_angerMove_68 : decode cX3_angerMove 68 = .ok (.iconst 1, 1) := by decide +kernel
theorem dX3_angerMove_69 : decode cX3_angerMove 69 = .ok (.isub, 1) := by decide +kernel
theorem dX3_angerMove_70 : decode cX3_angerMove 70 = .ok (.imul, 1) := by decide +kernel
theorem dX3_angerMove_71 : decode cX3_angerMove 71 = .ok (.ireturn, 1) := by decide +kernel
theorem dX3_angerMove_72 : decode cX3_angerMove 72 = .ok (.iload_n 3, 1) := by decide +kernel
theorem dX3_angerMove_73 : decode cX3_angerMove 73 = .ok (.ireturn, 1) := by decide +kernel
theorem dX3_prideMove_0 : decode cX3_prideMove 0 = .ok (.getstatic 262, 3) := by decide +kernel
theorem dX3_prideMove_3 : decode cX3_prideMove 3 = .ok (.iload_n 1, 1) := by decide +kernel
theorem dX3_prideMove_4 : decode cX3_prideMove 4 = .ok (.invokestatic 91, 3) := by decide +kernel
theorem dX3_prideMove_7 : decode cX3_prideMove 7 = .ok (.istore_n 3, 1) := by decide +kernel
theorem dX3_prideMove_8 : decode cX3_prideMove 8 = .ok (.iload_n 0, 1) := by decide +kernel
theorem dX3_prideMove_9 : decode cX3_prideMove 9 = .ok (.tableswitch 46 3 5 #[27, 30, 42], 27) := by decide +kernel
theorem dX3_prideMove_36 : decode cX3_prideMove 36 = .ok (.iload_n 3, 1) := by decide +kernel
theorem dX3_prideMove_37 : decode cX3_prideMove 37 = .ok (.ineg, 1) := by decide +kernel
theorem dX3_prideMove_38 : decode cX3_prideMove 38 = .ok (.ireturn, 1) := by decide +kernel
theorem dX3_prideMove_39 : decode cX3_prideMove 39 = .ok (.iload_n 2, 1) := by decide +kernel
theorem dX3_prideMove_40 : decode cX3_prideMove 40 = .ok (.iconst 2, 1) := by decide +kernel
theorem dX3_prideMove_41 : decode cX3_prideMove 41 = .ok (.irem, 1) := by decide +kernel
theorem dX3_prideMove_42 : decode cX3_prideMove 42 = .ok (.ifCond .eq 7, 3) := by decide +kernel
theorem dX3_prideMove_45 : decode cX3_prideMove 45 = .ok (.iconst 0, 1) := by decide +kernel
theorem dX3_prideMove_46 : decode cX3_prideMove 46 = .ok (.goto 4, 3) := by decide +kernel
theorem dX3_prideMove_49 : decode cX3_prideMove 49 = .ok (.iload_n 3, 1) := by decide +kernel
theorem dX3_prideMove_50 : decode cX3_prideMove 50 = .ok (.ireturn, 1) := by decide +kernel
theorem dX3_prideMove_51 : decode cX3_prideMove 51 = .ok (.iload_n 3, 1) := by decide +kernel
theorem dX3_prideMove_52 : decode cX3_prideMove 52 = .ok (.iconst 1, 1) := by decide +kernel
theorem dX3_prideMove_53 : decode cX3_prideMove 53 = .ok (.iadd, 1) := by decide +kernel
theorem dX3_prideMove_54 : decode cX3_prideMove 54 = .ok (.ireturn, 1) := by decide +kernel
theorem dX3_prideMove_55 : decode cX3_prideMove 55 = .ok (.iload_n 3, 1) := by decide +kernel
theorem dX3_prideMove_56 : decode cX3_prideMove 56 = .ok (.ireturn, 1) := by decide +kernel
theorem dX3_moveAlike_0 : decode cX3_moveAlike 0 = .ok (.iload_n 0, 1) := by decide +kernel
theorem dX3_moveAlike_1 : decode cX3_moveAlike 1 = .ok (.iload_n 2, 1) := by decide +kernel
theorem dX3_moveAlike_2 : decode cX3_moveAlike 2 = .ok (.iload_n 3, 1) := by decide +kernel
theorem dX3_moveAlike_3 : decode cX3_moveAlike 3 = .ok (.invokestatic 147, 3) := by decide +kernel
theorem dX3_moveAlike_6 : decode cX3_moveAlike 6 = .ok (.iload_n 1, 1) := by decide +kernel
theorem dX3_moveAlike_7 : decode cX3_moveAlike 7 = .ok (.iload_n 2, 1) := by decide +kernel
theorem dX3_moveAlike_8 : decode cX3_moveAlike 8 = .ok (.iload_n 3, 1) := by decide +kernel
theorem dX3_moveAlike_9 : decode cX3_moveAlike 9 = .ok (.invokestatic 147, 3) := by decide +kernel
theorem dX3_moveAlike_12 : decode cX3_moveAlike 12 = .ok (.if_icmp .ne 22, 3) := by decide +kernel
theorem dX3_moveAlike_15 : decode cX3_moveAlike 15 = .ok (.iload_n 0, 1) := by decide +kernel
theorem dX3_moveAlike_16 : decode cX3_moveAlike 16 = .ok (.iload_n 2, 1) := by decide +kernel
theorem dX3_moveAlike_17 : decode cX3_moveAlike 17 = .ok (.iload_n 3, 1) := by decide +kernel
theorem dX3_moveAlike_18 : decode cX3_moveAlike 18 = .ok (.invokestatic 150, 3) := by decide +kernel
theorem dX3_moveAlike_21 : decode cX3_moveAlike 21 = .ok (.iload_n 1, 1) := by decide +kernel
theorem dX3_moveAlike_22 : decode cX3_moveAlike 22 = .ok (.iload_n 2, 1) := by decide +kernel
theorem dX3_moveAlike_23 : decode cX3_moveAlike 23 = .ok (.iload_n 3, 1) := by decide +kernel
theorem dX3_moveAlike_24 : decode cX3_moveAlike 24 = .ok (.invokestatic 150, 3) := by decide +kernel
theorem dX3_moveAlike_27 : decode cX3_moveAlike 27 = .ok (.if_icmp .ne 7, 3) := by decide +kernel
theorem dX3_moveAlike_30 : decode cX3_moveAlike 30 = .ok (.iconst 1, 1) := by decide +kernel
theorem dX3_moveAlike_31 : decode cX3_moveAlike 31 = .ok (.goto 4, 3) := by decide +kernel
theorem dX3_moveAlike_34 : decode cX3_moveAlike 34 = .ok (.iconst 0, 1) := by decide +kernel
theorem dX3_moveAlike_35 : decode cX3_moveAlike 35 = .ok (.ireturn, 1) := by decide +kernel
theorem dX3_mostAlike_0 : decode cX3_mostAlike 0 = .ok (.iconst 0, 1) := by decide +kernel
theorem dX3_mostAlike_1 : decode cX3_mostAlike 1 = .ok (.istore_n 3, 1) := by decide +kernel
theorem dX3_mostAlike_2 : decode cX3_mostAlike 2 = .ok (.iconst 0, 1) := by decide +kernel
theorem dX3_mostAlike_3 : decode cX3_mostAlike 3 = .ok (.istore 4, 2) := by decide +kernel
theorem dX3_mostAlike_5 : decode cX3_mostAlike 5 = .ok (.iload 4, 2) := by decide +kernel
theorem dX3_mostAlike_7 : decode cX3_mostAlike 7 = .ok (.bipush 6, 2) := by decide +kernel
theorem dX3_mostAlike_9 : decode cX3_mostAlike 9 = .ok (.if_icmp .ge 82, 3) := by decide +kernel
theorem dX3_mostAlike_12 : decode cX3_mostAlike 12 = .ok (.iconst 0, 1) := by decide +kernel
theorem dX3_mostAlike_13 : decode cX3_mostAlike 13 = .ok (.istore 5, 2) := by decide +kernel
theorem dX3_mostAlike_15 : decode cX3_mostAlike 15 = .ok (.iconst 0, 1) := by decide +kernel
theorem dX3_mostAlike_16 : decode cX3_mostAlike 16 = .ok (.istore 6, 2) := by decide +kernel
theorem dX3_mostAlike_18 : decode cX3_mostAlike 18 = .ok (.iload 6, 2) := by decide +kernel
theorem dX3_mostAlike_20 : decode cX3_mostAlike 20 = .ok (.bipush 6, 2) := by decide +kernel
theorem dX3_mostAlike_22 : decode cX3_mostAlike 22 = .ok (.if_icmp .ge 56, 3) := by decide +kernel
theorem dX3_mostAlike_25 : decode cX3_mostAlike 25 = .ok (.iload_n 0, 1) := by decide +kernel
theorem dX3_mostAlike_26 : decode cX3_mostAlike 26 = .ok (.iload 4, 2) := by decide +kernel
theorem dX3_mostAlike_28 : decode cX3_mostAlike 28 = .ok (.ishr, 1) := by decide +kernel
theorem dX3_mostAlike_29 : decode cX3_mostAlike 29 = .ok (.iconst 1, 1) := by decide +kernel
theorem dX3_mostAlike_30 : decode cX3_mostAlike 30 = .ok (.iand, 1) := by decide +kernel
theorem dX3_mostAlike_31 : decode cX3_mostAlike 31 = .ok (.iconst 1, 1) := by decide +kernel
theorem dX3_mostAlike_32 : decode cX3_mostAlike 32 = .ok (.if_icmp .ne 17, 3) := by decide +kernel
theorem dX3_mostAlike_35 : decode cX3_mostAlike 35 = .ok (.iload_n 0, 1) := by decide +kernel
theorem dX3_mostAlike_36 : decode cX3_mostAlike 36 = .ok (.iload 6, 2) := by decide +kernel
theorem dX3_mostAlike_38 : decode cX3_mostAlike 38 = .ok (.ishr, 1) := by decide +kernel
theorem dX3_mostAlike_39 : decode cX3_mostAlike 39 = .ok (.iconst 1, 1) := by decide +kernel
theorem dX3_mostAlike_40 : decode cX3_mostAlike 40 = .ok (.iand, 1) := by decide +kernel
theorem dX3_mostAlike_41 : decode cX3_mostAlike 41 = .ok (.iconst 1, 1) := by decide +kernel
theorem dX3_mostAlike_42 : decode cX3_mostAlike 42 = .ok (.if_icmp .ne 7, 3) := by decide +kernel
theorem dX3_mostAlike_45 : decode cX3_mostAlike 45 = .ok (.iconst 1, 1) := by decide +kernel
theorem dX3_mostAlike_46 : decode cX3_mostAlike 46 = .ok (.goto 4, 3) := by decide +kernel
theorem dX3_mostAlike_49 : decode cX3_mostAlike 49 = .ok (.iconst 0, 1) := by decide +kernel
theorem dX3_mostAlike_50 : decode cX3_mostAlike 50 = .ok (.istore 7, 2) := by decide +kernel
theorem dX3_mostAlike_52 : decode cX3_mostAlike 52 = .ok (.iload 7, 2) := by decide +kernel
theorem dX3_mostAlike_54 : decode cX3_mostAlike 54 = .ok (.ifCond .eq 18, 3) := by decide +kernel
theorem dX3_mostAlike_57 : decode cX3_mostAlike 57 = .ok (.iload 4, 2) := by decide +kernel
theorem dX3_mostAlike_59 : decode cX3_mostAlike 59 = .ok (.iload 6, 2) := by decide +kernel
theorem dX3_mostAlike_61 : decode cX3_mostAlike 61 = .ok (.iload_n 1, 1) := by decide +kernel
theorem dX3_mostAlike_62 : decode cX3_mostAlike 62 = .ok (.iload_n 2, 1) := by decide +kernel
theorem dX3_mostAlike_63 : decode cX3_mostAlike 63 = .ok (.invokestatic 265, 3) := by decide +kernel
theorem dX3_mostAlike_66 : decode cX3_mostAlike 66 = .ok (.ifCond .eq 6, 3) := by decide +kernel
theorem dX3_mostAlike_69 : decode cX3_mostAlike 69 = .ok (.iinc 5 1, 3) := by decide +kernel
theorem dX3_mostAlike_72 : decode cX3_mostAlike 72 = .ok (.iinc 6 1, 3) := by decide +kernel
theorem dX3_mostAlike_75 : decode cX3_mostAlike 75 = .ok (.goto (-57), 3) := by decide +kernel
theorem dX3_mostAlike_78 : decode cX3_mostAlike 78 = .ok (.iload_n 3, 1) := by decide +kernel
theorem dX3_mostAlike_79 : decode cX3_mostAlike 79 = .ok (.iload 5, 2) := by decide +kernel
theorem dX3_mostAlike_81 : decode cX3_mostAlike 81 = .ok (.invokestatic 256, 3) := by decide +kernel
theorem dX3_mostAlike_84 : decode cX3_mostAlike 84 = .ok (.istore_n 3, 1) := by decide +kernel
theorem dX3_mostAlike_85 : decode cX3_mostAlike 85 = .ok (.iinc 4 1, 3) := by decide +kernel
theorem dX3_mostAlike_88 : decode cX3_mostAlike 88 = .ok (.goto (-83), 3) := by decide +kernel
theorem dX3_mostAlike_91 : decode cX3_mostAlike 91 = .ok (.iload_n 3, 1) := by decide +kernel
theorem dX3_mostAlike_92 : decode cX3_mostAlike 92 = .ok (.ireturn, 1) := by decide +kernel
theorem dX3_readItems_0 : decode cX3_readItems 0 = .ok (.aload_n 1, 1) := by decide +kernel
theorem dX3_readItems_1 : decode cX3_readItems 1 = .ok (.iconst 0, 1) := by decide +kernel
theorem dX3_readItems_2 : decode cX3_readItems 2 = .ok (.invokevirtual 56, 3) := by decide +kernel
theorem dX3_readItems_5 : decode cX3_readItems 5 = .ok (.aload_n 0, 1) := by decide +kernel
theorem dX3_readItems_6 : decode cX3_readItems 6 = .ok (.iconst 0, 1) := by decide +kernel
theorem dX3_readItems_7 : decode cX3_readItems 7 = .ok (.putfield 269, 3) := by decide +kernel
theorem dX3_readItems_10 : decode cX3_readItems 10 = .ok (.iconst 0, 1) := by decide +kernel
theorem dX3_readItems_11 : decode cX3_readItems 11 = .ok (.istore_n 2, 1) := by decide +kernel
theorem dX3_readItems_12 : decode cX3_readItems 12 = .ok (.iload_n 2, 1) := by decide +kernel
theorem dX3_readItems_13 : decode cX3_readItems 13 = .ok (.sipush 150, 3) := by decide +kernel
theorem dX3_readItems_16 : decode cX3_readItems 16 = .ok (.if_icmp .gt 64, 3) := by decide +kernel
theorem dX3_readItems_19 : decode cX3_readItems 19 = .ok (.aload_n 0, 1) := by decide +kernel
theorem dX3_readItems_20 : decode cX3_readItems 20 = .ok (.invokevirtual 272, 3) := by decide +kernel
theorem dX3_readItems_23 : decode cX3_readItems 23 = .ok (.aload_n 0, 1) := by decide +kernel
theorem dX3_readItems_24 : decode cX3_readItems 24 = .ok (.getfield 275, 3) := by decide +kernel
theorem dX3_readItems_27 : decode cX3_readItems 27 = .ok (.ifCond .ne 9, 3) := by decide +kernel
theorem dX3_readItems_30 : decode cX3_readItems 30 = .ok (.iload_n 2, 1) := by decide +kernel
theorem dX3_readItems_31 : decode cX3_readItems 31 = .ok (.ifCond .le 5, 3) := by decide +kernel
theorem dX3_readItems_34 : decode cX3_readItems 34 = .ok (.iload_n 2, 1) := by decide +kernel
theorem dX3_readItems_35 : decode cX3_readItems 35 = .ok (.ireturn, 1) := by decide +kernel
theorem dX3_readItems_36 : decode cX3_readItems 36 = .ok (.iload_n 2, 1) := by decide +kernel
theorem dX3_readItems_37 : decode cX3_readItems 37 = .ok (.ifCond .ne 11, 3) := by decide +kernel
theorem dX3_readItems_40 : decode cX3_readItems 40 = .ok (.aload_n 0, 1) := by decide +kernel
theorem dX3_readItems_41 : decode cX3_readItems 41 = .ok (.aload_n 1, 1) := by decide +kernel
theorem dX3_readItems_42 : decode cX3_readItems 42 = .ok (.invokestatic 278, 3) := by decide +kernel
theorem dX3_readItems_45 : decode cX3_readItems 45 = .ok (.goto 8, 3) := by decide +kernel
theorem dX3_readItems_48 : decode cX3_readItems 48 = .ok (.aload_n 0, 1) := by decide +kernel
theorem dX3_readItems_49 : decode cX3_readItems 49 = .ok (.aload_n 1, 1) := by decide +kernel
theorem dX3_readItems_50 : decode cX3_readItems 50 = .ok (.invokestatic 282, 3) := by decide +kernel
theorem dX3_readItems_53 : decode cX3_readItems 53 = .ok (.istore_n 3, 1) := by decide +kernel
theorem dX3_readItems_54 : decode cX3_readItems 54 = .ok (.iload_n 3, 1) := by decide +kernel
theorem dX3_readItems_55 : decode cX3_readItems 55 = .ok (.ifCond .ne 5, 3) := by decide +kernel
theorem dX3_readItems_58 : decode cX3_readItems 58 = .ok (.iconst (-1), 1) := by decide +kernel
theorem dX3_readItems_59 : decode cX3_readItems 59 = .ok (.ireturn, 1) := by decide +kernel
theorem dX3_readItems_60 : decode cX3_readItems 60 = .ok (.aload_n 0, 1) := by decide +kernel
theorem dX3_readItems_61 : decode cX3_readItems 61 = .ok (.invokevirtual 272, 3) := by decide +kernel
theorem dX3_readItems_64 : decode cX3_readItems 64 = .ok (.aload_n 0, 1) := by decide +kernel
theorem dX3_readItems_65 : decode cX3_readItems 65 = .ok (.getfield 275, 3) := by decide +kernel
theorem dX3_readItems_68 : decode cX3_readItems 68 = .ok (.iconst 3, 1) := by decide +kernel
theorem dX3_readItems_69 : decode cX3_readItems 69 = .ok (.if_icmp .eq 5, 3) := by decide +kernel
theorem dX3_readItems_72 : decode cX3_readItems 72 = .ok (.iconst (-1), 1) := by decide +kernel
theorem dX3_readItems_73 : decode cX3_readItems 73 = .ok (.ireturn, 1) := by decide +kernel
theorem dX3_readItems_74 : decode cX3_readItems 74 = .ok (.iinc 2 1, 3) := by decide +kernel
theorem dX3_readItems_77 : decode cX3_readItems 77 = .ok (.goto (-65), 3) := by decide +kernel
theorem dX3_readItems_80 : decode cX3_readItems 80 = .ok (.iconst (-1), 1) := by decide +kernel
theorem dX3_readItems_81 : decode cX3_readItems 81 = .ok (.ireturn, 1) := by decide +kernel
theorem dX3_readFirst_0 : decode cX3_readFirst 0 = .ok (.aload_n 0, 1) := by decide +kernel
theorem dX3_readFirst_1 : decode cX3_readFirst 1 = .ok (.ldc_w 285, 3) := by decide +kernel
theorem dX3_readFirst_4 : decode cX3_readFirst 4 = .ok (.invokevirtual 286, 3) := by decide +kernel
theorem dX3_readFirst_7 : decode cX3_readFirst 7 = .ok (.ifCond .eq 12, 3) := by decide +kernel
theorem dX3_readFirst_10 : decode cX3_readFirst 10 = .ok (.aload_n 0, 1) := by decide +kernel
theorem dX3_readFirst_11 : decode cX3_readFirst 11 = .ok (.iconst 0, 1) := by decide +kernel
theorem dX3_readFirst_12 : decode cX3_readFirst 12 = .ok (.iconst 5, 1) := by decide +kernel
theorem dX3_readFirst_13 : decode cX3_readFirst 13 = .ok (.invokevirtual 290, 3) := by decide +kernel
theorem dX3_readFirst_16 : decode cX3_readFirst 16 = .ok (.ifCond .ne 5, 3) := by decide +kernel
theorem dX3_readFirst_19 : decode cX3_readFirst 19 = .ok (.iconst 0, 1) := by decide +kernel
theorem dX3_readFirst_20 : decode cX3_readFirst 20 = .ok (.ireturn, 1) := by decide +kernel
theorem dX3_readFirst_21 : decode cX3_readFirst 21 = .ok (.aload_n 1, 1) := by decide +kernel
theorem dX3_readFirst_22 : decode cX3_readFirst 22 = .ok (.aload_n 0, 1) := by decide +kernel
theorem dX3_readFirst_23 : decode cX3_readFirst 23 = .ok (.getfield 294, 3) := by decide +kernel
theorem dX3_readFirst_26 : decode cX3_readFirst 26 = .ok (.invokevirtual 56, 3) := by decide +kernel
theorem dX3_readFirst_29 : decode cX3_readFirst 29 = .ok (.iconst 1, 1) := by decide +kernel
theorem dX3_readFirst_30 : decode cX3_readFirst 30 = .ok (.ireturn, 1) := by decide +kernel
theorem dX3_readItem_0 : decode cX3_readItem 0 = .ok (.aload_n 0, 1) := by decide +kernel
theorem dX3_readItem_1 : decode cX3_readItem 1 = .ok (.ldc_w 297, 3) := by decide +kernel
theorem dX3_readItem_4 : decode cX3_readItem 4 = .ok (.invokevirtual 286, 3) := by decide +kernel
theorem dX3_readItem_7 : decode cX3_readItem 7 = .ok (.ifCond .eq 9, 3) := by decide +kernel
theorem dX3_readItem_10 : decode cX3_readItem 10 = .ok (.aload_n 0, 1) := by decide +kernel
theorem dX3_readItem_11 : decode cX3_readItem 11 = .ok (.aload_n 1, 1) := by decide +kernel
theorem dX3_readItem_12 : decode cX3_readItem 12 = .ok (.invokestatic 299, 3) := by decide +kernel
theorem dX3_readItem_15 : decode cX3_readItem 15 = .ok (.ireturn, 1) := by decide +kernel
theorem dX3_readItem_16 : decode cX3_readItem 16 = .ok (.aload_n 0, 1) := by decide +kernel
theorem dX3_readItem_17 : decode cX3_readItem 17 = .ok (.ldc_w 302, 3) := by decide +kernel
theorem dX3_readItem_20 : decode cX3_readItem 20 = .ok (.invokevirtual 286, 3) := by decide +kernel
theorem dX3_readItem_23 : decode cX3_readItem 23 = .ok (.ifCond .eq 9, 3) := by decide +kernel
theorem dX3_readItem_26 : decode cX3_readItem 26 = .ok (.aload_n 0, 1) := by decide +kernel
theorem dX3_readItem_27 : decode cX3_readItem 27 = .ok (.aload_n 1, 1) := by decide +kernel
theorem dX3_readItem_28 : decode cX3_readItem 28 = .ok (.invokestatic 304, 3) := by decide +kernel
theorem dX3_readItem_31 : decode cX3_readItem 31 = .ok (.ireturn, 1) := by decide +kernel
theorem dX3_readItem_32 : decode cX3_readItem 32 = .ok (.aload_n 0, 1) := by decide +kernel
theorem dX3_readItem_33 : decode cX3_readItem 33 = .ok (.ldc_w 307, 3) := by decide +kernel
theorem dX3_readItem_36 : decode cX3_readItem 36 = .ok (.invokevirtual 286, 3) := by decide +kernel
theorem dX3_readItem_39 : decode cX3_readItem 39 = .ok (.ifCond .eq 9, 3) := by decide +kernel
theorem dX3_readItem_42 : decode cX3_readItem 42 = .ok (.aload_n 0, 1) := by decide +kernel
theorem dX3_readItem_43 : decode cX3_readItem 43 = .ok (.aload_n 1, 1) := by decide +kernel
theorem dX3_readItem_44 : decode cX3_readItem 44 = .ok (.invokestatic 309, 3) := by decide +kernel
theorem dX3_readItem_47 : decode cX3_readItem 47 = .ok (.ireturn, 1) := by decide +kernel
theorem dX3_readItem_48 : decode cX3_readItem 48 = .ok (.aload_n 0, 1) := by decide +kernel
theorem dX3_readItem_49 : decode cX3_readItem 49 = .ok (.ldc_w 312, 3) := by decide +kernel
theorem dX3_readItem_52 : decode cX3_readItem 52 = .ok (.invokevirtual 286, 3) := by decide +kernel
theorem dX3_readItem_55 : decode cX3_readItem 55 = .ok (.ifCond .eq 15, 3) := by decide +kernel
theorem dX3_readItem_58 : decode cX3_readItem 58 = .ok (.aload_n 0, 1) := by decide +kernel
theorem dX3_readItem_59 : decode cX3_readItem 59 = .ok (.aload_n 1, 1) := by decide +kernel
theorem dX3_readItem_60 : decode cX3_readItem 60 = .ok (.invokestatic 314, 3) := by decide +kernel
theorem dX3_readItem_63 : decode cX3_readItem 63 = .ok (.ifCond .eq 7, 3) := by decide +kernel
theorem dX3_readItem_66 : decode cX3_readItem 66 = .ok (.iconst 1, 1) := by decide +kernel
theorem dX3_readItem_67 : decode cX3_readItem 67 = .ok (.goto 4, 3) := by decide +kernel
theorem dX3_readItem_70 : decode cX3_readItem 70 = .ok (.iconst 0, 1) := by decide +kernel
theorem dX3_readItem_71 : decode cX3_readItem 71 = .ok (.ireturn, 1) := by decide +kernel
theorem dX3_readMood_0 : decode cX3_readMood 0 = .ok (.aload_n 0, 1) := by decide +kernel
theorem dX3_readMood_1 : decode cX3_readMood 1 = .ok (.iconst 0, 1) := by decide +kernel
theorem dX3_readMood_2 : decode cX3_readMood 2 = .ok (.aload_n 1, 1) := by decide +kernel
theorem dX3_readMood_3 : decode cX3_readMood 3 = .ok (.getfield 71, 3) := by decide +kernel
theorem dX3_readMood_6 : decode cX3_readMood 6 = .ok (.iconst 1, 1) := by decide +kernel
theorem dX3_readMood_7 : decode cX3_readMood 7 = .ok (.isub, 1) := by decide +kernel
theorem dX3_readMood_8 : decode cX3_readMood 8 = .ok (.invokevirtual 290, 3) := by decide +kernel
theorem dX3_readMood_11 : decode cX3_readMood 11 = .ok (.ifCond .ne 5, 3) := by decide +kernel
theorem dX3_readMood_14 : decode cX3_readMood 14 = .ok (.iconst 0, 1) := by decide +kernel
theorem dX3_readMood_15 : decode cX3_readMood 15 = .ok (.ireturn, 1) := by decide +kernel
theorem dX3_readMood_16 : decode cX3_readMood 16 = .ok (.aload_n 0, 1) := by decide +kernel
theorem dX3_readMood_17 : decode cX3_readMood 17 = .ok (.getfield 294, 3) := by decide +kernel
theorem dX3_readMood_20 : decode cX3_readMood 20 = .ok (.istore_n 2, 1) := by decide +kernel
theorem dX3_readMood_21 : decode cX3_readMood 21 = .ok (.aload_n 0, 1) := by decide +kernel
theorem dX3_readMood_22 : decode cX3_readMood 22 = .ok (.iconst 0, 1) := by decide +kernel
theorem dX3_readMood_23 : decode cX3_readMood 23 = .ok (.bipush 99, 2) := by decide +kernel
theorem dX3_readMood_25 : decode cX3_readMood 25 = .ok (.invokevirtual 290, 3) := by decide +kernel
theorem dX3_readMood_28 : decode cX3_readMood 28 = .ok (.ifCond .ne 5, 3) := by decide +kernel
theorem dX3_readMood_31 : decode cX3_readMood 31 = .ok (.iconst 0, 1) := by decide +kernel
theorem dX3_readMood_32 : decode cX3_readMood 32 = .ok (.ireturn, 1) := by decide +kernel
theorem dX3_readMood_33 : decode cX3_readMood 33 = .ok (.aload_n 1, 1) := by decide +kernel
theorem dX3_readMood_34 : decode cX3_readMood 34 = .ok (.iload_n 2, 1) := by decide +kernel
theorem dX3_readMood_35 : decode cX3_readMood 35 = .ok (.aload_n 0, 1) := by decide +kernel
theorem dX3_readMood_36 : decode cX3_readMood 36 = .ok (.getfield 294, 3) := by decide +kernel
theorem dX3_readMood_39 : decode cX3_readMood 39 = .ok (.invokevirtual 74, 3) := by decide +kernel
theorem dX3_readMood_42 : decode cX3_readMood 42 = .ok (.iconst 1, 1) := by decide +kernel
theorem dX3_readMood_43 : decode cX3_readMood 43 = .ok (.ireturn, 1) := by decide +kernel
theorem dX3_readBound_0 : decode cX3_readBound 0 = .ok (.aload_n 0, 1) := by decide +kernel
theorem dX3_readBound_1 : decode cX3_readBound 1 = .ok (.aload_n 1, 1) := by decide +kernel
theorem dX3_readBound_2 : decode cX3_readBound 2 = .ok (.getfield 78, 3) := by decide +kernel
theorem dX3_readBound_5 : decode cX3_readBound 5 = .ok (.invokestatic 81, 3) := by decide +kernel
theorem dX3_readBound_8 : decode cX3_readBound 8 = .ok (.iconst 1, 1) := by decide +kernel
theorem dX3_readBound_9 : decode cX3_readBound 9 = .ok (.iadd, 1) := by decide +kernel
theorem dX3_readBound_10 : decode cX3_readBound 10 = .ok (.bipush 99, 2) := by decide +kernel
theorem dX3_readBound_12 : decode cX3_readBound 12 = .ok (.invokevirtual 290, 3) := by decide +kernel
theorem dX3_readBound_15 : decode cX3_readBound 15 = .ok (.ifCond .ne 5, 3) := by decide +kernel
theorem dX3_readBound_18 : decode cX3_readBound 18 = .ok (.iconst 0, 1) := by decide +kernel
theorem dX3_readBound_19 : decode cX3_readBound 19 = .ok (.ireturn, 1) := by decide +kernel
theorem dX3_readBound_20 : decode cX3_readBound 20 = .ok (.aload_n 0, 1) := by decide +kernel
theorem dX3_readBound_21 : decode cX3_readBound 21 = .ok (.getfield 294, 3) := by decide +kernel
theorem dX3_readBound_24 : decode cX3_readBound 24 = .ok (.istore_n 2, 1) := by decide +kernel
theorem dX3_readBound_25 : decode cX3_readBound 25 = .ok (.aload_n 0, 1) := by decide +kernel
theorem dX3_readBound_26 : decode cX3_readBound 26 = .ok (.iconst 1, 1) := by decide +kernel
theorem dX3_readBound_27 : decode cX3_readBound 27 = .ok (.bipush 99, 2) := by decide +kernel
theorem dX3_readBound_29 : decode cX3_readBound 29 = .ok (.invokevirtual 290, 3) := by decide +kernel
theorem dX3_readBound_32 : decode cX3_readBound 32 = .ok (.ifCond .ne 5, 3) := by decide +kernel
theorem dX3_readBound_35 : decode cX3_readBound 35 = .ok (.iconst 0, 1) := by decide +kernel
theorem dX3_readBound_36 : decode cX3_readBound 36 = .ok (.ireturn, 1) := by decide +kernel
theorem dX3_readBound_37 : decode cX3_readBound 37 = .ok (.aload_n 1, 1) := by decide +kernel
theorem dX3_readBound_38 : decode cX3_readBound 38 = .ok (.iload_n 2, 1) := by decide +kernel
theorem dX3_readBound_39 : decode cX3_readBound 39 = .ok (.putfield 71, 3) := by decide +kernel
theorem dX3_readBound_42 : decode cX3_readBound 42 = .ok (.aload_n 1, 1) := by decide +kernel
theorem dX3_readBound_43 : decode cX3_readBound 43 = .ok (.aload_n 0, 1) := by decide +kernel
theorem dX3_readBound_44 : decode cX3_readBound 44 = .ok (.getfield 294, 3) := by decide +kernel
theorem dX3_readBound_47 : decode cX3_readBound 47 = .ok (.putfield 84, 3) := by decide +kernel
theorem dX3_readBound_50 : decode cX3_readBound 50 = .ok (.iconst 1, 1) := by decide +kernel
theorem dX3_readBound_51 : decode cX3_readBound 51 = .ok (.ireturn, 1) := by decide +kernel
theorem dX3_readVow_0 : decode cX3_readVow 0 = .ok (.aload_n 0, 1) := by decide +kernel
theorem dX3_readVow_1 : decode cX3_readVow 1 = .ok (.iconst 0, 1) := by decide +kernel
theorem dX3_readVow_2 : decode cX3_readVow 2 = .ok (.bipush 7, 2) := by decide +kernel
theorem dX3_readVow_4 : decode cX3_readVow 4 = .ok (.invokevirtual 290, 3) := by decide +kernel
theorem dX3_readVow_7 : decode cX3_readVow 7 = .ok (.ifCond .ne 5, 3) := by decide +kernel
theorem dX3_readVow_10 : decode cX3_readVow 10 = .ok (.iconst 0, 1) := by decide +kernel
theorem dX3_readVow_11 : decode cX3_readVow 11 = .ok (.ireturn, 1) := by decide +kernel
theorem dX3_readVow_12 : decode cX3_readVow 12 = .ok (.aload_n 0, 1) := by decide +kernel
theorem dX3_readVow_13 : decode cX3_readVow 13 = .ok (.getfield 294, 3) := by decide +kernel
theorem dX3_readVow_16 : decode cX3_readVow 16 = .ok (.istore_n 2, 1) := by decide +kernel
theorem dX3_readVow_17 : decode cX3_readVow 17 = .ok (.aload_n 0, 1) := by decide +kernel
theorem dX3_readVow_18 : decode cX3_readVow 18 = .ok (.iconst 0, 1) := by decide +kernel
theorem dX3_readVow_19 : decode cX3_readVow 19 = .ok (.iconst 4, 1) := by decide +kernel
theorem dX3_readVow_20 : decode cX3_readVow 20 = .ok (.invokevirtual 290, 3) := by decide +kernel
theorem dX3_readVow_23 : decode cX3_readVow 23 = .ok (.ifCond .ne 5, 3) := by decide +kernel
theorem dX3_readVow_26 : decode cX3_readVow 26 = .ok (.iconst 0, 1) := by decide +kernel
theorem dX3_readVow_27 : decode cX3_readVow 27 = .ok (.ireturn, 1) := by decide +kernel
theorem dX3_readVow_28 : decode cX3_readVow 28 = .ok (.aload_n 1, 1) := by decide +kernel
theorem dX3_readVow_29 : decode cX3_readVow 29 = .ok (.getfield 87, 3) := by decide +kernel
theorem dX3_readVow_32 : decode cX3_readVow 32 = .ok (.iload_n 2, 1) := by decide +kernel
theorem dX3_readVow_33 : decode cX3_readVow 33 = .ok (.aload_n 0, 1) := by decide +kernel
theorem dX3_readVow_34 : decode cX3_readVow 34 = .ok (.getfield 294, 3) := by decide +kernel
theorem dX3_readVow_37 : decode cX3_readVow 37 = .ok (.invokestatic 95, 3) := by decide +kernel
theorem dX3_readVow_40 : decode cX3_readVow 40 = .ok (.iconst 1, 1) := by decide +kernel
theorem dX3_readVow_41 : decode cX3_readVow 41 = .ok (.ireturn, 1) := by decide +kernel
theorem dX3_readSay_0 : decode cX3_readSay 0 = .ok (.aload_n 0, 1) := by decide +kernel
theorem dX3_readSay_1 : decode cX3_readSay 1 = .ok (.iconst 0, 1) := by decide +kernel
theorem dX3_readSay_2 : decode cX3_readSay 2 = .ok (.iconst 5, 1) := by decide +kernel
theorem dX3_readSay_3 : decode cX3_readSay 3 = .ok (.invokevirtual 290, 3) := by decide +kernel
theorem dX3_readSay_6 : decode cX3_readSay 6 = .ok (.ifCond .eq 13, 3) := by decide +kernel
theorem dX3_readSay_9 : decode cX3_readSay 9 = .ok (.aload_n 1, 1) := by decide +kernel
theorem dX3_readSay_10 : decode cX3_readSay 10 = .ok (.getfield 78, 3) := by decide +kernel
theorem dX3_readSay_13 : decode cX3_readSay 13 = .ok (.invokestatic 120, 3) := by decide +kernel
theorem dX3_readSay_16 : decode cX3_readSay 16 = .ok (.ifCond .eq 5, 3) := by decide +kernel
theorem dX3_readSay_19 : decode cX3_readSay 19 = .ok (.iconst 0, 1) := by decide +kernel
theorem dX3_readSay_20 : decode cX3_readSay 20 = .ok (.ireturn, 1) := by decide +kernel
theorem dX3_readSay_21 : decode cX3_readSay 21 = .ok (.aload_n 1, 1) := by decide +kernel
theorem dX3_readSay_22 : decode cX3_readSay 22 = .ok (.aload_n 0, 1) := by decide +kernel
theorem dX3_readSay_23 : decode cX3_readSay 23 = .ok (.getfield 294, 3) := by decide +kernel
theorem dX3_readSay_26 : decode cX3_readSay 26 = .ok (.invokevirtual 126, 3) := by decide +kernel
theorem dX3_readSay_29 : decode cX3_readSay 29 = .ok (.iconst 1, 1) := by decide +kernel
theorem dX3_readSay_30 : decode cX3_readSay 30 = .ok (.ireturn, 1) := by decide +kernel
