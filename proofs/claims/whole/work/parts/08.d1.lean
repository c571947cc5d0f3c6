theorem d_Ck_firstRefused_0 : decode m_Ck_firstRefused.2.1 0 = .ok (.aload_n 0, 1) := by decide +kernel
theorem d_Ck_firstRefused_1 : decode m_Ck_firstRefused.2.1 1 = .ok (.getfield 12, 3) := by decide +kernel
theorem d_Ck_firstRefused_4 : decode m_Ck_firstRefused.2.1 4 = .ok (.invokevirtual 18, 3) := by decide +kernel
theorem d_Ck_firstRefused_7 : decode m_Ck_firstRefused.2.1 7 = .ok (.iconst 0, 1) := by decide +kernel
theorem d_Ck_firstRefused_8 : decode m_Ck_firstRefused.2.1 8 = .ok (.istore_n 3, 1) := by decide +kernel
theorem d_Ck_firstRefused_9 : decode m_Ck_firstRefused.2.1 9 = .ok (.iload_n 3, 1) := by decide +kernel
theorem d_Ck_firstRefused_10 : decode m_Ck_firstRefused.2.1 10 = .ok (.aload_n 2, 1) := by decide +kernel
theorem d_Ck_firstRefused_11 : decode m_Ck_firstRefused.2.1 11 = .ok (.getfield 21, 3) := by decide +kernel
theorem d_Ck_firstRefused_14 : decode m_Ck_firstRefused.2.1 14 = .ok (.if_icmp .ge 24, 3) := by decide +kernel
theorem d_Ck_firstRefused_17 : decode m_Ck_firstRefused.2.1 17 = .ok (.aload_n 0, 1) := by decide +kernel
theorem d_Ck_firstRefused_18 : decode m_Ck_firstRefused.2.1 18 = .ok (.getfield 12, 3) := by decide +kernel
theorem d_Ck_firstRefused_21 : decode m_Ck_firstRefused.2.1 21 = .ok (.iload_n 3, 1) := by decide +kernel
theorem d_Ck_firstRefused_22 : decode m_Ck_firstRefused.2.1 22 = .ok (.aload_n 1, 1) := by decide +kernel
theorem d_Ck_firstRefused_23 : decode m_Ck_firstRefused.2.1 23 = .ok (.aload_n 2, 1) := by decide +kernel
theorem d_Ck_firstRefused_24 : decode m_Ck_firstRefused.2.1 24 = .ok (.iload_n 3, 1) := by decide +kernel
theorem d_Ck_firstRefused_25 : decode m_Ck_firstRefused.2.1 25 = .ok (.invokevirtual 27, 3) := by decide +kernel
theorem d_Ck_firstRefused_28 : decode m_Ck_firstRefused.2.1 28 = .ok (.iconst 0, 1) := by decide +kernel
theorem d_Ck_firstRefused_29 : decode m_Ck_firstRefused.2.1 29 = .ok (.invokevirtual 33, 3) := by decide +kernel
theorem d_Ck_firstRefused_32 : decode m_Ck_firstRefused.2.1 32 = .ok (.iinc 3 1, 3) := by decide +kernel
theorem d_Ck_firstRefused_35 : decode m_Ck_firstRefused.2.1 35 = .ok (.goto (-26), 3) := by decide +kernel
theorem d_Ck_firstRefused_38 : decode m_Ck_firstRefused.2.1 38 = .ok (.aload_n 0, 1) := by decide +kernel
theorem d_Ck_firstRefused_39 : decode m_Ck_firstRefused.2.1 39 = .ok (.iconst 1, 1) := by decide +kernel
theorem d_Ck_firstRefused_40 : decode m_Ck_firstRefused.2.1 40 = .ok (.putfield 37, 3) := by decide +kernel
theorem d_Ck_firstRefused_43 : decode m_Ck_firstRefused.2.1 43 = .ok (.iconst 0, 1) := by decide +kernel
theorem d_Ck_firstRefused_44 : decode m_Ck_firstRefused.2.1 44 = .ok (.istore_n 3, 1) := by decide +kernel
theorem d_Ck_firstRefused_45 : decode m_Ck_firstRefused.2.1 45 = .ok (.iconst 0, 1) := by decide +kernel
theorem d_Ck_firstRefused_46 : decode m_Ck_firstRefused.2.1 46 = .ok (.istore 4, 2) := by decide +kernel
theorem d_Ck_firstRefused_48 : decode m_Ck_firstRefused.2.1 48 = .ok (.iload 4, 2) := by decide +kernel
theorem d_Ck_firstRefused_50 : decode m_Ck_firstRefused.2.1 50 = .ok (.aload_n 2, 1) := by decide +kernel
theorem d_Ck_firstRefused_51 : decode m_Ck_firstRefused.2.1 51 = .ok (.getfield 41, 3) := by decide +kernel
theorem d_Ck_firstRefused_54 : decode m_Ck_firstRefused.2.1 54 = .ok (.if_icmp .ge 107, 3) := by decide +kernel
theorem d_Ck_firstRefused_57 : decode m_Ck_firstRefused.2.1 57 = .ok (.aload_n 1, 1) := by decide +kernel
theorem d_Ck_firstRefused_58 : decode m_Ck_firstRefused.2.1 58 = .ok (.aload_n 2, 1) := by decide +kernel
theorem d_Ck_firstRefused_59 : decode m_Ck_firstRefused.2.1 59 = .ok (.iload 4, 2) := by decide +kernel
theorem d_Ck_firstRefused_61 : decode m_Ck_firstRefused.2.1 61 = .ok (.invokevirtual 44, 3) := by decide +kernel
theorem d_Ck_firstRefused_64 : decode m_Ck_firstRefused.2.1 64 = .ok (.istore_n 3, 1) := by decide +kernel
theorem d_Ck_firstRefused_65 : decode m_Ck_firstRefused.2.1 65 = .ok (.aload_n 0, 1) := by decide +kernel
theorem d_Ck_firstRefused_66 : decode m_Ck_firstRefused.2.1 66 = .ok (.aload_n 1, 1) := by decide +kernel
theorem d_Ck_firstRefused_67 : decode m_Ck_firstRefused.2.1 67 = .ok (.aload_n 2, 1) := by decide +kernel
theorem d_Ck_firstRefused_68 : decode m_Ck_firstRefused.2.1 68 = .ok (.iload 4, 2) := by decide +kernel
theorem d_Ck_firstRefused_70 : decode m_Ck_firstRefused.2.1 70 = .ok (.invokevirtual 47, 3) := by decide +kernel
theorem d_Ck_firstRefused_73 : decode m_Ck_firstRefused.2.1 73 = .ok (.ifCond .eq 24, 3) := by decide +kernel
theorem d_Ck_firstRefused_76 : decode m_Ck_firstRefused.2.1 76 = .ok (.aload_n 0, 1) := by decide +kernel
theorem d_Ck_firstRefused_77 : decode m_Ck_firstRefused.2.1 77 = .ok (.getfield 37, 3) := by decide +kernel
theorem d_Ck_firstRefused_80 : decode m_Ck_firstRefused.2.1 80 = .ok (.ifCond .eq 17, 3) := by decide +kernel
theorem d_Ck_firstRefused_83 : decode m_Ck_firstRefused.2.1 83 = .ok (.aload_n 0, 1) := by decide +kernel
theorem d_Ck_firstRefused_84 : decode m_Ck_firstRefused.2.1 84 = .ok (.getfield 12, 3) := by decide +kernel
theorem d_Ck_firstRefused_87 : decode m_Ck_firstRefused.2.1 87 = .ok (.aload_n 1, 1) := by decide +kernel
theorem d_Ck_firstRefused_88 : decode m_Ck_firstRefused.2.1 88 = .ok (.aload_n 2, 1) := by decide +kernel
theorem d_Ck_firstRefused_89 : decode m_Ck_firstRefused.2.1 89 = .ok (.iload 4, 2) := by decide +kernel
theorem d_Ck_firstRefused_91 : decode m_Ck_firstRefused.2.1 91 = .ok (.invokevirtual 51, 3) := by decide +kernel
theorem d_Ck_firstRefused_94 : decode m_Ck_firstRefused.2.1 94 = .ok (.ifCond .ne 6, 3) := by decide +kernel
theorem d_Ck_firstRefused_97 : decode m_Ck_firstRefused.2.1 97 = .ok (.iload 4, 2) := by decide +kernel
theorem d_Ck_firstRefused_99 : decode m_Ck_firstRefused.2.1 99 = .ok (.ireturn, 1) := by decide +kernel
theorem d_Ck_firstRefused_100 : decode m_Ck_firstRefused.2.1 100 = .ok (.aload_n 0, 1) := by decide +kernel
theorem d_Ck_firstRefused_101 : decode m_Ck_firstRefused.2.1 101 = .ok (.aload_n 1, 1) := by decide +kernel
theorem d_Ck_firstRefused_102 : decode m_Ck_firstRefused.2.1 102 = .ok (.aload_n 2, 1) := by decide +kernel
theorem d_Ck_firstRefused_103 : decode m_Ck_firstRefused.2.1 103 = .ok (.iload 4, 2) := by decide +kernel
theorem d_Ck_firstRefused_105 : decode m_Ck_firstRefused.2.1 105 = .ok (.invokevirtual 54, 3) := by decide +kernel
theorem d_Ck_firstRefused_108 : decode m_Ck_firstRefused.2.1 108 = .ok (.aload_n 0, 1) := by decide +kernel
theorem d_Ck_firstRefused_109 : decode m_Ck_firstRefused.2.1 109 = .ok (.aload_n 1, 1) := by decide +kernel
theorem d_Ck_firstRefused_110 : decode m_Ck_firstRefused.2.1 110 = .ok (.aload_n 2, 1) := by decide +kernel
theorem d_Ck_firstRefused_111 : decode m_Ck_firstRefused.2.1 111 = .ok (.iload 4, 2) := by decide +kernel
theorem d_Ck_firstRefused_113 : decode m_Ck_firstRefused.2.1 113 = .ok (.invokevirtual 58, 3) := by decide +kernel
theorem d_Ck_firstRefused_116 : decode m_Ck_firstRefused.2.1 116 = .ok (.ifCond .ne 6, 3) := by decide +kernel
theorem d_Ck_firstRefused_119 : decode m_Ck_firstRefused.2.1 119 = .ok (.iload 4, 2) := by decide +kernel
theorem d_Ck_firstRefused_121 : decode m_Ck_firstRefused.2.1 121 = .ok (.ireturn, 1) := by decide +kernel
theorem d_Ck_firstRefused_122 : decode m_Ck_firstRefused.2.1 122 = .ok (.aload_n 0, 1) := by decide +kernel
theorem d_Ck_firstRefused_123 : decode m_Ck_firstRefused.2.1 123 = .ok (.iload_n 3, 1) := by decide +kernel
theorem d_Ck_firstRefused_124 : decode m_Ck_firstRefused.2.1 124 = .ok (.sipush 167, 3) := by decide +kernel
theorem d_Ck_firstRefused_127 : decode m_Ck_firstRefused.2.1 127 = .ok (.if_icmp .eq 14, 3) := by decide +kernel
theorem d_Ck_firstRefused_130 : decode m_Ck_firstRefused.2.1 130 = .ok (.iload_n 3, 1) := by decide +kernel
theorem d_Ck_firstRefused_131 : decode m_Ck_firstRefused.2.1 131 = .ok (.invokestatic 63, 3) := by decide +kernel
theorem d_Ck_firstRefused_134 : decode m_Ck_firstRefused.2.1 134 = .ok (.ifCond .ne 7, 3) := by decide +kernel
theorem d_Ck_firstRefused_137 : decode m_Ck_firstRefused.2.1 137 = .ok (.iconst 1, 1) := by decide +kernel
theorem d_Ck_firstRefused_138 : decode m_Ck_firstRefused.2.1 138 = .ok (.goto 4, 3) := by decide +kernel
theorem d_Ck_firstRefused_141 : decode m_Ck_firstRefused.2.1 141 = .ok (.iconst 0, 1) := by decide +kernel
theorem d_Ck_firstRefused_142 : decode m_Ck_firstRefused.2.1 142 = .ok (.putfield 37, 3) := by decide +kernel
theorem d_Ck_firstRefused_145 : decode m_Ck_firstRefused.2.1 145 = .ok (.iload 4, 2) := by decide +kernel
theorem d_Ck_firstRefused_147 : decode m_Ck_firstRefused.2.1 147 = .ok (.iconst 1, 1) := by decide +kernel
theorem d_Ck_firstRefused_148 : decode m_Ck_firstRefused.2.1 148 = .ok (.iload_n 3, 1) := by decide +kernel
theorem d_Ck_firstRefused_149 : decode m_Ck_firstRefused.2.1 149 = .ok (.invokestatic 67, 3) := by decide +kernel
theorem d_Ck_firstRefused_152 : decode m_Ck_firstRefused.2.1 152 = .ok (.invokestatic 71, 3) := by decide +kernel
theorem d_Ck_firstRefused_155 : decode m_Ck_firstRefused.2.1 155 = .ok (.iadd, 1) := by decide +kernel
theorem d_Ck_firstRefused_156 : decode m_Ck_firstRefused.2.1 156 = .ok (.istore 4, 2) := by decide +kernel
theorem d_Ck_firstRefused_158 : decode m_Ck_firstRefused.2.1 158 = .ok (.goto (-110), 3) := by decide +kernel
theorem d_Ck_firstRefused_161 : decode m_Ck_firstRefused.2.1 161 = .ok (.aload_n 0, 1) := by decide +kernel
theorem d_Ck_firstRefused_162 : decode m_Ck_firstRefused.2.1 162 = .ok (.getfield 37, 3) := by decide +kernel
theorem d_Ck_firstRefused_165 : decode m_Ck_firstRefused.2.1 165 = .ok (.ifCond .eq 10, 3) := by decide +kernel
theorem d_Ck_firstRefused_168 : decode m_Ck_firstRefused.2.1 168 = .ok (.aload_n 2, 1) := by decide +kernel
theorem d_Ck_firstRefused_169 : decode m_Ck_firstRefused.2.1 169 = .ok (.getfield 41, 3) := by decide +kernel
theorem d_Ck_firstRefused_172 : decode m_Ck_firstRefused.2.1 172 = .ok (.goto 4, 3) := by decide +kernel
theorem d_Ck_firstRefused_175 : decode m_Ck_firstRefused.2.1 175 = .ok (.iconst (-1), 1) := by decide +kernel
theorem d_Ck_firstRefused_176 : decode m_Ck_firstRefused.2.1 176 = .ok (.ireturn, 1) := by decide +kernel
theorem d_Ck_entersFrame_0 : decode m_Ck_entersFrame.2.1 0 = .ok (.aload_n 1, 1) := by decide +kernel
theorem d_Ck_entersFrame_1 : decode m_Ck_entersFrame.2.1 1 = .ok (.aload_n 2, 1) := by decide +kernel
theorem d_Ck_entersFrame_2 : decode m_Ck_entersFrame.2.1 2 = .ok (.iload_n 3, 1) := by decide +kernel
theorem d_Ck_entersFrame_3 : decode m_Ck_entersFrame.2.1 3 = .ok (.invokevirtual 77, 3) := by decide +kernel
theorem d_Ck_entersFrame_6 : decode m_Ck_entersFrame.2.1 6 = .ok (.istore 4, 2) := by decide +kernel
theorem d_Ck_entersFrame_8 : decode m_Ck_entersFrame.2.1 8 = .ok (.iload 4, 2) := by decide +kernel
theorem d_Ck_entersFrame_10 : decode m_Ck_entersFrame.2.1 10 = .ok (.iconst (-1), 1) := by decide +kernel
theorem d_Ck_entersFrame_11 : decode m_Ck_entersFrame.2.1 11 = .ok (.if_icmp .ne 5, 3) := by decide +kernel
theorem d_Ck_entersFrame_14 : decode m_Ck_entersFrame.2.1 14 = .ok (.iconst 1, 1) := by decide +kernel
theorem d_Ck_entersFrame_15 : decode m_Ck_entersFrame.2.1 15 = .ok (.ireturn, 1) := by decide +kernel
theorem d_Ck_entersFrame_16 : decode m_Ck_entersFrame.2.1 16 = .ok (.aload_n 0, 1) := by decide +kernel
theorem d_Ck_entersFrame_17 : decode m_Ck_entersFrame.2.1 17 = .ok (.getfield 37, 3) := by decide +kernel
theorem d_Ck_entersFrame_20 : decode m_Ck_entersFrame.2.1 20 = .ok (.ifCond .eq 16, 3) := by decide +kernel
theorem d_Ck_entersFrame_23 : decode m_Ck_entersFrame.2.1 23 = .ok (.aload_n 0, 1) := by decide +kernel
theorem d_Ck_entersFrame_24 : decode m_Ck_entersFrame.2.1 24 = .ok (.aload_n 1, 1) := by decide +kernel
theorem d_Ck_entersFrame_25 : decode m_Ck_entersFrame.2.1 25 = .ok (.aload_n 2, 1) := by decide +kernel
theorem d_Ck_entersFrame_26 : decode m_Ck_entersFrame.2.1 26 = .ok (.iload 4, 2) := by decide +kernel
theorem d_Ck_entersFrame_28 : decode m_Ck_entersFrame.2.1 28 = .ok (.invokevirtual 80, 3) := by decide +kernel
theorem d_Ck_entersFrame_31 : decode m_Ck_entersFrame.2.1 31 = .ok (.ifCond .ne 5, 3) := by decide +kernel
theorem d_Ck_entersFrame_34 : decode m_Ck_entersFrame.2.1 34 = .ok (.iconst 0, 1) := by decide +kernel
theorem d_Ck_entersFrame_35 : decode m_Ck_entersFrame.2.1 35 = .ok (.ireturn, 1) := by decide +kernel
theorem d_Ck_entersFrame_36 : decode m_Ck_entersFrame.2.1 36 = .ok (.iconst 0, 1) := by decide +kernel
theorem d_Ck_entersFrame_37 : decode m_Ck_entersFrame.2.1 37 = .ok (.istore 5, 2) := by decide +kernel
theorem d_Ck_entersFrame_39 : decode m_Ck_entersFrame.2.1 39 = .ok (.iload 5, 2) := by decide +kernel
theorem d_Ck_entersFrame_41 : decode m_Ck_entersFrame.2.1 41 = .ok (.aload_n 2, 1) := by decide +kernel
theorem d_Ck_entersFrame_42 : decode m_Ck_entersFrame.2.1 42 = .ok (.getfield 83, 3) := by decide +kernel
theorem d_Ck_entersFrame_45 : decode m_Ck_entersFrame.2.1 45 = .ok (.if_icmp .ge 28, 3) := by decide +kernel
theorem d_Ck_entersFrame_48 : decode m_Ck_entersFrame.2.1 48 = .ok (.aload_n 0, 1) := by decide +kernel
theorem d_Ck_entersFrame_49 : decode m_Ck_entersFrame.2.1 49 = .ok (.getfield 12, 3) := by decide +kernel
theorem d_Ck_entersFrame_52 : decode m_Ck_entersFrame.2.1 52 = .ok (.iload 5, 2) := by decide +kernel
theorem d_Ck_entersFrame_54 : decode m_Ck_entersFrame.2.1 54 = .ok (.aload_n 1, 1) := by decide +kernel
theorem d_Ck_entersFrame_55 : decode m_Ck_entersFrame.2.1 55 = .ok (.aload_n 2, 1) := by decide +kernel
theorem d_Ck_entersFrame_56 : decode m_Ck_entersFrame.2.1 56 = .ok (.iload 4, 2) := by decide +kernel
theorem d_Ck_entersFrame_58 : decode m_Ck_entersFrame.2.1 58 = .ok (.iload 5, 2) := by decide +kernel
theorem d_Ck_entersFrame_60 : decode m_Ck_entersFrame.2.1 60 = .ok (.invokevirtual 86, 3) := by decide +kernel
theorem d_Ck_entersFrame_63 : decode m_Ck_entersFrame.2.1 63 = .ok (.iconst 0, 1) := by decide +kernel
theorem d_Ck_entersFrame_64 : decode m_Ck_entersFrame.2.1 64 = .ok (.invokevirtual 33, 3) := by decide +kernel
theorem d_Ck_entersFrame_67 : decode m_Ck_entersFrame.2.1 67 = .ok (.iinc 5 1, 3) := by decide +kernel
theorem d_Ck_entersFrame_70 : decode m_Ck_entersFrame.2.1 70 = .ok (.goto (-31), 3) := by decide +kernel
theorem d_Ck_entersFrame_73 : decode m_Ck_entersFrame.2.1 73 = .ok (.aload_n 0, 1) := by decide +kernel
theorem d_Ck_entersFrame_74 : decode m_Ck_entersFrame.2.1 74 = .ok (.getfield 12, 3) := by decide +kernel
theorem d_Ck_entersFrame_77 : decode m_Ck_entersFrame.2.1 77 = .ok (.iconst 0, 1) := by decide +kernel
theorem d_Ck_entersFrame_78 : decode m_Ck_entersFrame.2.1 78 = .ok (.putfield 90, 3) := by decide +kernel
theorem d_Ck_entersFrame_81 : decode m_Ck_entersFrame.2.1 81 = .ok (.iconst 0, 1) := by decide +kernel
theorem d_Ck_entersFrame_82 : decode m_Ck_entersFrame.2.1 82 = .ok (.istore 5, 2) := by decide +kernel
theorem d_Ck_entersFrame_84 : decode m_Ck_entersFrame.2.1 84 = .ok (.iload 5, 2) := by decide +kernel
theorem d_Ck_entersFrame_86 : decode m_Ck_entersFrame.2.1 86 = .ok (.aload_n 1, 1) := by decide +kernel
theorem d_Ck_entersFrame_87 : decode m_Ck_entersFrame.2.1 87 = .ok (.aload_n 2, 1) := by decide +kernel
theorem d_Ck_entersFrame_88 : decode m_Ck_entersFrame.2.1 88 = .ok (.iload 4, 2) := by decide +kernel
theorem d_Ck_entersFrame_90 : decode m_Ck_entersFrame.2.1 90 = .ok (.invokevirtual 93, 3) := by decide +kernel
theorem d_Ck_entersFrame_93 : decode m_Ck_entersFrame.2.1 93 = .ok (.if_icmp .ge 26, 3) := by decide +kernel
theorem d_Ck_entersFrame_96 : decode m_Ck_entersFrame.2.1 96 = .ok (.aload_n 0, 1) := by decide +kernel
theorem d_Ck_entersFrame_97 : decode m_Ck_entersFrame.2.1 97 = .ok (.getfield 12, 3) := by decide +kernel
theorem d_Ck_entersFrame_100 : decode m_Ck_entersFrame.2.1 100 = .ok (.aload_n 1, 1) := by decide +kernel
theorem d_Ck_entersFrame_101 : decode m_Ck_entersFrame.2.1 101 = .ok (.aload_n 2, 1) := by decide +kernel
theorem d_Ck_entersFrame_102 : decode m_Ck_entersFrame.2.1 102 = .ok (.iload 4, 2) := by decide +kernel
theorem d_Ck_entersFrame_104 : decode m_Ck_entersFrame.2.1 104 = .ok (.iload 5, 2) := by decide +kernel
theorem d_Ck_entersFrame_106 : decode m_Ck_entersFrame.2.1 106 = .ok (.invokevirtual 96, 3) := by decide +kernel
theorem d_Ck_entersFrame_109 : decode m_Ck_entersFrame.2.1 109 = .ok (.iconst 0, 1) := by decide +kernel
theorem d_Ck_entersFrame_110 : decode m_Ck_entersFrame.2.1 110 = .ok (.invokevirtual 99, 3) := by decide +kernel
theorem d_Ck_entersFrame_113 : decode m_Ck_entersFrame.2.1 113 = .ok (.iinc 5 1, 3) := by decide +kernel
theorem d_Ck_entersFrame_116 : decode m_Ck_entersFrame.2.1 116 = .ok (.goto (-32), 3) := by decide +kernel
theorem d_Ck_entersFrame_119 : decode m_Ck_entersFrame.2.1 119 = .ok (.aload_n 0, 1) := by decide +kernel
theorem d_Ck_entersFrame_120 : decode m_Ck_entersFrame.2.1 120 = .ok (.iconst 1, 1) := by decide +kernel
theorem d_Ck_entersFrame_121 : decode m_Ck_entersFrame.2.1 121 = .ok (.putfield 37, 3) := by decide +kernel
theorem d_Ck_entersFrame_124 : decode m_Ck_entersFrame.2.1 124 = .ok (.iconst 1, 1) := by decide +kernel
theorem d_Ck_entersFrame_125 : decode m_Ck_entersFrame.2.1 125 = .ok (.ireturn, 1) := by decide +kernel
theorem d_Ck_isGoodForFrame_0 : decode m_Ck_isGoodForFrame.2.1 0 = .ok (.aload_n 0, 1) := by decide +kernel
theorem d_Ck_isGoodForFrame_1 : decode m_Ck_isGoodForFrame.2.1 1 = .ok (.getfield 12, 3) := by decide +kernel
theorem d_Ck_isGoodForFrame_4 : decode m_Ck_isGoodForFrame.2.1 4 = .ok (.getfield 90, 3) := by decide +kernel
theorem d_Ck_isGoodForFrame_7 : decode m_Ck_isGoodForFrame.2.1 7 = .ok (.aload_n 1, 1) := by decide +kernel
theorem d_Ck_isGoodForFrame_8 : decode m_Ck_isGoodForFrame.2.1 8 = .ok (.aload_n 2, 1) := by decide +kernel
theorem d_Ck_isGoodForFrame_9 : decode m_Ck_isGoodForFrame.2.1 9 = .ok (.iload_n 3, 1) := by decide +kernel
theorem d_Ck_isGoodForFrame_10 : decode m_Ck_isGoodForFrame.2.1 10 = .ok (.invokevirtual 93, 3) := by decide +kernel
theorem d_Ck_isGoodForFrame_13 : decode m_Ck_isGoodForFrame.2.1 13 = .ok (.if_icmp .eq 5, 3) := by decide +kernel
theorem d_Ck_isGoodForFrame_16 : decode m_Ck_isGoodForFrame.2.1 16 = .ok (.iconst 0, 1) := by decide +kernel
theorem d_Ck_isGoodForFrame_17 : decode m_Ck_isGoodForFrame.2.1 17 = .ok (.ireturn, 1) := by decide +kernel
theorem d_Ck_isGoodForFrame_18 : decode m_Ck_isGoodForFrame.2.1 18 = .ok (.iconst 0, 1) := by decide +kernel
theorem d_Ck_isGoodForFrame_19 : decode m_Ck_isGoodForFrame.2.1 19 = .ok (.istore 4, 2) := by decide +kernel
theorem d_Ck_isGoodForFrame_21 : decode m_Ck_isGoodForFrame.2.1 21 = .ok (.iload 4, 2) := by decide +kernel
theorem d_Ck_isGoodForFrame_23 : decode m_Ck_isGoodForFrame.2.1 23 = .ok (.aload_n 2, 1) := by decide +kernel
theorem d_Ck_isGoodForFrame_24 : decode m_Ck_isGoodForFrame.2.1 24 = .ok (.getfield 83, 3) := by decide +kernel
theorem d_Ck_isGoodForFrame_27 : decode m_Ck_isGoodForFrame.2.1 27 = .ok (.if_icmp .ge 35, 3) := by decide +kernel
theorem d_Ck_isGoodForFrame_30 : decode m_Ck_isGoodForFrame.2.1 30 = .ok (.aload_n 0, 1) := by decide +kernel
theorem d_Ck_isGoodForFrame_31 : decode m_Ck_isGoodForFrame.2.1 31 = .ok (.getfield 12, 3) := by decide +kernel
theorem d_Ck_isGoodForFrame_34 : decode m_Ck_isGoodForFrame.2.1 34 = .ok (.getfield 103, 3) := by decide +kernel
theorem d_Ck_isGoodForFrame_37 : decode m_Ck_isGoodForFrame.2.1 37 = .ok (.iload 4, 2) := by decide +kernel
theorem d_Ck_isGoodForFrame_39 : decode m_Ck_isGoodForFrame.2.1 39 = .ok (.iaload, 1) := by decide +kernel
theorem d_Ck_isGoodForFrame_40 : decode m_Ck_isGoodForFrame.2.1 40 = .ok (.aload_n 1, 1) := by decide +kernel
theorem d_Ck_isGoodForFrame_41 : decode m_Ck_isGoodForFrame.2.1 41 = .ok (.aload_n 2, 1) := by decide +kernel
theorem d_Ck_isGoodForFrame_42 : decode m_Ck_isGoodForFrame.2.1 42 = .ok (.iload_n 3, 1) := by decide +kernel
theorem d_Ck_isGoodForFrame_43 : decode m_Ck_isGoodForFrame.2.1 43 = .ok (.iload 4, 2) := by decide +kernel
theorem d_Ck_isGoodForFrame_45 : decode m_Ck_isGoodForFrame.2.1 45 = .ok (.invokevirtual 86, 3) := by decide +kernel
theorem d_Ck_isGoodForFrame_48 : decode m_Ck_isGoodForFrame.2.1 48 = .ok (.invokestatic 107, 3) := by decide +kernel
theorem d_Ck_isGoodForFrame_51 : decode m_Ck_isGoodForFrame.2.1 51 = .ok (.ifCond .ne 5, 3) := by decide +kernel
theorem d_Ck_isGoodForFrame_54 : decode m_Ck_isGoodForFrame.2.1 54 = .ok (.iconst 0, 1) := by decide +kernel
theorem d_Ck_isGoodForFrame_55 : decode m_Ck_isGoodForFrame.2.1 55 = .ok (.ireturn, 1) := by decide +kernel
theorem d_Ck_isGoodForFrame_56 : decode m_Ck_isGoodForFrame.2.1 56 = .ok (.iinc 4 1, 3) := by decide +kernel
theorem d_Ck_isGoodForFrame_59 : decode m_Ck_isGoodForFrame.2.1 59 = .ok (.goto (-38), 3) := by decide +kernel
theorem d_Ck_isGoodForFrame_62 : decode m_Ck_isGoodForFrame.2.1 62 = .ok (.iconst 0, 1) := by decide +kernel
theorem d_Ck_isGoodForFrame_63 : decode m_Ck_isGoodForFrame.2.1 63 = .ok (.istore 4, 2) := by decide +kernel
theorem d_Ck_isGoodForFrame_65 : decode m_Ck_isGoodForFrame.2.1 65 = .ok (.iload 4, 2) := by decide +kernel
theorem d_Ck_isGoodForFrame_67 : decode m_Ck_isGoodForFrame.2.1 67 = .ok (.aload_n 0, 1) := by decide +kernel
theorem d_Ck_isGoodForFrame_68 : decode m_Ck_isGoodForFrame.2.1 68 = .ok (.getfield 12, 3) := by decide +kernel
theorem d_Ck_isGoodForFrame_71 : decode m_Ck_isGoodForFrame.2.1 71 = .ok (.getfield 90, 3) := by decide +kernel
theorem d_Ck_isGoodForFrame_74 : decode m_Ck_isGoodForFrame.2.1 74 = .ok (.if_icmp .ge 35, 3) := by decide +kernel
theorem d_Ck_isGoodForFrame_77 : decode m_Ck_isGoodForFrame.2.1 77 = .ok (.aload_n 0, 1) := by decide +kernel
theorem d_Ck_isGoodForFrame_78 : decode m_Ck_isGoodForFrame.2.1 78 = .ok (.getfield 12, 3) := by decide +kernel
theorem d_Ck_isGoodForFrame_81 : decode m_Ck_isGoodForFrame.2.1 81 = .ok (.getfield 111, 3) := by decide +kernel
theorem d_Ck_isGoodForFrame_84 : decode m_Ck_isGoodForFrame.2.1 84 = .ok (.iload 4, 2) := by decide +kernel
theorem d_Ck_isGoodForFrame_86 : decode m_Ck_isGoodForFrame.2.1 86 = .ok (.iaload, 1) := by decide +kernel
theorem d_Ck_isGoodForFrame_87 : decode m_Ck_isGoodForFrame.2.1 87 = .ok (.aload_n 1, 1) := by decide +kernel
theorem d_Ck_isGoodForFrame_88 : decode m_Ck_isGoodForFrame.2.1 88 = .ok (.aload_n 2, 1) := by decide +kernel
theorem d_Ck_isGoodForFrame_89 : decode m_Ck_isGoodForFrame.2.1 89 = .ok (.iload_n 3, 1) := by decide +kernel
theorem d_Ck_isGoodForFrame_90 : decode m_Ck_isGoodForFrame.2.1 90 = .ok (.iload 4, 2) := by decide +kernel
theorem d_Ck_isGoodForFrame_92 : decode m_Ck_isGoodForFrame.2.1 92 = .ok (.invokevirtual 96, 3) := by decide +kernel
theorem d_Ck_isGoodForFrame_95 : decode m_Ck_isGoodForFrame.2.1 95 = .ok (.invokestatic 107, 3) := by decide +kernel
theorem d_Ck_isGoodForFrame_98 : decode m_Ck_isGoodForFrame.2.1 98 = .ok (.ifCond .ne 5, 3) := by decide +kernel
theorem d_Ck_isGoodForFrame_101 : decode m_Ck_isGoodForFrame.2.1 101 = .ok (.iconst 0, 1) := by decide +kernel
theorem d_Ck_isGoodForFrame_102 : decode m_Ck_isGoodForFrame.2.1 102 = .ok (.ireturn, 1) := by decide +kernel
theorem d_Ck_isGoodForFrame_103 : decode m_Ck_isGoodForFrame.2.1 103 = .ok (.iinc 4 1, 3) := by decide +kernel
theorem d_Ck_isGoodForFrame_106 : decode m_Ck_isGoodForFrame.2.1 106 = .ok (.goto (-41), 3) := by decide +kernel
theorem d_Ck_isGoodForFrame_109 : decode m_Ck_isGoodForFrame.2.1 109 = .ok (.iconst 1, 1) := by decide +kernel
theorem d_Ck_isGoodForFrame_110 : decode m_Ck_isGoodForFrame.2.1 110 = .ok (.ireturn, 1) := by decide +kernel
theorem d_Ck_mayGoToTarget_0 : decode m_Ck_mayGoToTarget.2.1 0 = .ok (.aload_n 1, 1) := by decide +kernel
theorem d_Ck_mayGoToTarget_1 : decode m_Ck_mayGoToTarget.2.1 1 = .ok (.aload_n 2, 1) := by decide +kernel
theorem d_Ck_mayGoToTarget_2 : decode m_Ck_mayGoToTarget.2.1 2 = .ok (.iload_n 3, 1) := by decide +kernel
theorem d_Ck_mayGoToTarget_3 : decode m_Ck_mayGoToTarget.2.1 3 = .ok (.invokevirtual 44, 3) := by decide +kernel
theorem d_Ck_mayGoToTarget_6 : decode m_Ck_mayGoToTarget.2.1 6 = .ok (.invokestatic 114, 3) := by decide +kernel
theorem d_Ck_mayGoToTarget_9 : decode m_Ck_mayGoToTarget.2.1 9 = .ok (.ifCond .ne 5, 3) := by decide +kernel
theorem d_Ck_mayGoToTarget_12 : decode m_Ck_mayGoToTarget.2.1 12 = .ok (.iconst 1, 1) := by decide +kernel
theorem d_Ck_mayGoToTarget_13 : decode m_Ck_mayGoToTarget.2.1 13 = .ok (.ireturn, 1) := by decide +kernel
theorem d_Ck_mayGoToTarget_14 : decode m_Ck_mayGoToTarget.2.1 14 = .ok (.aload_n 1, 1) := by decide +kernel
theorem d_Ck_mayGoToTarget_15 : decode m_Ck_mayGoToTarget.2.1 15 = .ok (.aload_n 2, 1) := by decide +kernel
theorem d_Ck_mayGoToTarget_16 : decode m_Ck_mayGoToTarget.2.1 16 = .ok (.aload_n 1, 1) := by decide +kernel
theorem d_Ck_mayGoToTarget_17 : decode m_Ck_mayGoToTarget.2.1 17 = .ok (.aload_n 2, 1) := by decide +kernel
theorem d_Ck_mayGoToTarget_18 : decode m_Ck_mayGoToTarget.2.1 18 = .ok (.iload_n 3, 1) := by decide +kernel
theorem d_Ck_mayGoToTarget_19 : decode m_Ck_mayGoToTarget.2.1 19 = .ok (.invokevirtual 117, 3) := by decide +kernel
theorem d_Ck_mayGoToTarget_22 : decode m_Ck_mayGoToTarget.2.1 22 = .ok (.invokevirtual 77, 3) := by decide +kernel
theorem d_Ck_mayGoToTarget_25 : decode m_Ck_mayGoToTarget.2.1 25 = .ok (.istore 4, 2) := by decide +kernel
theorem d_Ck_mayGoToTarget_27 : decode m_Ck_mayGoToTarget.2.1 27 = .ok (.iload 4, 2) := by decide +kernel
theorem d_Ck_mayGoToTarget_29 : decode m_Ck_mayGoToTarget.2.1 29 = .ok (.iconst (-1), 1) := by decide +kernel
theorem d_Ck_mayGoToTarget_30 : decode m_Ck_mayGoToTarget.2.1 30 = .ok (.if_icmp .eq 18, 3) := by decide +kernel
theorem d_Ck_mayGoToTarget_33 : decode m_Ck_mayGoToTarget.2.1 33 = .ok (.aload_n 0, 1) := by decide +kernel
theorem d_Ck_mayGoToTarget_34 : decode m_Ck_mayGoToTarget.2.1 34 = .ok (.aload_n 1, 1) := by decide +kernel
theorem d_Ck_mayGoToTarget_35 : decode m_Ck_mayGoToTarget.2.1 35 = .ok (.aload_n 2, 1) := by decide +kernel
theorem d_Ck_mayGoToTarget_36 : decode m_Ck_mayGoToTarget.2.1 36 = .ok (.iload 4, 2) := by decide +kernel
theorem d_Ck_mayGoToTarget_38 : decode m_Ck_mayGoToTarget.2.1 38 = .ok (.invokevirtual 80, 3) := by decide +kernel
theorem d_Ck_mayGoToTarget_41 : decode m_Ck_mayGoToTarget.2.1 41 = .ok (.ifCond .eq 7, 3) := by decide +kernel
theorem d_Ck_mayGoToTarget_44 : decode m_Ck_mayGoToTarget.2.1 44 = .ok (.iconst 1, 1) := by decide +kernel
theorem d_Ck_mayGoToTarget_45 : decode m_Ck_mayGoToTarget.2.1 45 = .ok (.goto 4, 3) := by decide +kernel
theorem d_Ck_mayGoToTarget_48 : decode m_Ck_mayGoToTarget.2.1 48 = .ok (.iconst 0, 1) := by decide +kernel
theorem d_Ck_mayGoToTarget_49 : decode m_Ck_mayGoToTarget.2.1 49 = .ok (.ireturn, 1) := by decide +kernel
theorem d_Ck_change_0 : decode m_Ck_change.2.1 0 = .ok (.aload_n 1, 1) := by decide +kernel
theorem d_Ck_change_1 : decode m_Ck_change.2.1 1 = .ok (.aload_n 2, 1) := by decide +kernel
theorem d_Ck_change_2 : decode m_Ck_change.2.1 2 = .ok (.iload_n 3, 1) := by decide +kernel
theorem d_Ck_change_3 : decode m_Ck_change.2.1 3 = .ok (.invokevirtual 44, 3) := by decide +kernel
theorem d_Ck_change_6 : decode m_Ck_change.2.1 6 = .ok (.istore 4, 2) := by decide +kernel
theorem d_Ck_change_8 : decode m_Ck_change.2.1 8 = .ok (.iload 4, 2) := by decide +kernel
theorem d_Ck_change_10 : decode m_Ck_change.2.1 10 = .ok (.lookupswitch 102 #[(25, 50), (54, 66), (58, 66), (89, 82), (95, 92)], 50) := by decide +kernel
theorem d_Ck_change_60 : decode m_Ck_change.2.1 60 = .ok (.aload_n 0, 1) := by decide +kernel
theorem d_Ck_change_61 : decode m_Ck_change.2.1 61 = .ok (.getfield 12, 3) := by decide +kernel
theorem d_Ck_change_64 : decode m_Ck_change.2.1 64 = .ok (.aload_n 1, 1) := by decide +kernel
theorem d_Ck_change_65 : decode m_Ck_change.2.1 65 = .ok (.aload_n 2, 1) := by decide +kernel
theorem d_Ck_change_66 : decode m_Ck_change.2.1 66 = .ok (.iload_n 3, 1) := by decide +kernel
theorem d_Ck_change_67 : decode m_Ck_change.2.1 67 = .ok (.invokevirtual 120, 3) := by decide +kernel
theorem d_Ck_change_70 : decode m_Ck_change.2.1 70 = .ok (.invokevirtual 123, 3) := by decide +kernel
theorem d_Ck_change_73 : decode m_Ck_change.2.1 73 = .ok (.goto 82, 3) := by decide +kernel
theorem d_Ck_change_76 : decode m_Ck_change.2.1 76 = .ok (.aload_n 0, 1) := by decide +kernel
theorem d_Ck_change_77 : decode m_Ck_change.2.1 77 = .ok (.getfield 12, 3) := by decide +kernel
theorem d_Ck_change_80 : decode m_Ck_change.2.1 80 = .ok (.aload_n 1, 1) := by decide +kernel
theorem d_Ck_change_81 : decode m_Ck_change.2.1 81 = .ok (.aload_n 2, 1) := by decide +kernel
theorem d_Ck_change_82 : decode m_Ck_change.2.1 82 = .ok (.iload_n 3, 1) := by decide +kernel
theorem d_Ck_change_83 : decode m_Ck_change.2.1 83 = .ok (.invokevirtual 120, 3) := by decide +kernel
theorem d_Ck_change_86 : decode m_Ck_change.2.1 86 = .ok (.invokevirtual 127, 3) := by decide +kernel
theorem d_Ck_change_89 : decode m_Ck_change.2.1 89 = .ok (.goto 66, 3) := by decide +kernel
theorem d_Ck_change_92 : decode m_Ck_change.2.1 92 = .ok (.aload_n 0, 1) := by decide +kernel
theorem d_Ck_change_93 : decode m_Ck_change.2.1 93 = .ok (.getfield 12, 3) := by decide +kernel
theorem d_Ck_change_96 : decode m_Ck_change.2.1 96 = .ok (.invokevirtual 130, 3) := by decide +kernel
theorem d_Ck_change_99 : decode m_Ck_change.2.1 99 = .ok (.goto 56, 3) := by decide +kernel
theorem d_Ck_change_102 : decode m_Ck_change.2.1 102 = .ok (.aload_n 0, 1) := by decide +kernel
theorem d_Ck_change_103 : decode m_Ck_change.2.1 103 = .ok (.getfield 12, 3) := by decide +kernel
theorem d_Ck_change_106 : decode m_Ck_change.2.1 106 = .ok (.invokevirtual 133, 3) := by decide +kernel
theorem d_Ck_change_109 : decode m_Ck_change.2.1 109 = .ok (.goto 46, 3) := by decide +kernel
theorem d_Ck_change_112 : decode m_Ck_change.2.1 112 = .ok (.aload_n 0, 1) := by decide +kernel
theorem d_Ck_change_113 : decode m_Ck_change.2.1 113 = .ok (.getfield 12, 3) := by decide +kernel
theorem d_Ck_change_116 : decode m_Ck_change.2.1 116 = .ok (.dup, 1) := by decide +kernel
theorem d_Ck_change_117 : decode m_Ck_change.2.1 117 = .ok (.getfield 90, 3) := by decide +kernel
theorem d_Ck_change_120 : decode m_Ck_change.2.1 120 = .ok (.aload_n 1, 1) := by decide +kernel
theorem d_Ck_change_121 : decode m_Ck_change.2.1 121 = .ok (.aload_n 2, 1) := by decide +kernel
theorem d_Ck_change_122 : decode m_Ck_change.2.1 122 = .ok (.iload_n 3, 1) := by decide +kernel
theorem d_Ck_change_123 : decode m_Ck_change.2.1 123 = .ok (.invokevirtual 136, 3) := by decide +kernel
theorem d_Ck_change_126 : decode m_Ck_change.2.1 126 = .ok (.isub, 1) := by decide +kernel
theorem d_Ck_change_127 : decode m_Ck_change.2.1 127 = .ok (.putfield 90, 3) := by decide +kernel
theorem d_Ck_change_130 : decode m_Ck_change.2.1 130 = .ok (.aload_n 1, 1) := by decide +kernel
theorem d_Ck_change_131 : decode m_Ck_change.2.1 131 = .ok (.aload_n 2, 1) := by decide +kernel
theorem d_Ck_change_132 : decode m_Ck_change.2.1 132 = .ok (.iload_n 3, 1) := by decide +kernel
theorem d_Ck_change_133 : decode m_Ck_change.2.1 133 = .ok (.invokevirtual 139, 3) := by decide +kernel
theorem d_Ck_change_136 : decode m_Ck_change.2.1 136 = .ok (.iconst 1, 1) := by decide +kernel
theorem d_Ck_change_137 : decode m_Ck_change.2.1 137 = .ok (.if_icmp .ne 18, 3) := by decide +kernel
theorem d_Ck_change_140 : decode m_Ck_change.2.1 140 = .ok (.aload_n 0, 1) := by decide +kernel
theorem d_Ck_change_141 : decode m_Ck_change.2.1 141 = .ok (.getfield 12, 3) := by decide +kernel
theorem d_Ck_change_144 : decode m_Ck_change.2.1 144 = .ok (.aload_n 0, 1) := by decide +kernel
theorem d_Ck_change_145 : decode m_Ck_change.2.1 145 = .ok (.aload_n 1, 1) := by decide +kernel
theorem d_Ck_change_146 : decode m_Ck_change.2.1 146 = .ok (.aload_n 2, 1) := by decide +kernel
theorem d_Ck_change_147 : decode m_Ck_change.2.1 147 = .ok (.iload_n 3, 1) := by decide +kernel
theorem d_Ck_change_148 : decode m_Ck_change.2.1 148 = .ok (.invokevirtual 142, 3) := by decide +kernel
theorem d_Ck_change_151 : decode m_Ck_change.2.1 151 = .ok (.iconst 0, 1) := by decide +kernel
theorem d_Ck_change_152 : decode m_Ck_change.2.1 152 = .ok (.invokevirtual 99, 3) := by decide +kernel
theorem d_Ck_change_155 : decode m_Ck_change.2.1 155 = .ok (.return_, 1) := by decide +kernel
theorem d_Ck_typePut_0 : decode m_Ck_typePut.2.1 0 = .ok (.aload_n 1, 1) := by decide +kernel
theorem d_Ck_typePut_1 : decode m_Ck_typePut.2.1 1 = .ok (.aload_n 2, 1) := by decide +kernel
theorem d_Ck_typePut_2 : decode m_Ck_typePut.2.1 2 = .ok (.iload_n 3, 1) := by decide +kernel
theorem d_Ck_typePut_3 : decode m_Ck_typePut.2.1 3 = .ok (.invokevirtual 44, 3) := by decide +kernel
theorem d_Ck_typePut_6 : decode m_Ck_typePut.2.1 6 = .ok (.lookupswitch 48 #[(1, 34), (184, 38), (188, 36)], 34) := by decide +kernel
theorem d_Ck_typePut_40 : decode m_Ck_typePut.2.1 40 = .ok (.iconst 3, 1) := by decide +kernel
theorem d_Ck_typePut_41 : decode m_Ck_typePut.2.1 41 = .ok (.ireturn, 1) := by decide +kernel
theorem d_Ck_typePut_42 : decode m_Ck_typePut.2.1 42 = .ok (.iconst 2, 1) := by decide +kernel
theorem d_Ck_typePut_43 : decode m_Ck_typePut.2.1 43 = .ok (.ireturn, 1) := by decide +kernel
theorem d_Ck_typePut_44 : decode m_Ck_typePut.2.1 44 = .ok (.aload_n 1, 1) := by decide +kernel
theorem d_Ck_typePut_45 : decode m_Ck_typePut.2.1 45 = .ok (.aload_n 2, 1) := by decide +kernel
theorem d_Ck_typePut_46 : decode m_Ck_typePut.2.1 46 = .ok (.iload_n 3, 1) := by decide +kernel
theorem d_Ck_typePut_47 : decode m_Ck_typePut.2.1 47 = .ok (.invokevirtual 146, 3) := by decide +kernel
theorem d_Ck_typePut_50 : decode m_Ck_typePut.2.1 50 = .ok (.getfield 150, 3) := by decide +kernel
theorem d_Ck_typePut_53 : decode m_Ck_typePut.2.1 53 = .ok (.ireturn, 1) := by decide +kernel
theorem d_Ck_typePut_54 : decode m_Ck_typePut.2.1 54 = .ok (.iconst 1, 1) := by decide +kernel
theorem d_Ck_typePut_55 : decode m_Ck_typePut.2.1 55 = .ok (.ireturn, 1) := by decide +kernel
theorem d_In_hasTarget_0 : decode m_In_hasTarget.2.1 0 = .ok (.iload_n 0, 1) := by decide +kernel
theorem d_In_hasTarget_1 : decode m_In_hasTarget.2.1 1 = .ok (.sipush 153, 3) := by decide +kernel
theorem d_In_hasTarget_4 : decode m_In_hasTarget.2.1 4 = .ok (.if_icmp .lt 10, 3) := by decide +kernel
theorem d_In_hasTarget_7 : decode m_In_hasTarget.2.1 7 = .ok (.iload_n 0, 1) := by decide +kernel
theorem d_In_hasTarget_8 : decode m_In_hasTarget.2.1 8 = .ok (.sipush 164, 3) := by decide +kernel
theorem d_In_hasTarget_11 : decode m_In_hasTarget.2.1 11 = .ok (.if_icmp .le 24, 3) := by decide +kernel
theorem d_In_hasTarget_14 : decode m_In_hasTarget.2.1 14 = .ok (.iload_n 0, 1) := by decide +kernel
theorem d_In_hasTarget_15 : decode m_In_hasTarget.2.1 15 = .ok (.sipush 198, 3) := by decide +kernel
theorem d_In_hasTarget_18 : decode m_In_hasTarget.2.1 18 = .ok (.if_icmp .eq 17, 3) := by decide +kernel
theorem d_In_hasTarget_21 : decode m_In_hasTarget.2.1 21 = .ok (.iload_n 0, 1) := by decide +kernel
theorem d_In_hasTarget_22 : decode m_In_hasTarget.2.1 22 = .ok (.sipush 199, 3) := by decide +kernel
theorem d_In_hasTarget_25 : decode m_In_hasTarget.2.1 25 = .ok (.if_icmp .eq 10, 3) := by decide +kernel
theorem d_In_hasTarget_28 : decode m_In_hasTarget.2.1 28 = .ok (.iload_n 0, 1) := by decide +kernel
theorem d_In_hasTarget_29 : decode m_In_hasTarget.2.1 29 = .ok (.sipush 167, 3) := by decide +kernel
theorem d_In_hasTarget_32 : decode m_In_hasTarget.2.1 32 = .ok (.if_icmp .ne 7, 3) := by decide +kernel
theorem d_In_hasTarget_35 : decode m_In_hasTarget.2.1 35 = .ok (.iconst 1, 1) := by decide +kernel
theorem d_In_hasTarget_36 : decode m_In_hasTarget.2.1 36 = .ok (.goto 4, 3) := by decide +kernel
theorem d_In_hasTarget_39 : decode m_In_hasTarget.2.1 39 = .ok (.iconst 0, 1) := by decide +kernel
theorem d_In_hasTarget_40 : decode m_In_hasTarget.2.1 40 = .ok (.ireturn, 1) := by decide +kernel
theorem d_In_hasPlace_0 : decode m_In_hasPlace.2.1 0 = .ok (.iload_n 0, 1) := by decide +kernel
theorem d_In_hasPlace_1 : decode m_In_hasPlace.2.1 1 = .ok (.bipush 21, 2) := by decide +kernel
theorem d_In_hasPlace_3 : decode m_In_hasPlace.2.1 3 = .ok (.if_icmp .eq 28, 3) := by decide +kernel
theorem d_In_hasPlace_6 : decode m_In_hasPlace.2.1 6 = .ok (.iload_n 0, 1) := by decide +kernel
theorem d_In_hasPlace_7 : decode m_In_hasPlace.2.1 7 = .ok (.bipush 25, 2) := by decide +kernel
theorem d_In_hasPlace_9 : decode m_In_hasPlace.2.1 9 = .ok (.if_icmp .eq 22, 3) := by decide +kernel
theorem d_In_hasPlace_12 : decode m_In_hasPlace.2.1 12 = .ok (.iload_n 0, 1) := by decide +kernel
theorem d_In_hasPlace_13 : decode m_In_hasPlace.2.1 13 = .ok (.bipush 54, 2) := by decide +kernel
theorem d_In_hasPlace_15 : decode m_In_hasPlace.2.1 15 = .ok (.if_icmp .eq 16, 3) := by decide +kernel
theorem d_In_hasPlace_18 : decode m_In_hasPlace.2.1 18 = .ok (.iload_n 0, 1) := by decide +kernel
theorem d_In_hasPlace_19 : decode m_In_hasPlace.2.1 19 = .ok (.bipush 58, 2) := by decide +kernel
theorem d_In_hasPlace_21 : decode m_In_hasPlace.2.1 21 = .ok (.if_icmp .eq 10, 3) := by decide +kernel
theorem d_In_hasPlace_24 : decode m_In_hasPlace.2.1 24 = .ok (.iload_n 0, 1) := by decide +kernel
theorem d_In_hasPlace_25 : decode m_In_hasPlace.2.1 25 = .ok (.sipush 132, 3) := by decide +kernel
theorem d_In_hasPlace_28 : decode m_In_hasPlace.2.1 28 = .ok (.if_icmp .ne 7, 3) := by decide +kernel
theorem d_In_hasPlace_31 : decode m_In_hasPlace.2.1 31 = .ok (.iconst 1, 1) := by decide +kernel
theorem d_In_hasPlace_32 : decode m_In_hasPlace.2.1 32 = .ok (.goto 4, 3) := by decide +kernel
theorem d_In_hasPlace_35 : decode m_In_hasPlace.2.1 35 = .ok (.iconst 0, 1) := by decide +kernel
theorem d_In_hasPlace_36 : decode m_In_hasPlace.2.1 36 = .ok (.ireturn, 1) := by decide +kernel
theorem d_In_isReturn_0 : decode m_In_isReturn.2.1 0 = .ok (.iload_n 0, 1) := by decide +kernel
theorem d_In_isReturn_1 : decode m_In_isReturn.2.1 1 = .ok (.sipush 172, 3) := by decide +kernel
theorem d_In_isReturn_4 : decode m_In_isReturn.2.1 4 = .ok (.if_icmp .eq 17, 3) := by decide +kernel
theorem d_In_isReturn_7 : decode m_In_isReturn.2.1 7 = .ok (.iload_n 0, 1) := by decide +kernel
theorem d_In_isReturn_8 : decode m_In_isReturn.2.1 8 = .ok (.sipush 176, 3) := by decide +kernel
theorem d_In_isReturn_11 : decode m_In_isReturn.2.1 11 = .ok (.if_icmp .eq 10, 3) := by decide +kernel
theorem d_In_isReturn_14 : decode m_In_isReturn.2.1 14 = .ok (.iload_n 0, 1) := by decide +kernel
theorem d_In_isReturn_15 : decode m_In_isReturn.2.1 15 = .ok (.sipush 177, 3) := by decide +kernel
theorem d_In_isReturn_18 : decode m_In_isReturn.2.1 18 = .ok (.if_icmp .ne 7, 3) := by decide +kernel
theorem d_In_isReturn_21 : decode m_In_isReturn.2.1 21 = .ok (.iconst 1, 1) := by decide +kernel
theorem d_In_isReturn_22 : decode m_In_isReturn.2.1 22 = .ok (.goto 4, 3) := by decide +kernel
theorem d_In_isReturn_25 : decode m_In_isReturn.2.1 25 = .ok (.iconst 0, 1) := by decide +kernel
theorem d_In_isReturn_26 : decode m_In_isReturn.2.1 26 = .ok (.ireturn, 1) := by decide +kernel
theorem d_In_length_0 : decode m_In_length.2.1 0 = .ok (.iload_n 0, 1) := by decide +kernel
theorem d_In_length_1 : decode m_In_length.2.1 1 = .ok (.invokestatic 11, 3) := by decide +kernel
theorem d_In_length_4 : decode m_In_length.2.1 4 = .ok (.ifCond .eq 5, 3) := by decide +kernel
theorem d_In_length_7 : decode m_In_length.2.1 7 = .ok (.iconst 3, 1) := by decide +kernel
theorem d_In_length_8 : decode m_In_length.2.1 8 = .ok (.ireturn, 1) := by decide +kernel
theorem d_In_length_9 : decode m_In_length.2.1 9 = .ok (.iload_n 0, 1) := by decide +kernel
theorem d_In_length_10 : decode m_In_length.2.1 10 = .ok (.lookupswitch 208 #[(1, 206), (16, 204), (18, 204), (21, 204), (25, 204), (46, 206), (54, 204), (58, 204), (79, 206), (87, 206), (89, 206), (95, 206), (96, 206), (100, 206), (104, 206), (108, 206), (116, 206), (132, 202), (172, 206), (176, 206), (177, 206), (184, 204), (188, 206), (190, 206)], 202) := by decide +kernel
theorem d_In_length_212 : decode m_In_length.2.1 212 = .ok (.iconst 3, 1) := by decide +kernel
theorem d_In_length_213 : decode m_In_length.2.1 213 = .ok (.ireturn, 1) := by decide +kernel
theorem d_In_length_214 : decode m_In_length.2.1 214 = .ok (.iconst 2, 1) := by decide +kernel
theorem d_In_length_215 : decode m_In_length.2.1 215 = .ok (.ireturn, 1) := by decide +kernel
theorem d_In_length_216 : decode m_In_length.2.1 216 = .ok (.iconst 1, 1) := by decide +kernel
theorem d_In_length_217 : decode m_In_length.2.1 217 = .ok (.ireturn, 1) := by decide +kernel
theorem d_In_length_218 : decode m_In_length.2.1 218 = .ok (.iconst 0, 1) := by decide +kernel
theorem d_In_length_219 : decode m_In_length.2.1 219 = .ok (.ireturn, 1) := by decide +kernel
theorem d_In_takes_0 : decode m_In_takes.2.1 0 = .ok (.iload_n 0, 1) := by decide +kernel
theorem d_In_takes_1 : decode m_In_takes.2.1 1 = .ok (.sipush 153, 3) := by decide +kernel
theorem d_In_takes_4 : decode m_In_takes.2.1 4 = .ok (.if_icmp .lt 12, 3) := by decide +kernel
theorem d_In_takes_7 : decode m_In_takes.2.1 7 = .ok (.iload_n 0, 1) := by decide +kernel
theorem d_In_takes_8 : decode m_In_takes.2.1 8 = .ok (.sipush 158, 3) := by decide +kernel
theorem d_In_takes_11 : decode m_In_takes.2.1 11 = .ok (.if_icmp .gt 5, 3) := by decide +kernel
theorem d_In_takes_14 : decode m_In_takes.2.1 14 = .ok (.iconst 1, 1) := by decide +kernel
theorem d_In_takes_15 : decode m_In_takes.2.1 15 = .ok (.ireturn, 1) := by decide +kernel
theorem d_In_takes_16 : decode m_In_takes.2.1 16 = .ok (.iload_n 0, 1) := by decide +kernel
theorem d_In_takes_17 : decode m_In_takes.2.1 17 = .ok (.sipush 159, 3) := by decide +kernel
theorem d_In_takes_20 : decode m_In_takes.2.1 20 = .ok (.if_icmp .lt 12, 3) := by decide +kernel
theorem d_In_takes_23 : decode m_In_takes.2.1 23 = .ok (.iload_n 0, 1) := by decide +kernel
theorem d_In_takes_24 : decode m_In_takes.2.1 24 = .ok (.sipush 164, 3) := by decide +kernel
theorem d_In_takes_27 : decode m_In_takes.2.1 27 = .ok (.if_icmp .gt 5, 3) := by decide +kernel
theorem d_In_takes_30 : decode m_In_takes.2.1 30 = .ok (.iconst 2, 1) := by decide +kernel
theorem d_In_takes_31 : decode m_In_takes.2.1 31 = .ok (.ireturn, 1) := by decide +kernel
theorem d_In_takes_32 : decode m_In_takes.2.1 32 = .ok (.iload_n 0, 1) := by decide +kernel
theorem d_In_takes_33 : decode m_In_takes.2.1 33 = .ok (.lookupswitch 161 #[(46, 157), (54, 159), (58, 159), (79, 155), (87, 159), (89, 159), (95, 157), (96, 157), (100, 157), (104, 157), (108, 157), (116, 159), (172, 159), (176, 159), (188, 159), (190, 159), (198, 159), (199, 159)], 155) := by decide +kernel
theorem d_In_takes_188 : decode m_In_takes.2.1 188 = .ok (.iconst 3, 1) := by decide +kernel
theorem d_In_takes_189 : decode m_In_takes.2.1 189 = .ok (.ireturn, 1) := by decide +kernel
theorem d_In_takes_190 : decode m_In_takes.2.1 190 = .ok (.iconst 2, 1) := by decide +kernel
theorem d_In_takes_191 : decode m_In_takes.2.1 191 = .ok (.ireturn, 1) := by decide +kernel
theorem d_In_takes_192 : decode m_In_takes.2.1 192 = .ok (.iconst 1, 1) := by decide +kernel
theorem d_In_takes_193 : decode m_In_takes.2.1 193 = .ok (.ireturn, 1) := by decide +kernel
theorem d_In_takes_194 : decode m_In_takes.2.1 194 = .ok (.iconst 0, 1) := by decide +kernel
theorem d_In_takes_195 : decode m_In_takes.2.1 195 = .ok (.ireturn, 1) := by decide +kernel
theorem d_In_typeTaken_0 : decode m_In_typeTaken.2.1 0 = .ok (.iload_n 0, 1) := by decide +kernel
theorem d_In_typeTaken_1 : decode m_In_typeTaken.2.1 1 = .ok (.lookupswitch 105 #[(46, 95), (58, 93), (79, 95), (87, 91), (89, 91), (95, 91), (176, 93), (190, 93), (198, 93), (199, 93)], 91) := by decide +kernel
theorem d_In_typeTaken_92 : decode m_In_typeTaken.2.1 92 = .ok (.iconst 0, 1) := by decide +kernel
theorem d_In_typeTaken_93 : decode m_In_typeTaken.2.1 93 = .ok (.ireturn, 1) := by decide +kernel
theorem d_In_typeTaken_94 : decode m_In_typeTaken.2.1 94 = .ok (.iconst 2, 1) := by decide +kernel
theorem d_In_typeTaken_95 : decode m_In_typeTaken.2.1 95 = .ok (.ireturn, 1) := by decide +kernel
theorem d_In_typeTaken_96 : decode m_In_typeTaken.2.1 96 = .ok (.iload_n 1, 1) := by decide +kernel
theorem d_In_typeTaken_97 : decode m_In_typeTaken.2.1 97 = .ok (.ifCond .ne 7, 3) := by decide +kernel
theorem d_In_typeTaken_100 : decode m_In_typeTaken.2.1 100 = .ok (.iconst 2, 1) := by decide +kernel
theorem d_In_typeTaken_101 : decode m_In_typeTaken.2.1 101 = .ok (.goto 4, 3) := by decide +kernel
theorem d_In_typeTaken_104 : decode m_In_typeTaken.2.1 104 = .ok (.iconst 1, 1) := by decide +kernel
theorem d_In_typeTaken_105 : decode m_In_typeTaken.2.1 105 = .ok (.ireturn, 1) := by decide +kernel
theorem d_In_typeTaken_106 : decode m_In_typeTaken.2.1 106 = .ok (.iconst 1, 1) := by decide +kernel
theorem d_In_typeTaken_107 : decode m_In_typeTaken.2.1 107 = .ok (.ireturn, 1) := by decide +kernel
theorem d_In_puts_0 : decode m_In_puts.2.1 0 = .ok (.iload_n 0, 1) := by decide +kernel
theorem d_In_puts_1 : decode m_In_puts.2.1 1 = .ok (.lookupswitch 135 #[(1, 133), (16, 133), (18, 133), (21, 133), (25, 133), (46, 133), (89, 131), (95, 131), (96, 133), (100, 133), (104, 133), (108, 133), (116, 133), (188, 133), (190, 133)], 131) := by decide +kernel
theorem d_In_puts_132 : decode m_In_puts.2.1 132 = .ok (.iconst 2, 1) := by decide +kernel
theorem d_In_puts_133 : decode m_In_puts.2.1 133 = .ok (.ireturn, 1) := by decide +kernel
theorem d_In_puts_134 : decode m_In_puts.2.1 134 = .ok (.iconst 1, 1) := by decide +kernel
theorem d_In_puts_135 : decode m_In_puts.2.1 135 = .ok (.ireturn, 1) := by decide +kernel
theorem d_In_puts_136 : decode m_In_puts.2.1 136 = .ok (.iconst 0, 1) := by decide +kernel
theorem d_In_puts_137 : decode m_In_puts.2.1 137 = .ok (.ireturn, 1) := by decide +kernel
theorem d_In_typeOfPlace_0 : decode m_In_typeOfPlace.2.1 0 = .ok (.iload_n 0, 1) := by decide +kernel
theorem d_In_typeOfPlace_1 : decode m_In_typeOfPlace.2.1 1 = .ok (.bipush 21, 2) := by decide +kernel
theorem d_In_typeOfPlace_3 : decode m_In_typeOfPlace.2.1 3 = .ok (.if_icmp .eq 10, 3) := by decide +kernel
theorem d_In_typeOfPlace_6 : decode m_In_typeOfPlace.2.1 6 = .ok (.iload_n 0, 1) := by decide +kernel
theorem d_In_typeOfPlace_7 : decode m_In_typeOfPlace.2.1 7 = .ok (.sipush 132, 3) := by decide +kernel
theorem d_In_typeOfPlace_10 : decode m_In_typeOfPlace.2.1 10 = .ok (.if_icmp .ne 5, 3) := by decide +kernel
theorem d_In_typeOfPlace_13 : decode m_In_typeOfPlace.2.1 13 = .ok (.iconst 1, 1) := by decide +kernel
theorem d_In_typeOfPlace_14 : decode m_In_typeOfPlace.2.1 14 = .ok (.ireturn, 1) := by decide +kernel
theorem d_In_typeOfPlace_15 : decode m_In_typeOfPlace.2.1 15 = .ok (.iload_n 0, 1) := by decide +kernel
theorem d_In_typeOfPlace_16 : decode m_In_typeOfPlace.2.1 16 = .ok (.bipush 25, 2) := by decide +kernel
theorem d_In_typeOfPlace_18 : decode m_In_typeOfPlace.2.1 18 = .ok (.if_icmp .ne 7, 3) := by decide +kernel
theorem d_In_typeOfPlace_21 : decode m_In_typeOfPlace.2.1 21 = .ok (.iconst 2, 1) := by decide +kernel
theorem d_In_typeOfPlace_22 : decode m_In_typeOfPlace.2.1 22 = .ok (.goto 4, 3) := by decide +kernel
theorem d_In_typeOfPlace_25 : decode m_In_typeOfPlace.2.1 25 = .ok (.iconst 0, 1) := by decide +kernel
theorem d_In_typeOfPlace_26 : decode m_In_typeOfPlace.2.1 26 = .ok (.ireturn, 1) := by decide +kernel
theorem d_In_typeOfReturn_0 : decode m_In_typeOfReturn.2.1 0 = .ok (.iload_n 0, 1) := by decide +kernel
theorem d_In_typeOfReturn_1 : decode m_In_typeOfReturn.2.1 1 = .ok (.sipush 172, 3) := by decide +kernel
theorem d_In_typeOfReturn_4 : decode m_In_typeOfReturn.2.1 4 = .ok (.if_icmp .ne 5, 3) := by decide +kernel
theorem d_In_typeOfReturn_7 : decode m_In_typeOfReturn.2.1 7 = .ok (.iconst 1, 1) := by decide +kernel
theorem d_In_typeOfReturn_8 : decode m_In_typeOfReturn.2.1 8 = .ok (.ireturn, 1) := by decide +kernel
theorem d_In_typeOfReturn_9 : decode m_In_typeOfReturn.2.1 9 = .ok (.iload_n 0, 1) := by decide +kernel
theorem d_In_typeOfReturn_10 : decode m_In_typeOfReturn.2.1 10 = .ok (.sipush 176, 3) := by decide +kernel
theorem d_In_typeOfReturn_13 : decode m_In_typeOfReturn.2.1 13 = .ok (.if_icmp .ne 7, 3) := by decide +kernel
theorem d_In_typeOfReturn_16 : decode m_In_typeOfReturn.2.1 16 = .ok (.iconst 2, 1) := by decide +kernel
theorem d_In_typeOfReturn_17 : decode m_In_typeOfReturn.2.1 17 = .ok (.goto 4, 3) := by decide +kernel
theorem d_In_typeOfReturn_20 : decode m_In_typeOfReturn.2.1 20 = .ok (.iconst 0, 1) := by decide +kernel
theorem d_In_typeOfReturn_21 : decode m_In_typeOfReturn.2.1 21 = .ok (.ireturn, 1) := by decide +kernel
theorem d_Ma_begin_0 : decode m_Ma_begin.2.1 0 = .ok (.aload_n 0, 1) := by decide +kernel
theorem d_Ma_begin_1 : decode m_Ma_begin.2.1 1 = .ok (.iconst 0, 1) := by decide +kernel
theorem d_Ma_begin_2 : decode m_Ma_begin.2.1 2 = .ok (.putfield 31, 3) := by decide +kernel
theorem d_Ma_begin_5 : decode m_Ma_begin.2.1 5 = .ok (.aload_n 0, 1) := by decide +kernel
theorem d_Ma_begin_6 : decode m_Ma_begin.2.1 6 = .ok (.iconst 0, 1) := by decide +kernel
theorem d_Ma_begin_7 : decode m_Ma_begin.2.1 7 = .ok (.putfield 35, 3) := by decide +kernel
theorem d_Ma_begin_10 : decode m_Ma_begin.2.1 10 = .ok (.aload_n 0, 1) := by decide +kernel
theorem d_Ma_begin_11 : decode m_Ma_begin.2.1 11 = .ok (.iconst 0, 1) := by decide +kernel
theorem d_Ma_begin_12 : decode m_Ma_begin.2.1 12 = .ok (.putfield 38, 3) := by decide +kernel
theorem d_Ma_begin_15 : decode m_Ma_begin.2.1 15 = .ok (.aload_n 0, 1) := by decide +kernel
theorem d_Ma_begin_16 : decode m_Ma_begin.2.1 16 = .ok (.iload_n 2, 1) := by decide +kernel
theorem d_Ma_begin_17 : decode m_Ma_begin.2.1 17 = .ok (.invokevirtual 41, 3) := by decide +kernel
theorem d_Ma_begin_20 : decode m_Ma_begin.2.1 20 = .ok (.aload_n 1, 1) := by decide +kernel
theorem d_Ma_begin_21 : decode m_Ma_begin.2.1 21 = .ok (.getfield 45, 3) := by decide +kernel
theorem d_Ma_begin_24 : decode m_Ma_begin.2.1 24 = .ok (.iload_n 2, 1) := by decide +kernel
theorem d_Ma_begin_25 : decode m_Ma_begin.2.1 25 = .ok (.aaload, 1) := by decide +kernel
theorem d_Ma_begin_26 : decode m_Ma_begin.2.1 26 = .ok (.getfield 51, 3) := by decide +kernel
theorem d_Ma_begin_29 : decode m_Ma_begin.2.1 29 = .ok (.istore 6, 2) := by decide +kernel
theorem d_Ma_begin_31 : decode m_Ma_begin.2.1 31 = .ok (.iload 6, 2) := by decide +kernel
theorem d_Ma_begin_33 : decode m_Ma_begin.2.1 33 = .ok (.ifCond .le 10, 3) := by decide +kernel
theorem d_Ma_begin_36 : decode m_Ma_begin.2.1 36 = .ok (.aload_n 0, 1) := by decide +kernel
theorem d_Ma_begin_37 : decode m_Ma_begin.2.1 37 = .ok (.aload_n 1, 1) := by decide +kernel
theorem d_Ma_begin_38 : decode m_Ma_begin.2.1 38 = .ok (.iconst 0, 1) := by decide +kernel
theorem d_Ma_begin_39 : decode m_Ma_begin.2.1 39 = .ok (.iload_n 3, 1) := by decide +kernel
theorem d_Ma_begin_40 : decode m_Ma_begin.2.1 40 = .ok (.invokevirtual 56, 3) := by decide +kernel
theorem d_Ma_begin_43 : decode m_Ma_begin.2.1 43 = .ok (.iload 6, 2) := by decide +kernel
theorem d_Ma_begin_45 : decode m_Ma_begin.2.1 45 = .ok (.iconst 1, 1) := by decide +kernel
theorem d_Ma_begin_46 : decode m_Ma_begin.2.1 46 = .ok (.if_icmp .le 11, 3) := by decide +kernel
theorem d_Ma_begin_49 : decode m_Ma_begin.2.1 49 = .ok (.aload_n 0, 1) := by decide +kernel
theorem d_Ma_begin_50 : decode m_Ma_begin.2.1 50 = .ok (.aload_n 1, 1) := by decide +kernel
theorem d_Ma_begin_51 : decode m_Ma_begin.2.1 51 = .ok (.iconst 1, 1) := by decide +kernel
theorem d_Ma_begin_52 : decode m_Ma_begin.2.1 52 = .ok (.iload 4, 2) := by decide +kernel
theorem d_Ma_begin_54 : decode m_Ma_begin.2.1 54 = .ok (.invokevirtual 56, 3) := by decide +kernel
theorem d_Ma_begin_57 : decode m_Ma_begin.2.1 57 = .ok (.iload 6, 2) := by decide +kernel
theorem d_Ma_begin_59 : decode m_Ma_begin.2.1 59 = .ok (.iconst 2, 1) := by decide +kernel
theorem d_Ma_begin_60 : decode m_Ma_begin.2.1 60 = .ok (.if_icmp .le 11, 3) := by decide +kernel
theorem d_Ma_begin_63 : decode m_Ma_begin.2.1 63 = .ok (.aload_n 0, 1) := by decide +kernel
theorem d_Ma_begin_64 : decode m_Ma_begin.2.1 64 = .ok (.aload_n 1, 1) := by decide +kernel
theorem d_Ma_begin_65 : decode m_Ma_begin.2.1 65 = .ok (.iconst 2, 1) := by decide +kernel
theorem d_Ma_begin_66 : decode m_Ma_begin.2.1 66 = .ok (.iload 5, 2) := by decide +kernel
theorem d_Ma_begin_68 : decode m_Ma_begin.2.1 68 = .ok (.invokevirtual 56, 3) := by decide +kernel
theorem d_Ma_begin_71 : decode m_Ma_begin.2.1 71 = .ok (.return_, 1) := by decide +kernel
theorem d_Ma_enter_0 : decode m_Ma_enter.2.1 0 = .ok (.aload_n 0, 1) := by decide +kernel
theorem d_Ma_enter_1 : decode m_Ma_enter.2.1 1 = .ok (.getfield 18, 3) := by decide +kernel
theorem d_Ma_enter_4 : decode m_Ma_enter.2.1 4 = .ok (.aload_n 0, 1) := by decide +kernel
theorem d_Ma_enter_5 : decode m_Ma_enter.2.1 5 = .ok (.getfield 38, 3) := by decide +kernel
theorem d_Ma_enter_8 : decode m_Ma_enter.2.1 8 = .ok (.iload_n 1, 1) := by decide +kernel
theorem d_Ma_enter_9 : decode m_Ma_enter.2.1 9 = .ok (.iastore, 1) := by decide +kernel
theorem d_Ma_enter_10 : decode m_Ma_enter.2.1 10 = .ok (.aload_n 0, 1) := by decide +kernel
theorem d_Ma_enter_11 : decode m_Ma_enter.2.1 11 = .ok (.getfield 22, 3) := by decide +kernel
theorem d_Ma_enter_14 : decode m_Ma_enter.2.1 14 = .ok (.aload_n 0, 1) := by decide +kernel
theorem d_Ma_enter_15 : decode m_Ma_enter.2.1 15 = .ok (.getfield 38, 3) := by decide +kernel
theorem d_Ma_enter_18 : decode m_Ma_enter.2.1 18 = .ok (.iconst 0, 1) := by decide +kernel
theorem d_Ma_enter_19 : decode m_Ma_enter.2.1 19 = .ok (.iastore, 1) := by decide +kernel
theorem d_Ma_enter_20 : decode m_Ma_enter.2.1 20 = .ok (.aload_n 0, 1) := by decide +kernel
theorem d_Ma_enter_21 : decode m_Ma_enter.2.1 21 = .ok (.getfield 11, 3) := by decide +kernel
theorem d_Ma_enter_24 : decode m_Ma_enter.2.1 24 = .ok (.aload_n 0, 1) := by decide +kernel
theorem d_Ma_enter_25 : decode m_Ma_enter.2.1 25 = .ok (.getfield 38, 3) := by decide +kernel
theorem d_Ma_enter_28 : decode m_Ma_enter.2.1 28 = .ok (.aaload, 1) := by decide +kernel
theorem d_Ma_enter_29 : decode m_Ma_enter.2.1 29 = .ok (.invokevirtual 60, 3) := by decide +kernel
theorem d_Ma_enter_32 : decode m_Ma_enter.2.1 32 = .ok (.return_, 1) := by decide +kernel
theorem d_Ma_setArgument_0 : decode m_Ma_setArgument.2.1 0 = .ok (.aload_n 1, 1) := by decide +kernel
theorem d_Ma_setArgument_1 : decode m_Ma_setArgument.2.1 1 = .ok (.aload_n 1, 1) := by decide +kernel
theorem d_Ma_setArgument_2 : decode m_Ma_setArgument.2.1 2 = .ok (.getfield 45, 3) := by decide +kernel
theorem d_Ma_setArgument_5 : decode m_Ma_setArgument.2.1 5 = .ok (.aload_n 0, 1) := by decide +kernel
theorem d_Ma_setArgument_6 : decode m_Ma_setArgument.2.1 6 = .ok (.getfield 18, 3) := by decide +kernel
theorem d_Ma_setArgument_9 : decode m_Ma_setArgument.2.1 9 = .ok (.iconst 0, 1) := by decide +kernel
theorem d_Ma_setArgument_10 : decode m_Ma_setArgument.2.1 10 = .ok (.iaload, 1) := by decide +kernel
theorem d_Ma_setArgument_11 : decode m_Ma_setArgument.2.1 11 = .ok (.aaload, 1) := by decide +kernel
theorem d_Ma_setArgument_12 : decode m_Ma_setArgument.2.1 12 = .ok (.iload_n 2, 1) := by decide +kernel
theorem d_Ma_setArgument_13 : decode m_Ma_setArgument.2.1 13 = .ok (.invokevirtual 63, 3) := by decide +kernel
theorem d_Ma_setArgument_16 : decode m_Ma_setArgument.2.1 16 = .ok (.iconst 1, 1) := by decide +kernel
theorem d_Ma_setArgument_17 : decode m_Ma_setArgument.2.1 17 = .ok (.if_icmp .ne 18, 3) := by decide +kernel
theorem d_Ma_setArgument_20 : decode m_Ma_setArgument.2.1 20 = .ok (.aload_n 0, 1) := by decide +kernel
theorem d_Ma_setArgument_21 : decode m_Ma_setArgument.2.1 21 = .ok (.getfield 11, 3) := by decide +kernel
theorem d_Ma_setArgument_24 : decode m_Ma_setArgument.2.1 24 = .ok (.iconst 0, 1) := by decide +kernel
theorem d_Ma_setArgument_25 : decode m_Ma_setArgument.2.1 25 = .ok (.aaload, 1) := by decide +kernel
theorem d_Ma_setArgument_26 : decode m_Ma_setArgument.2.1 26 = .ok (.iload_n 2, 1) := by decide +kernel
theorem d_Ma_setArgument_27 : decode m_Ma_setArgument.2.1 27 = .ok (.iconst 1, 1) := by decide +kernel
theorem d_Ma_setArgument_28 : decode m_Ma_setArgument.2.1 28 = .ok (.iload_n 3, 1) := by decide +kernel
theorem d_Ma_setArgument_29 : decode m_Ma_setArgument.2.1 29 = .ok (.invokevirtual 67, 3) := by decide +kernel
theorem d_Ma_setArgument_32 : decode m_Ma_setArgument.2.1 32 = .ok (.goto 83, 3) := by decide +kernel
theorem d_Ma_setArgument_35 : decode m_Ma_setArgument.2.1 35 = .ok (.iload_n 3, 1) := by decide +kernel
theorem d_Ma_setArgument_36 : decode m_Ma_setArgument.2.1 36 = .ok (.ifCond .ge 18, 3) := by decide +kernel
theorem d_Ma_setArgument_39 : decode m_Ma_setArgument.2.1 39 = .ok (.aload_n 0, 1) := by decide +kernel
theorem d_Ma_setArgument_40 : decode m_Ma_setArgument.2.1 40 = .ok (.getfield 11, 3) := by decide +kernel
theorem d_Ma_setArgument_43 : decode m_Ma_setArgument.2.1 43 = .ok (.iconst 0, 1) := by decide +kernel
theorem d_Ma_setArgument_44 : decode m_Ma_setArgument.2.1 44 = .ok (.aaload, 1) := by decide +kernel
theorem d_Ma_setArgument_45 : decode m_Ma_setArgument.2.1 45 = .ok (.iload_n 2, 1) := by decide +kernel
theorem d_Ma_setArgument_46 : decode m_Ma_setArgument.2.1 46 = .ok (.iconst 3, 1) := by decide +kernel
theorem d_Ma_setArgument_47 : decode m_Ma_setArgument.2.1 47 = .ok (.iconst 0, 1) := by decide +kernel
theorem d_Ma_setArgument_48 : decode m_Ma_setArgument.2.1 48 = .ok (.invokevirtual 67, 3) := by decide +kernel
theorem d_Ma_setArgument_51 : decode m_Ma_setArgument.2.1 51 = .ok (.goto 64, 3) := by decide +kernel
theorem d_Ma_setArgument_54 : decode m_Ma_setArgument.2.1 54 = .ok (.aload_n 0, 1) := by decide +kernel
theorem d_Ma_setArgument_55 : decode m_Ma_setArgument.2.1 55 = .ok (.iload_n 3, 1) := by decide +kernel
theorem d_Ma_setArgument_56 : decode m_Ma_setArgument.2.1 56 = .ok (.bipush 7, 2) := by decide +kernel
theorem d_Ma_setArgument_58 : decode m_Ma_setArgument.2.1 58 = .ok (.iand, 1) := by decide +kernel
theorem d_Ma_setArgument_59 : decode m_Ma_setArgument.2.1 59 = .ok (.invokevirtual 71, 3) := by decide +kernel
theorem d_Ma_setArgument_62 : decode m_Ma_setArgument.2.1 62 = .ok (.istore 4, 2) := by decide +kernel
theorem d_Ma_setArgument_64 : decode m_Ma_setArgument.2.1 64 = .ok (.iconst 0, 1) := by decide +kernel
theorem d_Ma_setArgument_65 : decode m_Ma_setArgument.2.1 65 = .ok (.istore 5, 2) := by decide +kernel
theorem d_Ma_setArgument_67 : decode m_Ma_setArgument.2.1 67 = .ok (.iload 5, 2) := by decide +kernel
theorem d_Ma_setArgument_69 : decode m_Ma_setArgument.2.1 69 = .ok (.aload_n 0, 1) := by decide +kernel
theorem d_Ma_setArgument_70 : decode m_Ma_setArgument.2.1 70 = .ok (.getfield 28, 3) := by decide +kernel
theorem d_Ma_setArgument_73 : decode m_Ma_setArgument.2.1 73 = .ok (.iload 4, 2) := by decide +kernel
theorem d_Ma_setArgument_75 : decode m_Ma_setArgument.2.1 75 = .ok (.iaload, 1) := by decide +kernel
theorem d_Ma_setArgument_76 : decode m_Ma_setArgument.2.1 76 = .ok (.if_icmp .ge 26, 3) := by decide +kernel
theorem d_Ma_setArgument_79 : decode m_Ma_setArgument.2.1 79 = .ok (.aload_n 0, 1) := by decide +kernel
theorem d_Ma_setArgument_80 : decode m_Ma_setArgument.2.1 80 = .ok (.getfield 25, 3) := by decide +kernel
theorem d_Ma_setArgument_83 : decode m_Ma_setArgument.2.1 83 = .ok (.iload 4, 2) := by decide +kernel
theorem d_Ma_setArgument_85 : decode m_Ma_setArgument.2.1 85 = .ok (.bipush 8, 2) := by decide +kernel
theorem d_Ma_setArgument_87 : decode m_Ma_setArgument.2.1 87 = .ok (.imul, 1) := by decide +kernel
theorem d_Ma_setArgument_88 : decode m_Ma_setArgument.2.1 88 = .ok (.iload 5, 2) := by decide +kernel
theorem d_Ma_setArgument_90 : decode m_Ma_setArgument.2.1 90 = .ok (.iadd, 1) := by decide +kernel
theorem d_Ma_setArgument_91 : decode m_Ma_setArgument.2.1 91 = .ok (.iload_n 3, 1) := by decide +kernel
theorem d_Ma_setArgument_92 : decode m_Ma_setArgument.2.1 92 = .ok (.iload 5, 2) := by decide +kernel
theorem d_Ma_setArgument_94 : decode m_Ma_setArgument.2.1 94 = .ok (.iadd, 1) := by decide +kernel
theorem d_Ma_setArgument_95 : decode m_Ma_setArgument.2.1 95 = .ok (.iastore, 1) := by decide +kernel
theorem d_Ma_setArgument_96 : decode m_Ma_setArgument.2.1 96 = .ok (.iinc 5 1, 3) := by decide +kernel
theorem d_Ma_setArgument_99 : decode m_Ma_setArgument.2.1 99 = .ok (.goto (-32), 3) := by decide +kernel
theorem d_Ma_setArgument_102 : decode m_Ma_setArgument.2.1 102 = .ok (.aload_n 0, 1) := by decide +kernel
theorem d_Ma_setArgument_103 : decode m_Ma_setArgument.2.1 103 = .ok (.getfield 11, 3) := by decide +kernel
theorem d_Ma_setArgument_106 : decode m_Ma_setArgument.2.1 106 = .ok (.iconst 0, 1) := by decide +kernel
theorem d_Ma_setArgument_107 : decode m_Ma_setArgument.2.1 107 = .ok (.aaload, 1) := by decide +kernel
theorem d_Ma_setArgument_108 : decode m_Ma_setArgument.2.1 108 = .ok (.iload_n 2, 1) := by decide +kernel
theorem d_Ma_setArgument_109 : decode m_Ma_setArgument.2.1 109 = .ok (.iconst 2, 1) := by decide +kernel
theorem d_Ma_setArgument_110 : decode m_Ma_setArgument.2.1 110 = .ok (.iload 4, 2) := by decide +kernel
theorem d_Ma_setArgument_112 : decode m_Ma_setArgument.2.1 112 = .ok (.invokevirtual 67, 3) := by decide +kernel
theorem d_Ma_setArgument_115 : decode m_Ma_setArgument.2.1 115 = .ok (.return_, 1) := by decide +kernel
theorem d_Ma_newRow_0 : decode m_Ma_newRow.2.1 0 = .ok (.aload_n 0, 1) := by decide +kernel
theorem d_Ma_newRow_1 : decode m_Ma_newRow.2.1 1 = .ok (.getfield 35, 3) := by decide +kernel
theorem d_Ma_newRow_4 : decode m_Ma_newRow.2.1 4 = .ok (.istore_n 2, 1) := by decide +kernel
theorem d_Ma_newRow_5 : decode m_Ma_newRow.2.1 5 = .ok (.aload_n 0, 1) := by decide +kernel
theorem d_Ma_newRow_6 : decode m_Ma_newRow.2.1 6 = .ok (.dup, 1) := by decide +kernel
theorem d_Ma_newRow_7 : decode m_Ma_newRow.2.1 7 = .ok (.getfield 35, 3) := by decide +kernel
theorem d_Ma_newRow_10 : decode m_Ma_newRow.2.1 10 = .ok (.iconst 1, 1) := by decide +kernel
theorem d_Ma_newRow_11 : decode m_Ma_newRow.2.1 11 = .ok (.iadd, 1) := by decide +kernel
theorem d_Ma_newRow_12 : decode m_Ma_newRow.2.1 12 = .ok (.putfield 35, 3) := by decide +kernel
theorem d_Ma_newRow_15 : decode m_Ma_newRow.2.1 15 = .ok (.aload_n 0, 1) := by decide +kernel
theorem d_Ma_newRow_16 : decode m_Ma_newRow.2.1 16 = .ok (.getfield 28, 3) := by decide +kernel
theorem d_Ma_newRow_19 : decode m_Ma_newRow.2.1 19 = .ok (.iload_n 2, 1) := by decide +kernel
theorem d_Ma_newRow_20 : decode m_Ma_newRow.2.1 20 = .ok (.iload_n 1, 1) := by decide +kernel
theorem d_Ma_newRow_21 : decode m_Ma_newRow.2.1 21 = .ok (.iastore, 1) := by decide +kernel
theorem d_Ma_newRow_22 : decode m_Ma_newRow.2.1 22 = .ok (.iconst 0, 1) := by decide +kernel
theorem d_Ma_newRow_23 : decode m_Ma_newRow.2.1 23 = .ok (.istore_n 3, 1) := by decide +kernel
theorem d_Ma_newRow_24 : decode m_Ma_newRow.2.1 24 = .ok (.iload_n 3, 1) := by decide +kernel
theorem d_Ma_newRow_25 : decode m_Ma_newRow.2.1 25 = .ok (.iload_n 1, 1) := by decide +kernel
theorem d_Ma_newRow_26 : decode m_Ma_newRow.2.1 26 = .ok (.if_icmp .ge 21, 3) := by decide +kernel
theorem d_Ma_newRow_29 : decode m_Ma_newRow.2.1 29 = .ok (.aload_n 0, 1) := by decide +kernel
theorem d_Ma_newRow_30 : decode m_Ma_newRow.2.1 30 = .ok (.getfield 25, 3) := by decide +kernel
theorem d_Ma_newRow_33 : decode m_Ma_newRow.2.1 33 = .ok (.iload_n 2, 1) := by decide +kernel
theorem d_Ma_newRow_34 : decode m_Ma_newRow.2.1 34 = .ok (.bipush 8, 2) := by decide +kernel
theorem d_Ma_newRow_36 : decode m_Ma_newRow.2.1 36 = .ok (.imul, 1) := by decide +kernel
theorem d_Ma_newRow_37 : decode m_Ma_newRow.2.1 37 = .ok (.iload_n 3, 1) := by decide +kernel
theorem d_Ma_newRow_38 : decode m_Ma_newRow.2.1 38 = .ok (.iadd, 1) := by decide +kernel
theorem d_Ma_newRow_39 : decode m_Ma_newRow.2.1 39 = .ok (.iconst 0, 1) := by decide +kernel
theorem d_Ma_newRow_40 : decode m_Ma_newRow.2.1 40 = .ok (.iastore, 1) := by decide +kernel
theorem d_Ma_newRow_41 : decode m_Ma_newRow.2.1 41 = .ok (.iinc 3 1, 3) := by decide +kernel
theorem d_Ma_newRow_44 : decode m_Ma_newRow.2.1 44 = .ok (.goto (-20), 3) := by decide +kernel
theorem d_Ma_newRow_47 : decode m_Ma_newRow.2.1 47 = .ok (.iload_n 2, 1) := by decide +kernel
theorem d_Ma_newRow_48 : decode m_Ma_newRow.2.1 48 = .ok (.ireturn, 1) := by decide +kernel
theorem d_Ma_goToEnd_0 : decode m_Ma_goToEnd.2.1 0 = .ok (.iconst (-1), 1) := by decide +kernel
theorem d_Ma_goToEnd_1 : decode m_Ma_goToEnd.2.1 1 = .ok (.istore_n 2, 1) := by decide +kernel
theorem d_Ma_goToEnd_2 : decode m_Ma_goToEnd.2.1 2 = .ok (.iconst 0, 1) := by decide +kernel
theorem d_Ma_goToEnd_3 : decode m_Ma_goToEnd.2.1 3 = .ok (.istore_n 3, 1) := by decide +kernel
theorem d_Ma_goToEnd_4 : decode m_Ma_goToEnd.2.1 4 = .ok (.iload_n 3, 1) := by decide +kernel
theorem d_Ma_goToEnd_5 : decode m_Ma_goToEnd.2.1 5 = .ok (.sipush 200, 3) := by decide +kernel
theorem d_Ma_goToEnd_8 : decode m_Ma_goToEnd.2.1 8 = .ok (.if_icmp .ge 39, 3) := by decide +kernel
theorem d_Ma_goToEnd_11 : decode m_Ma_goToEnd.2.1 11 = .ok (.iload_n 2, 1) := by decide +kernel
theorem d_Ma_goToEnd_12 : decode m_Ma_goToEnd.2.1 12 = .ok (.iconst (-1), 1) := by decide +kernel
theorem d_Ma_goToEnd_13 : decode m_Ma_goToEnd.2.1 13 = .ok (.if_icmp .ne 34, 3) := by decide +kernel
theorem d_Ma_goToEnd_16 : decode m_Ma_goToEnd.2.1 16 = .ok (.aload_n 0, 1) := by decide +kernel
theorem d_Ma_goToEnd_17 : decode m_Ma_goToEnd.2.1 17 = .ok (.aload_n 1, 1) := by decide +kernel
theorem d_Ma_goToEnd_18 : decode m_Ma_goToEnd.2.1 18 = .ok (.invokevirtual 75, 3) := by decide +kernel
theorem d_Ma_goToEnd_21 : decode m_Ma_goToEnd.2.1 21 = .ok (.istore_n 2, 1) := by decide +kernel
theorem d_Ma_goToEnd_22 : decode m_Ma_goToEnd.2.1 22 = .ok (.iload_n 2, 1) := by decide +kernel
theorem d_Ma_goToEnd_23 : decode m_Ma_goToEnd.2.1 23 = .ok (.iconst (-1), 1) := by decide +kernel
theorem d_Ma_goToEnd_24 : decode m_Ma_goToEnd.2.1 24 = .ok (.if_icmp .eq 7, 3) := by decide +kernel
theorem d_Ma_goToEnd_27 : decode m_Ma_goToEnd.2.1 27 = .ok (.iload_n 2, 1) := by decide +kernel
theorem d_Ma_goToEnd_28 : decode m_Ma_goToEnd.2.1 28 = .ok (.ifCond .ne 13, 3) := by decide +kernel
theorem d_Ma_goToEnd_31 : decode m_Ma_goToEnd.2.1 31 = .ok (.aload_n 0, 1) := by decide +kernel
theorem d_Ma_goToEnd_32 : decode m_Ma_goToEnd.2.1 32 = .ok (.dup, 1) := by decide +kernel
theorem d_Ma_goToEnd_33 : decode m_Ma_goToEnd.2.1 33 = .ok (.getfield 31, 3) := by decide +kernel
theorem d_Ma_goToEnd_36 : decode m_Ma_goToEnd.2.1 36 = .ok (.iconst 1, 1) := by decide +kernel
theorem d_Ma_goToEnd_37 : decode m_Ma_goToEnd.2.1 37 = .ok (.iadd, 1) := by decide +kernel
theorem d_Ma_goToEnd_38 : decode m_Ma_goToEnd.2.1 38 = .ok (.putfield 31, 3) := by decide +kernel
theorem d_Ma_goToEnd_41 : decode m_Ma_goToEnd.2.1 41 = .ok (.iinc 3 1, 3) := by decide +kernel
theorem d_Ma_goToEnd_44 : decode m_Ma_goToEnd.2.1 44 = .ok (.goto (-40), 3) := by decide +kernel
theorem d_Ma_goToEnd_47 : decode m_Ma_goToEnd.2.1 47 = .ok (.iload_n 2, 1) := by decide +kernel
theorem d_Ma_goToEnd_48 : decode m_Ma_goToEnd.2.1 48 = .ok (.iconst (-1), 1) := by decide +kernel
theorem d_Ma_goToEnd_49 : decode m_Ma_goToEnd.2.1 49 = .ok (.if_icmp .ne 8, 3) := by decide +kernel
theorem d_Ma_goToEnd_52 : decode m_Ma_goToEnd.2.1 52 = .ok (.bipush 6, 2) := by decide +kernel
theorem d_Ma_goToEnd_54 : decode m_Ma_goToEnd.2.1 54 = .ok (.goto 4, 3) := by decide +kernel
theorem d_Ma_goToEnd_57 : decode m_Ma_goToEnd.2.1 57 = .ok (.iload_n 2, 1) := by decide +kernel
theorem d_Ma_goToEnd_58 : decode m_Ma_goToEnd.2.1 58 = .ok (.ireturn, 1) := by decide +kernel
theorem d_Ma_doOne_0 : decode m_Ma_doOne.2.1 0 = .ok (.aload_n 0, 1) := by decide +kernel
theorem d_Ma_doOne_1 : decode m_Ma_doOne.2.1 1 = .ok (.getfield 11, 3) := by decide +kernel
theorem d_Ma_doOne_4 : decode m_Ma_doOne.2.1 4 = .ok (.aload_n 0, 1) := by decide +kernel
theorem d_Ma_doOne_5 : decode m_Ma_doOne.2.1 5 = .ok (.getfield 38, 3) := by decide +kernel
theorem d_Ma_doOne_8 : decode m_Ma_doOne.2.1 8 = .ok (.aaload, 1) := by decide +kernel
theorem d_Ma_doOne_9 : decode m_Ma_doOne.2.1 9 = .ok (.astore_n 2, 1) := by decide +kernel
theorem d_Ma_doOne_10 : decode m_Ma_doOne.2.1 10 = .ok (.aload_n 1, 1) := by decide +kernel
theorem d_Ma_doOne_11 : decode m_Ma_doOne.2.1 11 = .ok (.getfield 45, 3) := by decide +kernel
theorem d_Ma_doOne_14 : decode m_Ma_doOne.2.1 14 = .ok (.aload_n 0, 1) := by decide +kernel
theorem d_Ma_doOne_15 : decode m_Ma_doOne.2.1 15 = .ok (.getfield 18, 3) := by decide +kernel
theorem d_Ma_doOne_18 : decode m_Ma_doOne.2.1 18 = .ok (.aload_n 0, 1) := by decide +kernel
theorem d_Ma_doOne_19 : decode m_Ma_doOne.2.1 19 = .ok (.getfield 38, 3) := by decide +kernel
theorem d_Ma_doOne_22 : decode m_Ma_doOne.2.1 22 = .ok (.iaload, 1) := by decide +kernel
theorem d_Ma_doOne_23 : decode m_Ma_doOne.2.1 23 = .ok (.aaload, 1) := by decide +kernel
theorem d_Ma_doOne_24 : decode m_Ma_doOne.2.1 24 = .ok (.astore_n 3, 1) := by decide +kernel
theorem d_Ma_doOne_25 : decode m_Ma_doOne.2.1 25 = .ok (.aload_n 0, 1) := by decide +kernel
theorem d_Ma_doOne_26 : decode m_Ma_doOne.2.1 26 = .ok (.getfield 22, 3) := by decide +kernel
theorem d_Ma_doOne_29 : decode m_Ma_doOne.2.1 29 = .ok (.aload_n 0, 1) := by decide +kernel
theorem d_Ma_doOne_30 : decode m_Ma_doOne.2.1 30 = .ok (.getfield 38, 3) := by decide +kernel
theorem d_Ma_doOne_33 : decode m_Ma_doOne.2.1 33 = .ok (.iaload, 1) := by decide +kernel
theorem d_Ma_doOne_34 : decode m_Ma_doOne.2.1 34 = .ok (.istore 4, 2) := by decide +kernel
theorem d_Ma_doOne_36 : decode m_Ma_doOne.2.1 36 = .ok (.iload 4, 2) := by decide +kernel
theorem d_Ma_doOne_38 : decode m_Ma_doOne.2.1 38 = .ok (.aload_n 3, 1) := by decide +kernel
theorem d_Ma_doOne_39 : decode m_Ma_doOne.2.1 39 = .ok (.getfield 79, 3) := by decide +kernel
theorem d_Ma_doOne_42 : decode m_Ma_doOne.2.1 42 = .ok (.if_icmp .ge 14, 3) := by decide +kernel
theorem d_Ma_doOne_45 : decode m_Ma_doOne.2.1 45 = .ok (.aload_n 2, 1) := by decide +kernel
theorem d_Ma_doOne_46 : decode m_Ma_doOne.2.1 46 = .ok (.aload_n 1, 1) := by decide +kernel
theorem d_Ma_doOne_47 : decode m_Ma_doOne.2.1 47 = .ok (.aload_n 3, 1) := by decide +kernel
theorem d_Ma_doOne_48 : decode m_Ma_doOne.2.1 48 = .ok (.iload 4, 2) := by decide +kernel
theorem d_Ma_doOne_50 : decode m_Ma_doOne.2.1 50 = .ok (.invokevirtual 82, 3) := by decide +kernel
theorem d_Ma_doOne_53 : decode m_Ma_doOne.2.1 53 = .ok (.ifCond .ne 5, 3) := by decide +kernel
theorem d_Ma_doOne_56 : decode m_Ma_doOne.2.1 56 = .ok (.iconst 1, 1) := by decide +kernel
theorem d_Ma_doOne_57 : decode m_Ma_doOne.2.1 57 = .ok (.ireturn, 1) := by decide +kernel
theorem d_Ma_doOne_58 : decode m_Ma_doOne.2.1 58 = .ok (.aload_n 1, 1) := by decide +kernel
theorem d_Ma_doOne_59 : decode m_Ma_doOne.2.1 59 = .ok (.aload_n 3, 1) := by decide +kernel
theorem d_Ma_doOne_60 : decode m_Ma_doOne.2.1 60 = .ok (.iload 4, 2) := by decide +kernel
theorem d_Ma_doOne_62 : decode m_Ma_doOne.2.1 62 = .ok (.invokevirtual 86, 3) := by decide +kernel
theorem d_Ma_doOne_65 : decode m_Ma_doOne.2.1 65 = .ok (.istore 5, 2) := by decide +kernel
theorem d_Ma_doOne_67 : decode m_Ma_doOne.2.1 67 = .ok (.aload_n 0, 1) := by decide +kernel
theorem d_Ma_doOne_68 : decode m_Ma_doOne.2.1 68 = .ok (.aload_n 2, 1) := by decide +kernel
theorem d_Ma_doOne_69 : decode m_Ma_doOne.2.1 69 = .ok (.iload 5, 2) := by decide +kernel
theorem d_Ma_doOne_71 : decode m_Ma_doOne.2.1 71 = .ok (.invokevirtual 89, 3) := by decide +kernel
theorem d_Ma_doOne_74 : decode m_Ma_doOne.2.1 74 = .ok (.istore 6, 2) := by decide +kernel
