theorem d_Ma_doOne_76 : decode m_Ma_doOne.2.1 76 = .ok (.iload 6, 2) := by decide +kernel
theorem d_Ma_doOne_78 : decode m_Ma_doOne.2.1 78 = .ok (.iconst (-1), 1) := by decide +kernel
theorem d_Ma_doOne_79 : decode m_Ma_doOne.2.1 79 = .ok (.if_icmp .eq 6, 3) := by decide +kernel
theorem d_Ma_doOne_82 : decode m_Ma_doOne.2.1 82 = .ok (.iload 6, 2) := by decide +kernel
theorem d_Ma_doOne_84 : decode m_Ma_doOne.2.1 84 = .ok (.ireturn, 1) := by decide +kernel
theorem d_Ma_doOne_85 : decode m_Ma_doOne.2.1 85 = .ok (.iload 5, 2) := by decide +kernel
theorem d_Ma_doOne_87 : decode m_Ma_doOne.2.1 87 = .ok (.invokestatic 93, 3) := by decide +kernel
theorem d_Ma_doOne_90 : decode m_Ma_doOne.2.1 90 = .ok (.ifCond .eq 11, 3) := by decide +kernel
theorem d_Ma_doOne_93 : decode m_Ma_doOne.2.1 93 = .ok (.aload_n 0, 1) := by decide +kernel
theorem d_Ma_doOne_94 : decode m_Ma_doOne.2.1 94 = .ok (.aload_n 2, 1) := by decide +kernel
theorem d_Ma_doOne_95 : decode m_Ma_doOne.2.1 95 = .ok (.iload 5, 2) := by decide +kernel
theorem d_Ma_doOne_97 : decode m_Ma_doOne.2.1 97 = .ok (.invokevirtual 99, 3) := by decide +kernel
theorem d_Ma_doOne_100 : decode m_Ma_doOne.2.1 100 = .ok (.ireturn, 1) := by decide +kernel
theorem d_Ma_doOne_101 : decode m_Ma_doOne.2.1 101 = .ok (.aload_n 0, 1) := by decide +kernel
theorem d_Ma_doOne_102 : decode m_Ma_doOne.2.1 102 = .ok (.getfield 22, 3) := by decide +kernel
theorem d_Ma_doOne_105 : decode m_Ma_doOne.2.1 105 = .ok (.aload_n 0, 1) := by decide +kernel
theorem d_Ma_doOne_106 : decode m_Ma_doOne.2.1 106 = .ok (.getfield 38, 3) := by decide +kernel
theorem d_Ma_doOne_109 : decode m_Ma_doOne.2.1 109 = .ok (.iload 4, 2) := by decide +kernel
theorem d_Ma_doOne_111 : decode m_Ma_doOne.2.1 111 = .ok (.iload 5, 2) := by decide +kernel
theorem d_Ma_doOne_113 : decode m_Ma_doOne.2.1 113 = .ok (.invokestatic 102, 3) := by decide +kernel
theorem d_Ma_doOne_116 : decode m_Ma_doOne.2.1 116 = .ok (.iadd, 1) := by decide +kernel
theorem d_Ma_doOne_117 : decode m_Ma_doOne.2.1 117 = .ok (.iastore, 1) := by decide +kernel
theorem d_Ma_doOne_118 : decode m_Ma_doOne.2.1 118 = .ok (.iload 5, 2) := by decide +kernel
theorem d_Ma_doOne_120 : decode m_Ma_doOne.2.1 120 = .ok (.sipush 184, 3) := by decide +kernel
theorem d_Ma_doOne_123 : decode m_Ma_doOne.2.1 123 = .ok (.if_icmp .ne 18, 3) := by decide +kernel
theorem d_Ma_doOne_126 : decode m_Ma_doOne.2.1 126 = .ok (.aload_n 0, 1) := by decide +kernel
theorem d_Ma_doOne_127 : decode m_Ma_doOne.2.1 127 = .ok (.aload_n 1, 1) := by decide +kernel
theorem d_Ma_doOne_128 : decode m_Ma_doOne.2.1 128 = .ok (.aload_n 1, 1) := by decide +kernel
theorem d_Ma_doOne_129 : decode m_Ma_doOne.2.1 129 = .ok (.aload_n 3, 1) := by decide +kernel
theorem d_Ma_doOne_130 : decode m_Ma_doOne.2.1 130 = .ok (.iload 4, 2) := by decide +kernel
theorem d_Ma_doOne_132 : decode m_Ma_doOne.2.1 132 = .ok (.invokevirtual 105, 3) := by decide +kernel
theorem d_Ma_doOne_135 : decode m_Ma_doOne.2.1 135 = .ok (.invokevirtual 108, 3) := by decide +kernel
theorem d_Ma_doOne_138 : decode m_Ma_doOne.2.1 138 = .ok (.goto 68, 3) := by decide +kernel
theorem d_Ma_doOne_141 : decode m_Ma_doOne.2.1 141 = .ok (.iload 5, 2) := by decide +kernel
theorem d_Ma_doOne_143 : decode m_Ma_doOne.2.1 143 = .ok (.invokestatic 112, 3) := by decide +kernel
theorem d_Ma_doOne_146 : decode m_Ma_doOne.2.1 146 = .ok (.ifCond .eq 32, 3) := by decide +kernel
theorem d_Ma_doOne_149 : decode m_Ma_doOne.2.1 149 = .ok (.aload_n 0, 1) := by decide +kernel
theorem d_Ma_doOne_150 : decode m_Ma_doOne.2.1 150 = .ok (.aload_n 2, 1) := by decide +kernel
theorem d_Ma_doOne_151 : decode m_Ma_doOne.2.1 151 = .ok (.iload 5, 2) := by decide +kernel
theorem d_Ma_doOne_153 : decode m_Ma_doOne.2.1 153 = .ok (.invokevirtual 115, 3) := by decide +kernel
theorem d_Ma_doOne_156 : decode m_Ma_doOne.2.1 156 = .ok (.ifCond .eq 50, 3) := by decide +kernel
theorem d_Ma_doOne_159 : decode m_Ma_doOne.2.1 159 = .ok (.aload_n 0, 1) := by decide +kernel
theorem d_Ma_doOne_160 : decode m_Ma_doOne.2.1 160 = .ok (.getfield 22, 3) := by decide +kernel
theorem d_Ma_doOne_163 : decode m_Ma_doOne.2.1 163 = .ok (.aload_n 0, 1) := by decide +kernel
theorem d_Ma_doOne_164 : decode m_Ma_doOne.2.1 164 = .ok (.getfield 38, 3) := by decide +kernel
theorem d_Ma_doOne_167 : decode m_Ma_doOne.2.1 167 = .ok (.aload_n 1, 1) := by decide +kernel
theorem d_Ma_doOne_168 : decode m_Ma_doOne.2.1 168 = .ok (.aload_n 3, 1) := by decide +kernel
theorem d_Ma_doOne_169 : decode m_Ma_doOne.2.1 169 = .ok (.iload 4, 2) := by decide +kernel
theorem d_Ma_doOne_171 : decode m_Ma_doOne.2.1 171 = .ok (.invokevirtual 119, 3) := by decide +kernel
theorem d_Ma_doOne_174 : decode m_Ma_doOne.2.1 174 = .ok (.iastore, 1) := by decide +kernel
theorem d_Ma_doOne_175 : decode m_Ma_doOne.2.1 175 = .ok (.goto 31, 3) := by decide +kernel
theorem d_Ma_doOne_178 : decode m_Ma_doOne.2.1 178 = .ok (.iload 5, 2) := by decide +kernel
theorem d_Ma_doOne_180 : decode m_Ma_doOne.2.1 180 = .ok (.invokestatic 102, 3) := by decide +kernel
theorem d_Ma_doOne_183 : decode m_Ma_doOne.2.1 183 = .ok (.iconst 1, 1) := by decide +kernel
theorem d_Ma_doOne_184 : decode m_Ma_doOne.2.1 184 = .ok (.if_icmp .le 15, 3) := by decide +kernel
theorem d_Ma_doOne_187 : decode m_Ma_doOne.2.1 187 = .ok (.aload_n 0, 1) := by decide +kernel
theorem d_Ma_doOne_188 : decode m_Ma_doOne.2.1 188 = .ok (.aload_n 2, 1) := by decide +kernel
theorem d_Ma_doOne_189 : decode m_Ma_doOne.2.1 189 = .ok (.aload_n 1, 1) := by decide +kernel
theorem d_Ma_doOne_190 : decode m_Ma_doOne.2.1 190 = .ok (.aload_n 3, 1) := by decide +kernel
theorem d_Ma_doOne_191 : decode m_Ma_doOne.2.1 191 = .ok (.iload 4, 2) := by decide +kernel
theorem d_Ma_doOne_193 : decode m_Ma_doOne.2.1 193 = .ok (.invokevirtual 122, 3) := by decide +kernel
theorem d_Ma_doOne_196 : decode m_Ma_doOne.2.1 196 = .ok (.goto 10, 3) := by decide +kernel
theorem d_Ma_doOne_199 : decode m_Ma_doOne.2.1 199 = .ok (.aload_n 0, 1) := by decide +kernel
theorem d_Ma_doOne_200 : decode m_Ma_doOne.2.1 200 = .ok (.aload_n 2, 1) := by decide +kernel
theorem d_Ma_doOne_201 : decode m_Ma_doOne.2.1 201 = .ok (.iload 5, 2) := by decide +kernel
theorem d_Ma_doOne_203 : decode m_Ma_doOne.2.1 203 = .ok (.invokevirtual 126, 3) := by decide +kernel
theorem d_Ma_doOne_206 : decode m_Ma_doOne.2.1 206 = .ok (.iconst (-1), 1) := by decide +kernel
theorem d_Ma_doOne_207 : decode m_Ma_doOne.2.1 207 = .ok (.ireturn, 1) := by decide +kernel
theorem d_Ma_trouble_0 : decode m_Ma_trouble.2.1 0 = .ok (.iload_n 2, 1) := by decide +kernel
theorem d_Ma_trouble_1 : decode m_Ma_trouble.2.1 1 = .ok (.lookupswitch 152 #[(46, 121), (79, 128), (108, 59), (184, 135), (188, 73), (190, 106)], 59) := by decide +kernel
theorem d_Ma_trouble_60 : decode m_Ma_trouble.2.1 60 = .ok (.aload_n 1, 1) := by decide +kernel
theorem d_Ma_trouble_61 : decode m_Ma_trouble.2.1 61 = .ok (.iconst 0, 1) := by decide +kernel
theorem d_Ma_trouble_62 : decode m_Ma_trouble.2.1 62 = .ok (.invokevirtual 130, 3) := by decide +kernel
theorem d_Ma_trouble_65 : decode m_Ma_trouble.2.1 65 = .ok (.ifCond .ne 7, 3) := by decide +kernel
theorem d_Ma_trouble_68 : decode m_Ma_trouble.2.1 68 = .ok (.iconst 2, 1) := by decide +kernel
theorem d_Ma_trouble_69 : decode m_Ma_trouble.2.1 69 = .ok (.goto 4, 3) := by decide +kernel
theorem d_Ma_trouble_72 : decode m_Ma_trouble.2.1 72 = .ok (.iconst (-1), 1) := by decide +kernel
theorem d_Ma_trouble_73 : decode m_Ma_trouble.2.1 73 = .ok (.ireturn, 1) := by decide +kernel
theorem d_Ma_trouble_74 : decode m_Ma_trouble.2.1 74 = .ok (.aload_n 1, 1) := by decide +kernel
theorem d_Ma_trouble_75 : decode m_Ma_trouble.2.1 75 = .ok (.iconst 0, 1) := by decide +kernel
theorem d_Ma_trouble_76 : decode m_Ma_trouble.2.1 76 = .ok (.invokevirtual 130, 3) := by decide +kernel
theorem d_Ma_trouble_79 : decode m_Ma_trouble.2.1 79 = .ok (.ifCond .lt 22, 3) := by decide +kernel
theorem d_Ma_trouble_82 : decode m_Ma_trouble.2.1 82 = .ok (.aload_n 1, 1) := by decide +kernel
theorem d_Ma_trouble_83 : decode m_Ma_trouble.2.1 83 = .ok (.iconst 0, 1) := by decide +kernel
theorem d_Ma_trouble_84 : decode m_Ma_trouble.2.1 84 = .ok (.invokevirtual 130, 3) := by decide +kernel
theorem d_Ma_trouble_87 : decode m_Ma_trouble.2.1 87 = .ok (.bipush 8, 2) := by decide +kernel
theorem d_Ma_trouble_89 : decode m_Ma_trouble.2.1 89 = .ok (.if_icmp .gt 12, 3) := by decide +kernel
theorem d_Ma_trouble_92 : decode m_Ma_trouble.2.1 92 = .ok (.aload_n 0, 1) := by decide +kernel
theorem d_Ma_trouble_93 : decode m_Ma_trouble.2.1 93 = .ok (.getfield 35, 3) := by decide +kernel
theorem d_Ma_trouble_96 : decode m_Ma_trouble.2.1 96 = .ok (.bipush 8, 2) := by decide +kernel
theorem d_Ma_trouble_98 : decode m_Ma_trouble.2.1 98 = .ok (.if_icmp .lt 7, 3) := by decide +kernel
theorem d_Ma_trouble_101 : decode m_Ma_trouble.2.1 101 = .ok (.iconst 5, 1) := by decide +kernel
theorem d_Ma_trouble_102 : decode m_Ma_trouble.2.1 102 = .ok (.goto 4, 3) := by decide +kernel
theorem d_Ma_trouble_105 : decode m_Ma_trouble.2.1 105 = .ok (.iconst (-1), 1) := by decide +kernel
theorem d_Ma_trouble_106 : decode m_Ma_trouble.2.1 106 = .ok (.ireturn, 1) := by decide +kernel
theorem d_Ma_trouble_107 : decode m_Ma_trouble.2.1 107 = .ok (.aload_n 1, 1) := by decide +kernel
theorem d_Ma_trouble_108 : decode m_Ma_trouble.2.1 108 = .ok (.iconst 0, 1) := by decide +kernel
theorem d_Ma_trouble_109 : decode m_Ma_trouble.2.1 109 = .ok (.invokevirtual 133, 3) := by decide +kernel
theorem d_Ma_trouble_112 : decode m_Ma_trouble.2.1 112 = .ok (.iconst 3, 1) := by decide +kernel
theorem d_Ma_trouble_113 : decode m_Ma_trouble.2.1 113 = .ok (.if_icmp .ne 7, 3) := by decide +kernel
theorem d_Ma_trouble_116 : decode m_Ma_trouble.2.1 116 = .ok (.iconst 4, 1) := by decide +kernel
theorem d_Ma_trouble_117 : decode m_Ma_trouble.2.1 117 = .ok (.goto 4, 3) := by decide +kernel
theorem d_Ma_trouble_120 : decode m_Ma_trouble.2.1 120 = .ok (.iconst (-1), 1) := by decide +kernel
theorem d_Ma_trouble_121 : decode m_Ma_trouble.2.1 121 = .ok (.ireturn, 1) := by decide +kernel
theorem d_Ma_trouble_122 : decode m_Ma_trouble.2.1 122 = .ok (.aload_n 0, 1) := by decide +kernel
theorem d_Ma_trouble_123 : decode m_Ma_trouble.2.1 123 = .ok (.aload_n 1, 1) := by decide +kernel
theorem d_Ma_trouble_124 : decode m_Ma_trouble.2.1 124 = .ok (.iconst 1, 1) := by decide +kernel
theorem d_Ma_trouble_125 : decode m_Ma_trouble.2.1 125 = .ok (.invokevirtual 136, 3) := by decide +kernel
theorem d_Ma_trouble_128 : decode m_Ma_trouble.2.1 128 = .ok (.ireturn, 1) := by decide +kernel
theorem d_Ma_trouble_129 : decode m_Ma_trouble.2.1 129 = .ok (.aload_n 0, 1) := by decide +kernel
theorem d_Ma_trouble_130 : decode m_Ma_trouble.2.1 130 = .ok (.aload_n 1, 1) := by decide +kernel
theorem d_Ma_trouble_131 : decode m_Ma_trouble.2.1 131 = .ok (.iconst 2, 1) := by decide +kernel
theorem d_Ma_trouble_132 : decode m_Ma_trouble.2.1 132 = .ok (.invokevirtual 136, 3) := by decide +kernel
theorem d_Ma_trouble_135 : decode m_Ma_trouble.2.1 135 = .ok (.ireturn, 1) := by decide +kernel
theorem d_Ma_trouble_136 : decode m_Ma_trouble.2.1 136 = .ok (.aload_n 0, 1) := by decide +kernel
theorem d_Ma_trouble_137 : decode m_Ma_trouble.2.1 137 = .ok (.getfield 38, 3) := by decide +kernel
theorem d_Ma_trouble_140 : decode m_Ma_trouble.2.1 140 = .ok (.iconst 1, 1) := by decide +kernel
theorem d_Ma_trouble_141 : decode m_Ma_trouble.2.1 141 = .ok (.iadd, 1) := by decide +kernel
theorem d_Ma_trouble_142 : decode m_Ma_trouble.2.1 142 = .ok (.iconst 4, 1) := by decide +kernel
theorem d_Ma_trouble_143 : decode m_Ma_trouble.2.1 143 = .ok (.if_icmp .lt 8, 3) := by decide +kernel
theorem d_Ma_trouble_146 : decode m_Ma_trouble.2.1 146 = .ok (.bipush 6, 2) := by decide +kernel
theorem d_Ma_trouble_148 : decode m_Ma_trouble.2.1 148 = .ok (.goto 4, 3) := by decide +kernel
theorem d_Ma_trouble_151 : decode m_Ma_trouble.2.1 151 = .ok (.iconst (-1), 1) := by decide +kernel
theorem d_Ma_trouble_152 : decode m_Ma_trouble.2.1 152 = .ok (.ireturn, 1) := by decide +kernel
theorem d_Ma_trouble_153 : decode m_Ma_trouble.2.1 153 = .ok (.iconst (-1), 1) := by decide +kernel
theorem d_Ma_trouble_154 : decode m_Ma_trouble.2.1 154 = .ok (.ireturn, 1) := by decide +kernel
theorem d_Ma_troubleOfElement_0 : decode m_Ma_troubleOfElement.2.1 0 = .ok (.aload_n 1, 1) := by decide +kernel
theorem d_Ma_troubleOfElement_1 : decode m_Ma_troubleOfElement.2.1 1 = .ok (.iload_n 2, 1) := by decide +kernel
theorem d_Ma_troubleOfElement_2 : decode m_Ma_troubleOfElement.2.1 2 = .ok (.invokevirtual 133, 3) := by decide +kernel
theorem d_Ma_troubleOfElement_5 : decode m_Ma_troubleOfElement.2.1 5 = .ok (.iconst 3, 1) := by decide +kernel
theorem d_Ma_troubleOfElement_6 : decode m_Ma_troubleOfElement.2.1 6 = .ok (.if_icmp .ne 5, 3) := by decide +kernel
theorem d_Ma_troubleOfElement_9 : decode m_Ma_troubleOfElement.2.1 9 = .ok (.iconst 4, 1) := by decide +kernel
theorem d_Ma_troubleOfElement_10 : decode m_Ma_troubleOfElement.2.1 10 = .ok (.ireturn, 1) := by decide +kernel
theorem d_Ma_troubleOfElement_11 : decode m_Ma_troubleOfElement.2.1 11 = .ok (.aload_n 1, 1) := by decide +kernel
theorem d_Ma_troubleOfElement_12 : decode m_Ma_troubleOfElement.2.1 12 = .ok (.iload_n 2, 1) := by decide +kernel
theorem d_Ma_troubleOfElement_13 : decode m_Ma_troubleOfElement.2.1 13 = .ok (.iconst 1, 1) := by decide +kernel
theorem d_Ma_troubleOfElement_14 : decode m_Ma_troubleOfElement.2.1 14 = .ok (.isub, 1) := by decide +kernel
theorem d_Ma_troubleOfElement_15 : decode m_Ma_troubleOfElement.2.1 15 = .ok (.invokevirtual 130, 3) := by decide +kernel
theorem d_Ma_troubleOfElement_18 : decode m_Ma_troubleOfElement.2.1 18 = .ok (.istore_n 3, 1) := by decide +kernel
theorem d_Ma_troubleOfElement_19 : decode m_Ma_troubleOfElement.2.1 19 = .ok (.iload_n 3, 1) := by decide +kernel
theorem d_Ma_troubleOfElement_20 : decode m_Ma_troubleOfElement.2.1 20 = .ok (.ifCond .lt 17, 3) := by decide +kernel
theorem d_Ma_troubleOfElement_23 : decode m_Ma_troubleOfElement.2.1 23 = .ok (.iload_n 3, 1) := by decide +kernel
theorem d_Ma_troubleOfElement_24 : decode m_Ma_troubleOfElement.2.1 24 = .ok (.aload_n 0, 1) := by decide +kernel
theorem d_Ma_troubleOfElement_25 : decode m_Ma_troubleOfElement.2.1 25 = .ok (.getfield 28, 3) := by decide +kernel
theorem d_Ma_troubleOfElement_28 : decode m_Ma_troubleOfElement.2.1 28 = .ok (.aload_n 1, 1) := by decide +kernel
theorem d_Ma_troubleOfElement_29 : decode m_Ma_troubleOfElement.2.1 29 = .ok (.iload_n 2, 1) := by decide +kernel
theorem d_Ma_troubleOfElement_30 : decode m_Ma_troubleOfElement.2.1 30 = .ok (.invokevirtual 130, 3) := by decide +kernel
theorem d_Ma_troubleOfElement_33 : decode m_Ma_troubleOfElement.2.1 33 = .ok (.iaload, 1) := by decide +kernel
theorem d_Ma_troubleOfElement_34 : decode m_Ma_troubleOfElement.2.1 34 = .ok (.if_icmp .lt 7, 3) := by decide +kernel
theorem d_Ma_troubleOfElement_37 : decode m_Ma_troubleOfElement.2.1 37 = .ok (.iconst 3, 1) := by decide +kernel
theorem d_Ma_troubleOfElement_38 : decode m_Ma_troubleOfElement.2.1 38 = .ok (.goto 4, 3) := by decide +kernel
theorem d_Ma_troubleOfElement_41 : decode m_Ma_troubleOfElement.2.1 41 = .ok (.iconst (-1), 1) := by decide +kernel
theorem d_Ma_troubleOfElement_42 : decode m_Ma_troubleOfElement.2.1 42 = .ok (.ireturn, 1) := by decide +kernel
theorem d_Ma_call_0 : decode m_Ma_call.2.1 0 = .ok (.aload_n 0, 1) := by decide +kernel
theorem d_Ma_call_1 : decode m_Ma_call.2.1 1 = .ok (.getfield 11, 3) := by decide +kernel
theorem d_Ma_call_4 : decode m_Ma_call.2.1 4 = .ok (.aload_n 0, 1) := by decide +kernel
theorem d_Ma_call_5 : decode m_Ma_call.2.1 5 = .ok (.getfield 38, 3) := by decide +kernel
theorem d_Ma_call_8 : decode m_Ma_call.2.1 8 = .ok (.aaload, 1) := by decide +kernel
theorem d_Ma_call_9 : decode m_Ma_call.2.1 9 = .ok (.astore_n 3, 1) := by decide +kernel
theorem d_Ma_call_10 : decode m_Ma_call.2.1 10 = .ok (.aload_n 0, 1) := by decide +kernel
theorem d_Ma_call_11 : decode m_Ma_call.2.1 11 = .ok (.dup, 1) := by decide +kernel
theorem d_Ma_call_12 : decode m_Ma_call.2.1 12 = .ok (.getfield 38, 3) := by decide +kernel
theorem d_Ma_call_15 : decode m_Ma_call.2.1 15 = .ok (.iconst 1, 1) := by decide +kernel
theorem d_Ma_call_16 : decode m_Ma_call.2.1 16 = .ok (.iadd, 1) := by decide +kernel
theorem d_Ma_call_17 : decode m_Ma_call.2.1 17 = .ok (.putfield 38, 3) := by decide +kernel
theorem d_Ma_call_20 : decode m_Ma_call.2.1 20 = .ok (.aload_n 0, 1) := by decide +kernel
theorem d_Ma_call_21 : decode m_Ma_call.2.1 21 = .ok (.iload_n 2, 1) := by decide +kernel
theorem d_Ma_call_22 : decode m_Ma_call.2.1 22 = .ok (.invokevirtual 41, 3) := by decide +kernel
theorem d_Ma_call_25 : decode m_Ma_call.2.1 25 = .ok (.aload_n 1, 1) := by decide +kernel
theorem d_Ma_call_26 : decode m_Ma_call.2.1 26 = .ok (.getfield 45, 3) := by decide +kernel
theorem d_Ma_call_29 : decode m_Ma_call.2.1 29 = .ok (.iload_n 2, 1) := by decide +kernel
theorem d_Ma_call_30 : decode m_Ma_call.2.1 30 = .ok (.aaload, 1) := by decide +kernel
theorem d_Ma_call_31 : decode m_Ma_call.2.1 31 = .ok (.getfield 51, 3) := by decide +kernel
theorem d_Ma_call_34 : decode m_Ma_call.2.1 34 = .ok (.iconst 1, 1) := by decide +kernel
theorem d_Ma_call_35 : decode m_Ma_call.2.1 35 = .ok (.isub, 1) := by decide +kernel
theorem d_Ma_call_36 : decode m_Ma_call.2.1 36 = .ok (.istore 4, 2) := by decide +kernel
theorem d_Ma_call_38 : decode m_Ma_call.2.1 38 = .ok (.iload 4, 2) := by decide +kernel
theorem d_Ma_call_40 : decode m_Ma_call.2.1 40 = .ok (.ifCond .lt 35, 3) := by decide +kernel
theorem d_Ma_call_43 : decode m_Ma_call.2.1 43 = .ok (.aload_n 3, 1) := by decide +kernel
theorem d_Ma_call_44 : decode m_Ma_call.2.1 44 = .ok (.invokevirtual 139, 3) := by decide +kernel
theorem d_Ma_call_47 : decode m_Ma_call.2.1 47 = .ok (.istore 5, 2) := by decide +kernel
theorem d_Ma_call_49 : decode m_Ma_call.2.1 49 = .ok (.aload_n 0, 1) := by decide +kernel
theorem d_Ma_call_50 : decode m_Ma_call.2.1 50 = .ok (.getfield 11, 3) := by decide +kernel
theorem d_Ma_call_53 : decode m_Ma_call.2.1 53 = .ok (.aload_n 0, 1) := by decide +kernel
theorem d_Ma_call_54 : decode m_Ma_call.2.1 54 = .ok (.getfield 38, 3) := by decide +kernel
theorem d_Ma_call_57 : decode m_Ma_call.2.1 57 = .ok (.aaload, 1) := by decide +kernel
theorem d_Ma_call_58 : decode m_Ma_call.2.1 58 = .ok (.iload 4, 2) := by decide +kernel
theorem d_Ma_call_60 : decode m_Ma_call.2.1 60 = .ok (.aload_n 3, 1) := by decide +kernel
theorem d_Ma_call_61 : decode m_Ma_call.2.1 61 = .ok (.invokevirtual 143, 3) := by decide +kernel
theorem d_Ma_call_64 : decode m_Ma_call.2.1 64 = .ok (.iload 5, 2) := by decide +kernel
theorem d_Ma_call_66 : decode m_Ma_call.2.1 66 = .ok (.invokevirtual 67, 3) := by decide +kernel
theorem d_Ma_call_69 : decode m_Ma_call.2.1 69 = .ok (.iinc 4 (-1), 3) := by decide +kernel
theorem d_Ma_call_72 : decode m_Ma_call.2.1 72 = .ok (.goto (-34), 3) := by decide +kernel
theorem d_Ma_call_75 : decode m_Ma_call.2.1 75 = .ok (.return_, 1) := by decide +kernel
theorem d_Ma_leave_0 : decode m_Ma_leave.2.1 0 = .ok (.iload_n 2, 1) := by decide +kernel
theorem d_Ma_leave_1 : decode m_Ma_leave.2.1 1 = .ok (.sipush 177, 3) := by decide +kernel
theorem d_Ma_leave_4 : decode m_Ma_leave.2.1 4 = .ok (.if_icmp .eq 7, 3) := by decide +kernel
theorem d_Ma_leave_7 : decode m_Ma_leave.2.1 7 = .ok (.iconst 1, 1) := by decide +kernel
theorem d_Ma_leave_8 : decode m_Ma_leave.2.1 8 = .ok (.goto 4, 3) := by decide +kernel
theorem d_Ma_leave_11 : decode m_Ma_leave.2.1 11 = .ok (.iconst 0, 1) := by decide +kernel
theorem d_Ma_leave_12 : decode m_Ma_leave.2.1 12 = .ok (.istore_n 3, 1) := by decide +kernel
theorem d_Ma_leave_13 : decode m_Ma_leave.2.1 13 = .ok (.iload_n 3, 1) := by decide +kernel
theorem d_Ma_leave_14 : decode m_Ma_leave.2.1 14 = .ok (.ifCond .eq 10, 3) := by decide +kernel
theorem d_Ma_leave_17 : decode m_Ma_leave.2.1 17 = .ok (.aload_n 1, 1) := by decide +kernel
theorem d_Ma_leave_18 : decode m_Ma_leave.2.1 18 = .ok (.invokevirtual 139, 3) := by decide +kernel
theorem d_Ma_leave_21 : decode m_Ma_leave.2.1 21 = .ok (.goto 4, 3) := by decide +kernel
theorem d_Ma_leave_24 : decode m_Ma_leave.2.1 24 = .ok (.iconst 0, 1) := by decide +kernel
theorem d_Ma_leave_25 : decode m_Ma_leave.2.1 25 = .ok (.istore 4, 2) := by decide +kernel
theorem d_Ma_leave_27 : decode m_Ma_leave.2.1 27 = .ok (.iload_n 3, 1) := by decide +kernel
theorem d_Ma_leave_28 : decode m_Ma_leave.2.1 28 = .ok (.ifCond .eq 10, 3) := by decide +kernel
theorem d_Ma_leave_31 : decode m_Ma_leave.2.1 31 = .ok (.aload_n 1, 1) := by decide +kernel
theorem d_Ma_leave_32 : decode m_Ma_leave.2.1 32 = .ok (.invokevirtual 143, 3) := by decide +kernel
theorem d_Ma_leave_35 : decode m_Ma_leave.2.1 35 = .ok (.goto 4, 3) := by decide +kernel
theorem d_Ma_leave_38 : decode m_Ma_leave.2.1 38 = .ok (.iconst 0, 1) := by decide +kernel
theorem d_Ma_leave_39 : decode m_Ma_leave.2.1 39 = .ok (.istore 5, 2) := by decide +kernel
theorem d_Ma_leave_41 : decode m_Ma_leave.2.1 41 = .ok (.aload_n 0, 1) := by decide +kernel
theorem d_Ma_leave_42 : decode m_Ma_leave.2.1 42 = .ok (.getfield 38, 3) := by decide +kernel
theorem d_Ma_leave_45 : decode m_Ma_leave.2.1 45 = .ok (.ifCond .ne 17, 3) := by decide +kernel
theorem d_Ma_leave_48 : decode m_Ma_leave.2.1 48 = .ok (.aload_n 0, 1) := by decide +kernel
theorem d_Ma_leave_49 : decode m_Ma_leave.2.1 49 = .ok (.aload_n 0, 1) := by decide +kernel
theorem d_Ma_leave_50 : decode m_Ma_leave.2.1 50 = .ok (.iload 5, 2) := by decide +kernel
theorem d_Ma_leave_52 : decode m_Ma_leave.2.1 52 = .ok (.iload 4, 2) := by decide +kernel
theorem d_Ma_leave_54 : decode m_Ma_leave.2.1 54 = .ok (.invokevirtual 146, 3) := by decide +kernel
theorem d_Ma_leave_57 : decode m_Ma_leave.2.1 57 = .ok (.putfield 150, 3) := by decide +kernel
theorem d_Ma_leave_60 : decode m_Ma_leave.2.1 60 = .ok (.iconst 0, 1) := by decide +kernel
theorem d_Ma_leave_61 : decode m_Ma_leave.2.1 61 = .ok (.ireturn, 1) := by decide +kernel
theorem d_Ma_leave_62 : decode m_Ma_leave.2.1 62 = .ok (.aload_n 0, 1) := by decide +kernel
theorem d_Ma_leave_63 : decode m_Ma_leave.2.1 63 = .ok (.dup, 1) := by decide +kernel
theorem d_Ma_leave_64 : decode m_Ma_leave.2.1 64 = .ok (.getfield 38, 3) := by decide +kernel
theorem d_Ma_leave_67 : decode m_Ma_leave.2.1 67 = .ok (.iconst 1, 1) := by decide +kernel
theorem d_Ma_leave_68 : decode m_Ma_leave.2.1 68 = .ok (.isub, 1) := by decide +kernel
theorem d_Ma_leave_69 : decode m_Ma_leave.2.1 69 = .ok (.putfield 38, 3) := by decide +kernel
theorem d_Ma_leave_72 : decode m_Ma_leave.2.1 72 = .ok (.iload_n 3, 1) := by decide +kernel
theorem d_Ma_leave_73 : decode m_Ma_leave.2.1 73 = .ok (.ifCond .eq 19, 3) := by decide +kernel
theorem d_Ma_leave_76 : decode m_Ma_leave.2.1 76 = .ok (.aload_n 0, 1) := by decide +kernel
theorem d_Ma_leave_77 : decode m_Ma_leave.2.1 77 = .ok (.getfield 11, 3) := by decide +kernel
theorem d_Ma_leave_80 : decode m_Ma_leave.2.1 80 = .ok (.aload_n 0, 1) := by decide +kernel
theorem d_Ma_leave_81 : decode m_Ma_leave.2.1 81 = .ok (.getfield 38, 3) := by decide +kernel
theorem d_Ma_leave_84 : decode m_Ma_leave.2.1 84 = .ok (.aaload, 1) := by decide +kernel
theorem d_Ma_leave_85 : decode m_Ma_leave.2.1 85 = .ok (.iload 5, 2) := by decide +kernel
theorem d_Ma_leave_87 : decode m_Ma_leave.2.1 87 = .ok (.iload 4, 2) := by decide +kernel
theorem d_Ma_leave_89 : decode m_Ma_leave.2.1 89 = .ok (.invokevirtual 153, 3) := by decide +kernel
theorem d_Ma_leave_92 : decode m_Ma_leave.2.1 92 = .ok (.iconst (-1), 1) := by decide +kernel
theorem d_Ma_leave_93 : decode m_Ma_leave.2.1 93 = .ok (.ireturn, 1) := by decide +kernel
theorem d_Ma_resultOf_0 : decode m_Ma_resultOf.2.1 0 = .ok (.iload_n 1, 1) := by decide +kernel
theorem d_Ma_resultOf_1 : decode m_Ma_resultOf.2.1 1 = .ok (.tableswitch 38 1 3 #[27, 29, 36], 27) := by decide +kernel
theorem d_Ma_resultOf_28 : decode m_Ma_resultOf.2.1 28 = .ok (.iload_n 2, 1) := by decide +kernel
theorem d_Ma_resultOf_29 : decode m_Ma_resultOf.2.1 29 = .ok (.ireturn, 1) := by decide +kernel
theorem d_Ma_resultOf_30 : decode m_Ma_resultOf.2.1 30 = .ok (.aload_n 0, 1) := by decide +kernel
theorem d_Ma_resultOf_31 : decode m_Ma_resultOf.2.1 31 = .ok (.getfield 28, 3) := by decide +kernel
theorem d_Ma_resultOf_34 : decode m_Ma_resultOf.2.1 34 = .ok (.iload_n 2, 1) := by decide +kernel
theorem d_Ma_resultOf_35 : decode m_Ma_resultOf.2.1 35 = .ok (.iaload, 1) := by decide +kernel
theorem d_Ma_resultOf_36 : decode m_Ma_resultOf.2.1 36 = .ok (.ireturn, 1) := by decide +kernel
theorem d_Ma_resultOf_37 : decode m_Ma_resultOf.2.1 37 = .ok (.iconst (-1), 1) := by decide +kernel
theorem d_Ma_resultOf_38 : decode m_Ma_resultOf.2.1 38 = .ok (.ireturn, 1) := by decide +kernel
theorem d_Ma_resultOf_39 : decode m_Ma_resultOf.2.1 39 = .ok (.iconst 0, 1) := by decide +kernel
theorem d_Ma_resultOf_40 : decode m_Ma_resultOf.2.1 40 = .ok (.ireturn, 1) := by decide +kernel
theorem d_Ma_goesToTarget_0 : decode m_Ma_goesToTarget.2.1 0 = .ok (.iload_n 2, 1) := by decide +kernel
theorem d_Ma_goesToTarget_1 : decode m_Ma_goesToTarget.2.1 1 = .ok (.sipush 167, 3) := by decide +kernel
theorem d_Ma_goesToTarget_4 : decode m_Ma_goesToTarget.2.1 4 = .ok (.if_icmp .ne 5, 3) := by decide +kernel
theorem d_Ma_goesToTarget_7 : decode m_Ma_goesToTarget.2.1 7 = .ok (.iconst 1, 1) := by decide +kernel
theorem d_Ma_goesToTarget_8 : decode m_Ma_goesToTarget.2.1 8 = .ok (.ireturn, 1) := by decide +kernel
theorem d_Ma_goesToTarget_9 : decode m_Ma_goesToTarget.2.1 9 = .ok (.aload_n 1, 1) := by decide +kernel
theorem d_Ma_goesToTarget_10 : decode m_Ma_goesToTarget.2.1 10 = .ok (.invokevirtual 139, 3) := by decide +kernel
theorem d_Ma_goesToTarget_13 : decode m_Ma_goesToTarget.2.1 13 = .ok (.istore_n 3, 1) := by decide +kernel
theorem d_Ma_goesToTarget_14 : decode m_Ma_goesToTarget.2.1 14 = .ok (.iload_n 2, 1) := by decide +kernel
theorem d_Ma_goesToTarget_15 : decode m_Ma_goesToTarget.2.1 15 = .ok (.sipush 198, 3) := by decide +kernel
theorem d_Ma_goesToTarget_18 : decode m_Ma_goesToTarget.2.1 18 = .ok (.if_icmp .eq 10, 3) := by decide +kernel
theorem d_Ma_goesToTarget_21 : decode m_Ma_goesToTarget.2.1 21 = .ok (.iload_n 2, 1) := by decide +kernel
theorem d_Ma_goesToTarget_22 : decode m_Ma_goesToTarget.2.1 22 = .ok (.sipush 199, 3) := by decide +kernel
theorem d_Ma_goesToTarget_25 : decode m_Ma_goesToTarget.2.1 25 = .ok (.if_icmp .ne 37, 3) := by decide +kernel
theorem d_Ma_goesToTarget_28 : decode m_Ma_goesToTarget.2.1 28 = .ok (.aload_n 1, 1) := by decide +kernel
theorem d_Ma_goesToTarget_29 : decode m_Ma_goesToTarget.2.1 29 = .ok (.invokevirtual 143, 3) := by decide +kernel
theorem d_Ma_goesToTarget_32 : decode m_Ma_goesToTarget.2.1 32 = .ok (.iconst 3, 1) := by decide +kernel
theorem d_Ma_goesToTarget_33 : decode m_Ma_goesToTarget.2.1 33 = .ok (.if_icmp .ne 7, 3) := by decide +kernel
theorem d_Ma_goesToTarget_36 : decode m_Ma_goesToTarget.2.1 36 = .ok (.iconst 1, 1) := by decide +kernel
theorem d_Ma_goesToTarget_37 : decode m_Ma_goesToTarget.2.1 37 = .ok (.goto 4, 3) := by decide +kernel
theorem d_Ma_goesToTarget_40 : decode m_Ma_goesToTarget.2.1 40 = .ok (.iconst 0, 1) := by decide +kernel
theorem d_Ma_goesToTarget_41 : decode m_Ma_goesToTarget.2.1 41 = .ok (.iload_n 2, 1) := by decide +kernel
theorem d_Ma_goesToTarget_42 : decode m_Ma_goesToTarget.2.1 42 = .ok (.sipush 198, 3) := by decide +kernel
theorem d_Ma_goesToTarget_45 : decode m_Ma_goesToTarget.2.1 45 = .ok (.if_icmp .ne 7, 3) := by decide +kernel
theorem d_Ma_goesToTarget_48 : decode m_Ma_goesToTarget.2.1 48 = .ok (.iconst 1, 1) := by decide +kernel
theorem d_Ma_goesToTarget_49 : decode m_Ma_goesToTarget.2.1 49 = .ok (.goto 4, 3) := by decide +kernel
theorem d_Ma_goesToTarget_52 : decode m_Ma_goesToTarget.2.1 52 = .ok (.iconst 0, 1) := by decide +kernel
theorem d_Ma_goesToTarget_53 : decode m_Ma_goesToTarget.2.1 53 = .ok (.if_icmp .ne 7, 3) := by decide +kernel
theorem d_Ma_goesToTarget_56 : decode m_Ma_goesToTarget.2.1 56 = .ok (.iconst 1, 1) := by decide +kernel
theorem d_Ma_goesToTarget_57 : decode m_Ma_goesToTarget.2.1 57 = .ok (.goto 4, 3) := by decide +kernel
theorem d_Ma_goesToTarget_60 : decode m_Ma_goesToTarget.2.1 60 = .ok (.iconst 0, 1) := by decide +kernel
theorem d_Ma_goesToTarget_61 : decode m_Ma_goesToTarget.2.1 61 = .ok (.ireturn, 1) := by decide +kernel
theorem d_Ma_goesToTarget_62 : decode m_Ma_goesToTarget.2.1 62 = .ok (.iload_n 2, 1) := by decide +kernel
theorem d_Ma_goesToTarget_63 : decode m_Ma_goesToTarget.2.1 63 = .ok (.sipush 158, 3) := by decide +kernel
theorem d_Ma_goesToTarget_66 : decode m_Ma_goesToTarget.2.1 66 = .ok (.if_icmp .gt 15, 3) := by decide +kernel
theorem d_Ma_goesToTarget_69 : decode m_Ma_goesToTarget.2.1 69 = .ok (.aload_n 0, 1) := by decide +kernel
theorem d_Ma_goesToTarget_70 : decode m_Ma_goesToTarget.2.1 70 = .ok (.iload_n 2, 1) := by decide +kernel
theorem d_Ma_goesToTarget_71 : decode m_Ma_goesToTarget.2.1 71 = .ok (.sipush 153, 3) := by decide +kernel
theorem d_Ma_goesToTarget_74 : decode m_Ma_goesToTarget.2.1 74 = .ok (.isub, 1) := by decide +kernel
theorem d_Ma_goesToTarget_75 : decode m_Ma_goesToTarget.2.1 75 = .ok (.iload_n 3, 1) := by decide +kernel
theorem d_Ma_goesToTarget_76 : decode m_Ma_goesToTarget.2.1 76 = .ok (.iconst 0, 1) := by decide +kernel
theorem d_Ma_goesToTarget_77 : decode m_Ma_goesToTarget.2.1 77 = .ok (.invokevirtual 157, 3) := by decide +kernel
theorem d_Ma_goesToTarget_80 : decode m_Ma_goesToTarget.2.1 80 = .ok (.ireturn, 1) := by decide +kernel
theorem d_Ma_goesToTarget_81 : decode m_Ma_goesToTarget.2.1 81 = .ok (.aload_n 0, 1) := by decide +kernel
theorem d_Ma_goesToTarget_82 : decode m_Ma_goesToTarget.2.1 82 = .ok (.iload_n 2, 1) := by decide +kernel
theorem d_Ma_goesToTarget_83 : decode m_Ma_goesToTarget.2.1 83 = .ok (.sipush 159, 3) := by decide +kernel
theorem d_Ma_goesToTarget_86 : decode m_Ma_goesToTarget.2.1 86 = .ok (.isub, 1) := by decide +kernel
theorem d_Ma_goesToTarget_87 : decode m_Ma_goesToTarget.2.1 87 = .ok (.aload_n 1, 1) := by decide +kernel
theorem d_Ma_goesToTarget_88 : decode m_Ma_goesToTarget.2.1 88 = .ok (.invokevirtual 139, 3) := by decide +kernel
theorem d_Ma_goesToTarget_91 : decode m_Ma_goesToTarget.2.1 91 = .ok (.iload_n 3, 1) := by decide +kernel
theorem d_Ma_goesToTarget_92 : decode m_Ma_goesToTarget.2.1 92 = .ok (.invokevirtual 157, 3) := by decide +kernel
theorem d_Ma_goesToTarget_95 : decode m_Ma_goesToTarget.2.1 95 = .ok (.ireturn, 1) := by decide +kernel
theorem d_Ma_holds_0 : decode m_Ma_holds.2.1 0 = .ok (.iload_n 1, 1) := by decide +kernel
theorem d_Ma_holds_1 : decode m_Ma_holds.2.1 1 = .ok (.tableswitch 90 0 4 #[35, 46, 57, 68, 79], 35) := by decide +kernel
theorem d_Ma_holds_36 : decode m_Ma_holds.2.1 36 = .ok (.iload_n 2, 1) := by decide +kernel
theorem d_Ma_holds_37 : decode m_Ma_holds.2.1 37 = .ok (.iload_n 3, 1) := by decide +kernel
theorem d_Ma_holds_38 : decode m_Ma_holds.2.1 38 = .ok (.if_icmp .ne 7, 3) := by decide +kernel
theorem d_Ma_holds_41 : decode m_Ma_holds.2.1 41 = .ok (.iconst 1, 1) := by decide +kernel
theorem d_Ma_holds_42 : decode m_Ma_holds.2.1 42 = .ok (.goto 4, 3) := by decide +kernel
theorem d_Ma_holds_45 : decode m_Ma_holds.2.1 45 = .ok (.iconst 0, 1) := by decide +kernel
theorem d_Ma_holds_46 : decode m_Ma_holds.2.1 46 = .ok (.ireturn, 1) := by decide +kernel
theorem d_Ma_holds_47 : decode m_Ma_holds.2.1 47 = .ok (.iload_n 2, 1) := by decide +kernel
theorem d_Ma_holds_48 : decode m_Ma_holds.2.1 48 = .ok (.iload_n 3, 1) := by decide +kernel
theorem d_Ma_holds_49 : decode m_Ma_holds.2.1 49 = .ok (.if_icmp .eq 7, 3) := by decide +kernel
theorem d_Ma_holds_52 : decode m_Ma_holds.2.1 52 = .ok (.iconst 1, 1) := by decide +kernel
theorem d_Ma_holds_53 : decode m_Ma_holds.2.1 53 = .ok (.goto 4, 3) := by decide +kernel
theorem d_Ma_holds_56 : decode m_Ma_holds.2.1 56 = .ok (.iconst 0, 1) := by decide +kernel
theorem d_Ma_holds_57 : decode m_Ma_holds.2.1 57 = .ok (.ireturn, 1) := by decide +kernel
theorem d_Ma_holds_58 : decode m_Ma_holds.2.1 58 = .ok (.iload_n 2, 1) := by decide +kernel
theorem d_Ma_holds_59 : decode m_Ma_holds.2.1 59 = .ok (.iload_n 3, 1) := by decide +kernel
theorem d_Ma_holds_60 : decode m_Ma_holds.2.1 60 = .ok (.if_icmp .ge 7, 3) := by decide +kernel
theorem d_Ma_holds_63 : decode m_Ma_holds.2.1 63 = .ok (.iconst 1, 1) := by decide +kernel
theorem d_Ma_holds_64 : decode m_Ma_holds.2.1 64 = .ok (.goto 4, 3) := by decide +kernel
theorem d_Ma_holds_67 : decode m_Ma_holds.2.1 67 = .ok (.iconst 0, 1) := by decide +kernel
theorem d_Ma_holds_68 : decode m_Ma_holds.2.1 68 = .ok (.ireturn, 1) := by decide +kernel
theorem d_Ma_holds_69 : decode m_Ma_holds.2.1 69 = .ok (.iload_n 2, 1) := by decide +kernel
theorem d_Ma_holds_70 : decode m_Ma_holds.2.1 70 = .ok (.iload_n 3, 1) := by decide +kernel
theorem d_Ma_holds_71 : decode m_Ma_holds.2.1 71 = .ok (.if_icmp .lt 7, 3) := by decide +kernel
theorem d_Ma_holds_74 : decode m_Ma_holds.2.1 74 = .ok (.iconst 1, 1) := by decide +kernel
theorem d_Ma_holds_75 : decode m_Ma_holds.2.1 75 = .ok (.goto 4, 3) := by decide +kernel
theorem d_Ma_holds_78 : decode m_Ma_holds.2.1 78 = .ok (.iconst 0, 1) := by decide +kernel
theorem d_Ma_holds_79 : decode m_Ma_holds.2.1 79 = .ok (.ireturn, 1) := by decide +kernel
theorem d_Ma_holds_80 : decode m_Ma_holds.2.1 80 = .ok (.iload_n 2, 1) := by decide +kernel
theorem d_Ma_holds_81 : decode m_Ma_holds.2.1 81 = .ok (.iload_n 3, 1) := by decide +kernel
theorem d_Ma_holds_82 : decode m_Ma_holds.2.1 82 = .ok (.if_icmp .le 7, 3) := by decide +kernel
theorem d_Ma_holds_85 : decode m_Ma_holds.2.1 85 = .ok (.iconst 1, 1) := by decide +kernel
theorem d_Ma_holds_86 : decode m_Ma_holds.2.1 86 = .ok (.goto 4, 3) := by decide +kernel
theorem d_Ma_holds_89 : decode m_Ma_holds.2.1 89 = .ok (.iconst 0, 1) := by decide +kernel
theorem d_Ma_holds_90 : decode m_Ma_holds.2.1 90 = .ok (.ireturn, 1) := by decide +kernel
theorem d_Ma_holds_91 : decode m_Ma_holds.2.1 91 = .ok (.iload_n 2, 1) := by decide +kernel
theorem d_Ma_holds_92 : decode m_Ma_holds.2.1 92 = .ok (.iload_n 3, 1) := by decide +kernel
theorem d_Ma_holds_93 : decode m_Ma_holds.2.1 93 = .ok (.if_icmp .gt 7, 3) := by decide +kernel
theorem d_Ma_holds_96 : decode m_Ma_holds.2.1 96 = .ok (.iconst 1, 1) := by decide +kernel
theorem d_Ma_holds_97 : decode m_Ma_holds.2.1 97 = .ok (.goto 4, 3) := by decide +kernel
theorem d_Ma_holds_100 : decode m_Ma_holds.2.1 100 = .ok (.iconst 0, 1) := by decide +kernel
theorem d_Ma_holds_101 : decode m_Ma_holds.2.1 101 = .ok (.ireturn, 1) := by decide +kernel
theorem d_Ma_doWithOperand_0 : decode m_Ma_doWithOperand.2.1 0 = .ok (.aload_n 2, 1) := by decide +kernel
theorem d_Ma_doWithOperand_1 : decode m_Ma_doWithOperand.2.1 1 = .ok (.aload_n 3, 1) := by decide +kernel
theorem d_Ma_doWithOperand_2 : decode m_Ma_doWithOperand.2.1 2 = .ok (.iload 4, 2) := by decide +kernel
theorem d_Ma_doWithOperand_4 : decode m_Ma_doWithOperand.2.1 4 = .ok (.invokevirtual 105, 3) := by decide +kernel
theorem d_Ma_doWithOperand_7 : decode m_Ma_doWithOperand.2.1 7 = .ok (.istore 5, 2) := by decide +kernel
theorem d_Ma_doWithOperand_9 : decode m_Ma_doWithOperand.2.1 9 = .ok (.aload_n 2, 1) := by decide +kernel
theorem d_Ma_doWithOperand_10 : decode m_Ma_doWithOperand.2.1 10 = .ok (.aload_n 3, 1) := by decide +kernel
theorem d_Ma_doWithOperand_11 : decode m_Ma_doWithOperand.2.1 11 = .ok (.iload 4, 2) := by decide +kernel
theorem d_Ma_doWithOperand_13 : decode m_Ma_doWithOperand.2.1 13 = .ok (.invokevirtual 86, 3) := by decide +kernel
theorem d_Ma_doWithOperand_16 : decode m_Ma_doWithOperand.2.1 16 = .ok (.lookupswitch 144 #[(16, 68), (18, 85), (21, 99), (25, 99), (54, 108), (58, 108), (132, 117)], 68) := by decide +kernel
theorem d_Ma_doWithOperand_84 : decode m_Ma_doWithOperand.2.1 84 = .ok (.aload_n 1, 1) := by decide +kernel
theorem d_Ma_doWithOperand_85 : decode m_Ma_doWithOperand.2.1 85 = .ok (.iconst 1, 1) := by decide +kernel
theorem d_Ma_doWithOperand_86 : decode m_Ma_doWithOperand.2.1 86 = .ok (.aload_n 2, 1) := by decide +kernel
theorem d_Ma_doWithOperand_87 : decode m_Ma_doWithOperand.2.1 87 = .ok (.aload_n 3, 1) := by decide +kernel
theorem d_Ma_doWithOperand_88 : decode m_Ma_doWithOperand.2.1 88 = .ok (.iload 4, 2) := by decide +kernel
theorem d_Ma_doWithOperand_90 : decode m_Ma_doWithOperand.2.1 90 = .ok (.iconst 1, 1) := by decide +kernel
theorem d_Ma_doWithOperand_91 : decode m_Ma_doWithOperand.2.1 91 = .ok (.iadd, 1) := by decide +kernel
theorem d_Ma_doWithOperand_92 : decode m_Ma_doWithOperand.2.1 92 = .ok (.invokevirtual 161, 3) := by decide +kernel
theorem d_Ma_doWithOperand_95 : decode m_Ma_doWithOperand.2.1 95 = .ok (.invokevirtual 153, 3) := by decide +kernel
theorem d_Ma_doWithOperand_98 : decode m_Ma_doWithOperand.2.1 98 = .ok (.goto 62, 3) := by decide +kernel
theorem d_Ma_doWithOperand_101 : decode m_Ma_doWithOperand.2.1 101 = .ok (.aload_n 1, 1) := by decide +kernel
theorem d_Ma_doWithOperand_102 : decode m_Ma_doWithOperand.2.1 102 = .ok (.iconst 1, 1) := by decide +kernel
theorem d_Ma_doWithOperand_103 : decode m_Ma_doWithOperand.2.1 103 = .ok (.aload_n 2, 1) := by decide +kernel
theorem d_Ma_doWithOperand_104 : decode m_Ma_doWithOperand.2.1 104 = .ok (.iload 5, 2) := by decide +kernel
theorem d_Ma_doWithOperand_106 : decode m_Ma_doWithOperand.2.1 106 = .ok (.invokevirtual 164, 3) := by decide +kernel
theorem d_Ma_doWithOperand_109 : decode m_Ma_doWithOperand.2.1 109 = .ok (.invokevirtual 153, 3) := by decide +kernel
theorem d_Ma_doWithOperand_112 : decode m_Ma_doWithOperand.2.1 112 = .ok (.goto 48, 3) := by decide +kernel
theorem d_Ma_doWithOperand_115 : decode m_Ma_doWithOperand.2.1 115 = .ok (.aload_n 1, 1) := by decide +kernel
theorem d_Ma_doWithOperand_116 : decode m_Ma_doWithOperand.2.1 116 = .ok (.iload 5, 2) := by decide +kernel
theorem d_Ma_doWithOperand_118 : decode m_Ma_doWithOperand.2.1 118 = .ok (.invokevirtual 167, 3) := by decide +kernel
theorem d_Ma_doWithOperand_121 : decode m_Ma_doWithOperand.2.1 121 = .ok (.goto 39, 3) := by decide +kernel
theorem d_Ma_doWithOperand_124 : decode m_Ma_doWithOperand.2.1 124 = .ok (.aload_n 1, 1) := by decide +kernel
theorem d_Ma_doWithOperand_125 : decode m_Ma_doWithOperand.2.1 125 = .ok (.iload 5, 2) := by decide +kernel
theorem d_Ma_doWithOperand_127 : decode m_Ma_doWithOperand.2.1 127 = .ok (.invokevirtual 170, 3) := by decide +kernel
theorem d_Ma_doWithOperand_130 : decode m_Ma_doWithOperand.2.1 130 = .ok (.goto 30, 3) := by decide +kernel
theorem d_Ma_doWithOperand_133 : decode m_Ma_doWithOperand.2.1 133 = .ok (.aload_n 1, 1) := by decide +kernel
theorem d_Ma_doWithOperand_134 : decode m_Ma_doWithOperand.2.1 134 = .ok (.iload 5, 2) := by decide +kernel
theorem d_Ma_doWithOperand_136 : decode m_Ma_doWithOperand.2.1 136 = .ok (.iconst 1, 1) := by decide +kernel
theorem d_Ma_doWithOperand_137 : decode m_Ma_doWithOperand.2.1 137 = .ok (.aload_n 1, 1) := by decide +kernel
theorem d_Ma_doWithOperand_138 : decode m_Ma_doWithOperand.2.1 138 = .ok (.getfield 173, 3) := by decide +kernel
theorem d_Ma_doWithOperand_141 : decode m_Ma_doWithOperand.2.1 141 = .ok (.iload 5, 2) := by decide +kernel
theorem d_Ma_doWithOperand_143 : decode m_Ma_doWithOperand.2.1 143 = .ok (.iaload, 1) := by decide +kernel
theorem d_Ma_doWithOperand_144 : decode m_Ma_doWithOperand.2.1 144 = .ok (.aload_n 2, 1) := by decide +kernel
theorem d_Ma_doWithOperand_145 : decode m_Ma_doWithOperand.2.1 145 = .ok (.aload_n 3, 1) := by decide +kernel
theorem d_Ma_doWithOperand_146 : decode m_Ma_doWithOperand.2.1 146 = .ok (.iload 4, 2) := by decide +kernel
theorem d_Ma_doWithOperand_148 : decode m_Ma_doWithOperand.2.1 148 = .ok (.iconst 2, 1) := by decide +kernel
theorem d_Ma_doWithOperand_149 : decode m_Ma_doWithOperand.2.1 149 = .ok (.iadd, 1) := by decide +kernel
theorem d_Ma_doWithOperand_150 : decode m_Ma_doWithOperand.2.1 150 = .ok (.invokevirtual 161, 3) := by decide +kernel
theorem d_Ma_doWithOperand_153 : decode m_Ma_doWithOperand.2.1 153 = .ok (.iadd, 1) := by decide +kernel
theorem d_Ma_doWithOperand_154 : decode m_Ma_doWithOperand.2.1 154 = .ok (.invokevirtual 67, 3) := by decide +kernel
theorem d_Ma_doWithOperand_157 : decode m_Ma_doWithOperand.2.1 157 = .ok (.goto 3, 3) := by decide +kernel
theorem d_Ma_doWithOperand_160 : decode m_Ma_doWithOperand.2.1 160 = .ok (.return_, 1) := by decide +kernel
theorem d_Ma_doAlone_0 : decode m_Ma_doAlone.2.1 0 = .ok (.iload_n 2, 1) := by decide +kernel
theorem d_Ma_doAlone_1 : decode m_Ma_doAlone.2.1 1 = .ok (.lookupswitch 195 #[(1, 83), (46, 160), (79, 187), (87, 92), (89, 100), (95, 107), (116, 114), (188, 127), (190, 143)], 83) := by decide +kernel
theorem d_Ma_doAlone_84 : decode m_Ma_doAlone.2.1 84 = .ok (.aload_n 1, 1) := by decide +kernel
theorem d_Ma_doAlone_85 : decode m_Ma_doAlone.2.1 85 = .ok (.iconst 3, 1) := by decide +kernel
theorem d_Ma_doAlone_86 : decode m_Ma_doAlone.2.1 86 = .ok (.iconst 0, 1) := by decide +kernel
theorem d_Ma_doAlone_87 : decode m_Ma_doAlone.2.1 87 = .ok (.invokevirtual 153, 3) := by decide +kernel
theorem d_Ma_doAlone_90 : decode m_Ma_doAlone.2.1 90 = .ok (.goto 128, 3) := by decide +kernel
theorem d_Ma_doAlone_93 : decode m_Ma_doAlone.2.1 93 = .ok (.aload_n 1, 1) := by decide +kernel
theorem d_Ma_doAlone_94 : decode m_Ma_doAlone.2.1 94 = .ok (.invokevirtual 139, 3) := by decide +kernel
theorem d_Ma_doAlone_97 : decode m_Ma_doAlone.2.1 97 = .ok (.pop, 1) := by decide +kernel
theorem d_Ma_doAlone_98 : decode m_Ma_doAlone.2.1 98 = .ok (.goto 120, 3) := by decide +kernel
theorem d_Ma_doAlone_101 : decode m_Ma_doAlone.2.1 101 = .ok (.aload_n 1, 1) := by decide +kernel
theorem d_Ma_doAlone_102 : decode m_Ma_doAlone.2.1 102 = .ok (.invokevirtual 176, 3) := by decide +kernel
theorem d_Ma_doAlone_105 : decode m_Ma_doAlone.2.1 105 = .ok (.goto 113, 3) := by decide +kernel
theorem d_Ma_doAlone_108 : decode m_Ma_doAlone.2.1 108 = .ok (.aload_n 1, 1) := by decide +kernel
theorem d_Ma_doAlone_109 : decode m_Ma_doAlone.2.1 109 = .ok (.invokevirtual 179, 3) := by decide +kernel
theorem d_Ma_doAlone_112 : decode m_Ma_doAlone.2.1 112 = .ok (.goto 106, 3) := by decide +kernel
theorem d_Ma_doAlone_115 : decode m_Ma_doAlone.2.1 115 = .ok (.aload_n 1, 1) := by decide +kernel
theorem d_Ma_doAlone_116 : decode m_Ma_doAlone.2.1 116 = .ok (.iconst 1, 1) := by decide +kernel
theorem d_Ma_doAlone_117 : decode m_Ma_doAlone.2.1 117 = .ok (.aload_n 1, 1) := by decide +kernel
theorem d_Ma_doAlone_118 : decode m_Ma_doAlone.2.1 118 = .ok (.invokevirtual 139, 3) := by decide +kernel
theorem d_Ma_doAlone_121 : decode m_Ma_doAlone.2.1 121 = .ok (.ineg, 1) := by decide +kernel
theorem d_Ma_doAlone_122 : decode m_Ma_doAlone.2.1 122 = .ok (.invokevirtual 153, 3) := by decide +kernel
theorem d_Ma_doAlone_125 : decode m_Ma_doAlone.2.1 125 = .ok (.goto 93, 3) := by decide +kernel
theorem d_Ma_doAlone_128 : decode m_Ma_doAlone.2.1 128 = .ok (.aload_n 1, 1) := by decide +kernel
theorem d_Ma_doAlone_129 : decode m_Ma_doAlone.2.1 129 = .ok (.iconst 2, 1) := by decide +kernel
theorem d_Ma_doAlone_130 : decode m_Ma_doAlone.2.1 130 = .ok (.aload_n 0, 1) := by decide +kernel
theorem d_Ma_doAlone_131 : decode m_Ma_doAlone.2.1 131 = .ok (.aload_n 1, 1) := by decide +kernel
theorem d_Ma_doAlone_132 : decode m_Ma_doAlone.2.1 132 = .ok (.invokevirtual 139, 3) := by decide +kernel
theorem d_Ma_doAlone_135 : decode m_Ma_doAlone.2.1 135 = .ok (.invokevirtual 71, 3) := by decide +kernel
theorem d_Ma_doAlone_138 : decode m_Ma_doAlone.2.1 138 = .ok (.invokevirtual 153, 3) := by decide +kernel
theorem d_Ma_doAlone_141 : decode m_Ma_doAlone.2.1 141 = .ok (.goto 77, 3) := by decide +kernel
theorem d_Ma_doAlone_144 : decode m_Ma_doAlone.2.1 144 = .ok (.aload_n 1, 1) := by decide +kernel
theorem d_Ma_doAlone_145 : decode m_Ma_doAlone.2.1 145 = .ok (.iconst 1, 1) := by decide +kernel
theorem d_Ma_doAlone_146 : decode m_Ma_doAlone.2.1 146 = .ok (.aload_n 0, 1) := by decide +kernel
theorem d_Ma_doAlone_147 : decode m_Ma_doAlone.2.1 147 = .ok (.getfield 28, 3) := by decide +kernel
theorem d_Ma_doAlone_150 : decode m_Ma_doAlone.2.1 150 = .ok (.aload_n 1, 1) := by decide +kernel
theorem d_Ma_doAlone_151 : decode m_Ma_doAlone.2.1 151 = .ok (.invokevirtual 139, 3) := by decide +kernel
theorem d_Ma_doAlone_154 : decode m_Ma_doAlone.2.1 154 = .ok (.iaload, 1) := by decide +kernel
theorem d_Ma_doAlone_155 : decode m_Ma_doAlone.2.1 155 = .ok (.invokevirtual 153, 3) := by decide +kernel
theorem d_Ma_doAlone_158 : decode m_Ma_doAlone.2.1 158 = .ok (.goto 60, 3) := by decide +kernel
theorem d_Ma_doAlone_161 : decode m_Ma_doAlone.2.1 161 = .ok (.aload_n 1, 1) := by decide +kernel
theorem d_Ma_doAlone_162 : decode m_Ma_doAlone.2.1 162 = .ok (.invokevirtual 139, 3) := by decide +kernel
theorem d_Ma_doAlone_165 : decode m_Ma_doAlone.2.1 165 = .ok (.istore_n 3, 1) := by decide +kernel
theorem d_Ma_doAlone_166 : decode m_Ma_doAlone.2.1 166 = .ok (.aload_n 1, 1) := by decide +kernel
theorem d_Ma_doAlone_167 : decode m_Ma_doAlone.2.1 167 = .ok (.iconst 1, 1) := by decide +kernel
theorem d_Ma_doAlone_168 : decode m_Ma_doAlone.2.1 168 = .ok (.aload_n 0, 1) := by decide +kernel
theorem d_Ma_doAlone_169 : decode m_Ma_doAlone.2.1 169 = .ok (.getfield 25, 3) := by decide +kernel
theorem d_Ma_doAlone_172 : decode m_Ma_doAlone.2.1 172 = .ok (.aload_n 1, 1) := by decide +kernel
theorem d_Ma_doAlone_173 : decode m_Ma_doAlone.2.1 173 = .ok (.invokevirtual 139, 3) := by decide +kernel
theorem d_Ma_doAlone_176 : decode m_Ma_doAlone.2.1 176 = .ok (.bipush 8, 2) := by decide +kernel
theorem d_Ma_doAlone_178 : decode m_Ma_doAlone.2.1 178 = .ok (.imul, 1) := by decide +kernel
theorem d_Ma_doAlone_179 : decode m_Ma_doAlone.2.1 179 = .ok (.iload_n 3, 1) := by decide +kernel
theorem d_Ma_doAlone_180 : decode m_Ma_doAlone.2.1 180 = .ok (.iadd, 1) := by decide +kernel
theorem d_Ma_doAlone_181 : decode m_Ma_doAlone.2.1 181 = .ok (.iaload, 1) := by decide +kernel
theorem d_Ma_doAlone_182 : decode m_Ma_doAlone.2.1 182 = .ok (.invokevirtual 153, 3) := by decide +kernel
theorem d_Ma_doAlone_185 : decode m_Ma_doAlone.2.1 185 = .ok (.goto 33, 3) := by decide +kernel
theorem d_Ma_doAlone_188 : decode m_Ma_doAlone.2.1 188 = .ok (.aload_n 0, 1) := by decide +kernel
theorem d_Ma_doAlone_189 : decode m_Ma_doAlone.2.1 189 = .ok (.aload_n 1, 1) := by decide +kernel
theorem d_Ma_doAlone_190 : decode m_Ma_doAlone.2.1 190 = .ok (.invokevirtual 182, 3) := by decide +kernel
theorem d_Ma_doAlone_193 : decode m_Ma_doAlone.2.1 193 = .ok (.goto 25, 3) := by decide +kernel
theorem d_Ma_doAlone_196 : decode m_Ma_doAlone.2.1 196 = .ok (.aload_n 1, 1) := by decide +kernel
theorem d_Ma_doAlone_197 : decode m_Ma_doAlone.2.1 197 = .ok (.invokevirtual 139, 3) := by decide +kernel
theorem d_Ma_doAlone_200 : decode m_Ma_doAlone.2.1 200 = .ok (.istore 4, 2) := by decide +kernel
theorem d_Ma_doAlone_202 : decode m_Ma_doAlone.2.1 202 = .ok (.aload_n 1, 1) := by decide +kernel
theorem d_Ma_doAlone_203 : decode m_Ma_doAlone.2.1 203 = .ok (.iconst 1, 1) := by decide +kernel
theorem d_Ma_doAlone_204 : decode m_Ma_doAlone.2.1 204 = .ok (.aload_n 0, 1) := by decide +kernel
theorem d_Ma_doAlone_205 : decode m_Ma_doAlone.2.1 205 = .ok (.iload_n 2, 1) := by decide +kernel
theorem d_Ma_doAlone_206 : decode m_Ma_doAlone.2.1 206 = .ok (.aload_n 1, 1) := by decide +kernel
theorem d_Ma_doAlone_207 : decode m_Ma_doAlone.2.1 207 = .ok (.invokevirtual 139, 3) := by decide +kernel
theorem d_Ma_doAlone_210 : decode m_Ma_doAlone.2.1 210 = .ok (.iload 4, 2) := by decide +kernel
theorem d_Ma_doAlone_212 : decode m_Ma_doAlone.2.1 212 = .ok (.invokevirtual 186, 3) := by decide +kernel
theorem d_Ma_doAlone_215 : decode m_Ma_doAlone.2.1 215 = .ok (.invokevirtual 153, 3) := by decide +kernel
theorem d_Ma_doAlone_218 : decode m_Ma_doAlone.2.1 218 = .ok (.return_, 1) := by decide +kernel
theorem d_Ma_storeElement_0 : decode m_Ma_storeElement.2.1 0 = .ok (.aload_n 1, 1) := by decide +kernel
theorem d_Ma_storeElement_1 : decode m_Ma_storeElement.2.1 1 = .ok (.invokevirtual 139, 3) := by decide +kernel
theorem d_Ma_storeElement_4 : decode m_Ma_storeElement.2.1 4 = .ok (.istore_n 2, 1) := by decide +kernel
theorem d_Ma_storeElement_5 : decode m_Ma_storeElement.2.1 5 = .ok (.aload_n 1, 1) := by decide +kernel
theorem d_Ma_storeElement_6 : decode m_Ma_storeElement.2.1 6 = .ok (.invokevirtual 139, 3) := by decide +kernel
theorem d_Ma_storeElement_9 : decode m_Ma_storeElement.2.1 9 = .ok (.istore_n 3, 1) := by decide +kernel
theorem d_Ma_storeElement_10 : decode m_Ma_storeElement.2.1 10 = .ok (.aload_n 0, 1) := by decide +kernel
theorem d_Ma_storeElement_11 : decode m_Ma_storeElement.2.1 11 = .ok (.getfield 25, 3) := by decide +kernel
theorem d_Ma_storeElement_14 : decode m_Ma_storeElement.2.1 14 = .ok (.aload_n 1, 1) := by decide +kernel
theorem d_Ma_storeElement_15 : decode m_Ma_storeElement.2.1 15 = .ok (.invokevirtual 139, 3) := by decide +kernel
theorem d_Ma_storeElement_18 : decode m_Ma_storeElement.2.1 18 = .ok (.bipush 8, 2) := by decide +kernel
theorem d_Ma_storeElement_20 : decode m_Ma_storeElement.2.1 20 = .ok (.imul, 1) := by decide +kernel
theorem d_Ma_storeElement_21 : decode m_Ma_storeElement.2.1 21 = .ok (.iload_n 3, 1) := by decide +kernel
theorem d_Ma_storeElement_22 : decode m_Ma_storeElement.2.1 22 = .ok (.iadd, 1) := by decide +kernel
theorem d_Ma_storeElement_23 : decode m_Ma_storeElement.2.1 23 = .ok (.iload_n 2, 1) := by decide +kernel
theorem d_Ma_storeElement_24 : decode m_Ma_storeElement.2.1 24 = .ok (.iastore, 1) := by decide +kernel
theorem d_Ma_storeElement_25 : decode m_Ma_storeElement.2.1 25 = .ok (.return_, 1) := by decide +kernel
theorem d_Ma_reckoned_0 : decode m_Ma_reckoned.2.1 0 = .ok (.iload_n 1, 1) := by decide +kernel
theorem d_Ma_reckoned_1 : decode m_Ma_reckoned.2.1 1 = .ok (.lookupswitch 47 #[(96, 35), (100, 39), (104, 43)], 35) := by decide +kernel
theorem d_Ma_reckoned_36 : decode m_Ma_reckoned.2.1 36 = .ok (.iload_n 2, 1) := by decide +kernel
theorem d_Ma_reckoned_37 : decode m_Ma_reckoned.2.1 37 = .ok (.iload_n 3, 1) := by decide +kernel
theorem d_Ma_reckoned_38 : decode m_Ma_reckoned.2.1 38 = .ok (.iadd, 1) := by decide +kernel
theorem d_Ma_reckoned_39 : decode m_Ma_reckoned.2.1 39 = .ok (.ireturn, 1) := by decide +kernel
theorem d_Ma_reckoned_40 : decode m_Ma_reckoned.2.1 40 = .ok (.iload_n 2, 1) := by decide +kernel
theorem d_Ma_reckoned_41 : decode m_Ma_reckoned.2.1 41 = .ok (.iload_n 3, 1) := by decide +kernel
theorem d_Ma_reckoned_42 : decode m_Ma_reckoned.2.1 42 = .ok (.isub, 1) := by decide +kernel
theorem d_Ma_reckoned_43 : decode m_Ma_reckoned.2.1 43 = .ok (.ireturn, 1) := by decide +kernel
theorem d_Ma_reckoned_44 : decode m_Ma_reckoned.2.1 44 = .ok (.iload_n 2, 1) := by decide +kernel
theorem d_Ma_reckoned_45 : decode m_Ma_reckoned.2.1 45 = .ok (.iload_n 3, 1) := by decide +kernel
theorem d_Ma_reckoned_46 : decode m_Ma_reckoned.2.1 46 = .ok (.imul, 1) := by decide +kernel
theorem d_Ma_reckoned_47 : decode m_Ma_reckoned.2.1 47 = .ok (.ireturn, 1) := by decide +kernel
theorem d_Ma_reckoned_48 : decode m_Ma_reckoned.2.1 48 = .ok (.iload_n 3, 1) := by decide +kernel
theorem d_Ma_reckoned_49 : decode m_Ma_reckoned.2.1 49 = .ok (.ifCond .ne 7, 3) := by decide +kernel
theorem d_Ma_reckoned_52 : decode m_Ma_reckoned.2.1 52 = .ok (.iconst 0, 1) := by decide +kernel
theorem d_Ma_reckoned_53 : decode m_Ma_reckoned.2.1 53 = .ok (.goto 6, 3) := by decide +kernel
theorem d_Ma_reckoned_56 : decode m_Ma_reckoned.2.1 56 = .ok (.iload_n 2, 1) := by decide +kernel
theorem d_Ma_reckoned_57 : decode m_Ma_reckoned.2.1 57 = .ok (.iload_n 3, 1) := by decide +kernel
theorem d_Ma_reckoned_58 : decode m_Ma_reckoned.2.1 58 = .ok (.idiv, 1) := by decide +kernel
theorem d_Ma_reckoned_59 : decode m_Ma_reckoned.2.1 59 = .ok (.ireturn, 1) := by decide +kernel
theorem d_Pr_takeFile_0 : decode m_Pr_takeFile.2.1 0 = .ok (.aload_n 1, 1) := by decide +kernel
theorem d_Pr_takeFile_1 : decode m_Pr_takeFile.2.1 1 = .ok (.iconst 0, 1) := by decide +kernel
theorem d_Pr_takeFile_2 : decode m_Pr_takeFile.2.1 2 = .ok (.aload_n 0, 1) := by decide +kernel
theorem d_Pr_takeFile_3 : decode m_Pr_takeFile.2.1 3 = .ok (.getfield 9, 3) := by decide +kernel
theorem d_Pr_takeFile_6 : decode m_Pr_takeFile.2.1 6 = .ok (.iconst 0, 1) := by decide +kernel
theorem d_Pr_takeFile_7 : decode m_Pr_takeFile.2.1 7 = .ok (.iload_n 2, 1) := by decide +kernel
theorem d_Pr_takeFile_8 : decode m_Pr_takeFile.2.1 8 = .ok (.invokestatic 22, 3) := by decide +kernel
theorem d_Pr_takeFile_11 : decode m_Pr_takeFile.2.1 11 = .ok (.aload_n 0, 1) := by decide +kernel
theorem d_Pr_takeFile_12 : decode m_Pr_takeFile.2.1 12 = .ok (.iload_n 2, 1) := by decide +kernel
theorem d_Pr_takeFile_13 : decode m_Pr_takeFile.2.1 13 = .ok (.putfield 28, 3) := by decide +kernel
theorem d_Pr_takeFile_16 : decode m_Pr_takeFile.2.1 16 = .ok (.return_, 1) := by decide +kernel
theorem d_Pr_constant_0 : decode m_Pr_constant.2.1 0 = .ok (.aload_n 0, 1) := by decide +kernel
theorem d_Pr_constant_1 : decode m_Pr_constant.2.1 1 = .ok (.getfield 32, 3) := by decide +kernel
theorem d_Pr_constant_4 : decode m_Pr_constant.2.1 4 = .ok (.iconst 4, 1) := by decide +kernel
theorem d_Pr_constant_5 : decode m_Pr_constant.2.1 5 = .ok (.iload_n 1, 1) := by decide +kernel
theorem d_Pr_constant_6 : decode m_Pr_constant.2.1 6 = .ok (.imul, 1) := by decide +kernel
theorem d_Pr_constant_7 : decode m_Pr_constant.2.1 7 = .ok (.iadd, 1) := by decide +kernel
theorem d_Pr_constant_8 : decode m_Pr_constant.2.1 8 = .ok (.istore_n 2, 1) := by decide +kernel
theorem d_Pr_constant_9 : decode m_Pr_constant.2.1 9 = .ok (.aload_n 0, 1) := by decide +kernel
theorem d_Pr_constant_10 : decode m_Pr_constant.2.1 10 = .ok (.getfield 9, 3) := by decide +kernel
theorem d_Pr_constant_13 : decode m_Pr_constant.2.1 13 = .ok (.iload_n 2, 1) := by decide +kernel
theorem d_Pr_constant_14 : decode m_Pr_constant.2.1 14 = .ok (.iaload, 1) := by decide +kernel
theorem d_Pr_constant_15 : decode m_Pr_constant.2.1 15 = .ok (.bipush 24, 2) := by decide +kernel
theorem d_Pr_constant_17 : decode m_Pr_constant.2.1 17 = .ok (.ishl, 1) := by decide +kernel
theorem d_Pr_constant_18 : decode m_Pr_constant.2.1 18 = .ok (.aload_n 0, 1) := by decide +kernel
theorem d_Pr_constant_19 : decode m_Pr_constant.2.1 19 = .ok (.getfield 9, 3) := by decide +kernel
theorem d_Pr_constant_22 : decode m_Pr_constant.2.1 22 = .ok (.iload_n 2, 1) := by decide +kernel
theorem d_Pr_constant_23 : decode m_Pr_constant.2.1 23 = .ok (.iconst 1, 1) := by decide +kernel
theorem d_Pr_constant_24 : decode m_Pr_constant.2.1 24 = .ok (.iadd, 1) := by decide +kernel
theorem d_Pr_constant_25 : decode m_Pr_constant.2.1 25 = .ok (.iaload, 1) := by decide +kernel
theorem d_Pr_constant_26 : decode m_Pr_constant.2.1 26 = .ok (.bipush 16, 2) := by decide +kernel
theorem d_Pr_constant_28 : decode m_Pr_constant.2.1 28 = .ok (.ishl, 1) := by decide +kernel
theorem d_Pr_constant_29 : decode m_Pr_constant.2.1 29 = .ok (.ior, 1) := by decide +kernel
theorem d_Pr_constant_30 : decode m_Pr_constant.2.1 30 = .ok (.aload_n 0, 1) := by decide +kernel
theorem d_Pr_constant_31 : decode m_Pr_constant.2.1 31 = .ok (.getfield 9, 3) := by decide +kernel
theorem d_Pr_constant_34 : decode m_Pr_constant.2.1 34 = .ok (.iload_n 2, 1) := by decide +kernel
theorem d_Pr_constant_35 : decode m_Pr_constant.2.1 35 = .ok (.iconst 2, 1) := by decide +kernel
theorem d_Pr_constant_36 : decode m_Pr_constant.2.1 36 = .ok (.iadd, 1) := by decide +kernel
theorem d_Pr_constant_37 : decode m_Pr_constant.2.1 37 = .ok (.iaload, 1) := by decide +kernel
theorem d_Pr_constant_38 : decode m_Pr_constant.2.1 38 = .ok (.bipush 8, 2) := by decide +kernel
theorem d_Pr_constant_40 : decode m_Pr_constant.2.1 40 = .ok (.ishl, 1) := by decide +kernel
theorem d_Pr_constant_41 : decode m_Pr_constant.2.1 41 = .ok (.ior, 1) := by decide +kernel
theorem d_Pr_constant_42 : decode m_Pr_constant.2.1 42 = .ok (.aload_n 0, 1) := by decide +kernel
theorem d_Pr_constant_43 : decode m_Pr_constant.2.1 43 = .ok (.getfield 9, 3) := by decide +kernel
theorem d_Pr_constant_46 : decode m_Pr_constant.2.1 46 = .ok (.iload_n 2, 1) := by decide +kernel
theorem d_Pr_constant_47 : decode m_Pr_constant.2.1 47 = .ok (.iconst 3, 1) := by decide +kernel
theorem d_Pr_constant_48 : decode m_Pr_constant.2.1 48 = .ok (.iadd, 1) := by decide +kernel
theorem d_Pr_constant_49 : decode m_Pr_constant.2.1 49 = .ok (.iaload, 1) := by decide +kernel
theorem d_Pr_constant_50 : decode m_Pr_constant.2.1 50 = .ok (.ior, 1) := by decide +kernel
theorem d_Pr_constant_51 : decode m_Pr_constant.2.1 51 = .ok (.ireturn, 1) := by decide +kernel
theorem d_Pr_parameterType_0 : decode m_Pr_parameterType.2.1 0 = .ok (.aload_n 0, 1) := by decide +kernel
theorem d_Pr_parameterType_1 : decode m_Pr_parameterType.2.1 1 = .ok (.getfield 9, 3) := by decide +kernel
theorem d_Pr_parameterType_4 : decode m_Pr_parameterType.2.1 4 = .ok (.aload_n 1, 1) := by decide +kernel
theorem d_Pr_parameterType_5 : decode m_Pr_parameterType.2.1 5 = .ok (.getfield 35, 3) := by decide +kernel
theorem d_Pr_parameterType_8 : decode m_Pr_parameterType.2.1 8 = .ok (.iload_n 2, 1) := by decide +kernel
theorem d_Pr_parameterType_9 : decode m_Pr_parameterType.2.1 9 = .ok (.iadd, 1) := by decide +kernel
theorem d_Pr_parameterType_10 : decode m_Pr_parameterType.2.1 10 = .ok (.iaload, 1) := by decide +kernel
theorem d_Pr_parameterType_11 : decode m_Pr_parameterType.2.1 11 = .ok (.ireturn, 1) := by decide +kernel
theorem d_Pr_code_0 : decode m_Pr_code.2.1 0 = .ok (.aload_n 0, 1) := by decide +kernel
theorem d_Pr_code_1 : decode m_Pr_code.2.1 1 = .ok (.getfield 9, 3) := by decide +kernel
theorem d_Pr_code_4 : decode m_Pr_code.2.1 4 = .ok (.aload_n 1, 1) := by decide +kernel
theorem d_Pr_code_5 : decode m_Pr_code.2.1 5 = .ok (.getfield 38, 3) := by decide +kernel
theorem d_Pr_code_8 : decode m_Pr_code.2.1 8 = .ok (.iload_n 2, 1) := by decide +kernel
theorem d_Pr_code_9 : decode m_Pr_code.2.1 9 = .ok (.iadd, 1) := by decide +kernel
theorem d_Pr_code_10 : decode m_Pr_code.2.1 10 = .ok (.iaload, 1) := by decide +kernel
theorem d_Pr_code_11 : decode m_Pr_code.2.1 11 = .ok (.ireturn, 1) := by decide +kernel
theorem d_Pr_operand_0 : decode m_Pr_operand.2.1 0 = .ok (.aload_n 0, 1) := by decide +kernel
theorem d_Pr_operand_1 : decode m_Pr_operand.2.1 1 = .ok (.getfield 9, 3) := by decide +kernel
theorem d_Pr_operand_4 : decode m_Pr_operand.2.1 4 = .ok (.aload_n 1, 1) := by decide +kernel
theorem d_Pr_operand_5 : decode m_Pr_operand.2.1 5 = .ok (.getfield 38, 3) := by decide +kernel
theorem d_Pr_operand_8 : decode m_Pr_operand.2.1 8 = .ok (.iload_n 2, 1) := by decide +kernel
theorem d_Pr_operand_9 : decode m_Pr_operand.2.1 9 = .ok (.iadd, 1) := by decide +kernel
theorem d_Pr_operand_10 : decode m_Pr_operand.2.1 10 = .ok (.iconst 1, 1) := by decide +kernel
theorem d_Pr_operand_11 : decode m_Pr_operand.2.1 11 = .ok (.iadd, 1) := by decide +kernel
theorem d_Pr_operand_12 : decode m_Pr_operand.2.1 12 = .ok (.iaload, 1) := by decide +kernel
theorem d_Pr_operand_13 : decode m_Pr_operand.2.1 13 = .ok (.ireturn, 1) := by decide +kernel
theorem d_Pr_signedByte_0 : decode m_Pr_signedByte.2.1 0 = .ok (.aload_n 0, 1) := by decide +kernel
theorem d_Pr_signedByte_1 : decode m_Pr_signedByte.2.1 1 = .ok (.aload_n 1, 1) := by decide +kernel
theorem d_Pr_signedByte_2 : decode m_Pr_signedByte.2.1 2 = .ok (.iload_n 2, 1) := by decide +kernel
theorem d_Pr_signedByte_3 : decode m_Pr_signedByte.2.1 3 = .ok (.invokevirtual 41, 3) := by decide +kernel
theorem d_Pr_signedByte_6 : decode m_Pr_signedByte.2.1 6 = .ok (.istore_n 3, 1) := by decide +kernel
theorem d_Pr_signedByte_7 : decode m_Pr_signedByte.2.1 7 = .ok (.iload_n 3, 1) := by decide +kernel
theorem d_Pr_signedByte_8 : decode m_Pr_signedByte.2.1 8 = .ok (.sipush 128, 3) := by decide +kernel
theorem d_Pr_signedByte_11 : decode m_Pr_signedByte.2.1 11 = .ok (.if_icmp .lt 11, 3) := by decide +kernel
theorem d_Pr_signedByte_14 : decode m_Pr_signedByte.2.1 14 = .ok (.iload_n 3, 1) := by decide +kernel
theorem d_Pr_signedByte_15 : decode m_Pr_signedByte.2.1 15 = .ok (.sipush 256, 3) := by decide +kernel
theorem d_Pr_signedByte_18 : decode m_Pr_signedByte.2.1 18 = .ok (.isub, 1) := by decide +kernel
theorem d_Pr_signedByte_19 : decode m_Pr_signedByte.2.1 19 = .ok (.goto 4, 3) := by decide +kernel
theorem d_Pr_signedByte_22 : decode m_Pr_signedByte.2.1 22 = .ok (.iload_n 3, 1) := by decide +kernel
theorem d_Pr_signedByte_23 : decode m_Pr_signedByte.2.1 23 = .ok (.ireturn, 1) := by decide +kernel
theorem d_Pr_target_0 : decode m_Pr_target.2.1 0 = .ok (.aload_n 0, 1) := by decide +kernel
theorem d_Pr_target_1 : decode m_Pr_target.2.1 1 = .ok (.aload_n 1, 1) := by decide +kernel
theorem d_Pr_target_2 : decode m_Pr_target.2.1 2 = .ok (.iload_n 2, 1) := by decide +kernel
theorem d_Pr_target_3 : decode m_Pr_target.2.1 3 = .ok (.iconst 1, 1) := by decide +kernel
theorem d_Pr_target_4 : decode m_Pr_target.2.1 4 = .ok (.iadd, 1) := by decide +kernel
theorem d_Pr_target_5 : decode m_Pr_target.2.1 5 = .ok (.invokevirtual 41, 3) := by decide +kernel
theorem d_Pr_target_8 : decode m_Pr_target.2.1 8 = .ok (.sipush 256, 3) := by decide +kernel
theorem d_Pr_target_11 : decode m_Pr_target.2.1 11 = .ok (.imul, 1) := by decide +kernel
theorem d_Pr_target_12 : decode m_Pr_target.2.1 12 = .ok (.aload_n 0, 1) := by decide +kernel
theorem d_Pr_target_13 : decode m_Pr_target.2.1 13 = .ok (.aload_n 1, 1) := by decide +kernel
theorem d_Pr_target_14 : decode m_Pr_target.2.1 14 = .ok (.iload_n 2, 1) := by decide +kernel
theorem d_Pr_target_15 : decode m_Pr_target.2.1 15 = .ok (.iconst 2, 1) := by decide +kernel
theorem d_Pr_target_16 : decode m_Pr_target.2.1 16 = .ok (.iadd, 1) := by decide +kernel
theorem d_Pr_target_17 : decode m_Pr_target.2.1 17 = .ok (.invokevirtual 41, 3) := by decide +kernel
theorem d_Pr_target_20 : decode m_Pr_target.2.1 20 = .ok (.iadd, 1) := by decide +kernel
theorem d_Pr_target_21 : decode m_Pr_target.2.1 21 = .ok (.istore_n 3, 1) := by decide +kernel
theorem d_Pr_target_22 : decode m_Pr_target.2.1 22 = .ok (.iload_n 2, 1) := by decide +kernel
theorem d_Pr_target_23 : decode m_Pr_target.2.1 23 = .ok (.iload_n 3, 1) := by decide +kernel
theorem d_Pr_target_24 : decode m_Pr_target.2.1 24 = .ok (.ldc 45, 2) := by decide +kernel
theorem d_Pr_target_26 : decode m_Pr_target.2.1 26 = .ok (.if_icmp .lt 10, 3) := by decide +kernel
theorem d_Pr_target_29 : decode m_Pr_target.2.1 29 = .ok (.iload_n 3, 1) := by decide +kernel
theorem d_Pr_target_30 : decode m_Pr_target.2.1 30 = .ok (.ldc 46, 2) := by decide +kernel
theorem d_Pr_target_32 : decode m_Pr_target.2.1 32 = .ok (.isub, 1) := by decide +kernel
theorem d_Pr_target_33 : decode m_Pr_target.2.1 33 = .ok (.goto 4, 3) := by decide +kernel
theorem d_Pr_target_36 : decode m_Pr_target.2.1 36 = .ok (.iload_n 3, 1) := by decide +kernel
theorem d_Pr_target_37 : decode m_Pr_target.2.1 37 = .ok (.iadd, 1) := by decide +kernel
theorem d_Pr_target_38 : decode m_Pr_target.2.1 38 = .ok (.ireturn, 1) := by decide +kernel
theorem d_Pr_called_0 : decode m_Pr_called.2.1 0 = .ok (.aload_n 0, 1) := by decide +kernel
theorem d_Pr_called_1 : decode m_Pr_called.2.1 1 = .ok (.getfield 17, 3) := by decide +kernel
theorem d_Pr_called_4 : decode m_Pr_called.2.1 4 = .ok (.aload_n 0, 1) := by decide +kernel
theorem d_Pr_called_5 : decode m_Pr_called.2.1 5 = .ok (.getfield 9, 3) := by decide +kernel
theorem d_Pr_called_8 : decode m_Pr_called.2.1 8 = .ok (.aload_n 1, 1) := by decide +kernel
theorem d_Pr_called_9 : decode m_Pr_called.2.1 9 = .ok (.getfield 38, 3) := by decide +kernel
theorem d_Pr_called_12 : decode m_Pr_called.2.1 12 = .ok (.iload_n 2, 1) := by decide +kernel
theorem d_Pr_called_13 : decode m_Pr_called.2.1 13 = .ok (.iadd, 1) := by decide +kernel
theorem d_Pr_called_14 : decode m_Pr_called.2.1 14 = .ok (.iconst 1, 1) := by decide +kernel
theorem d_Pr_called_15 : decode m_Pr_called.2.1 15 = .ok (.iadd, 1) := by decide +kernel
theorem d_Pr_called_16 : decode m_Pr_called.2.1 16 = .ok (.iaload, 1) := by decide +kernel
theorem d_Pr_called_17 : decode m_Pr_called.2.1 17 = .ok (.aaload, 1) := by decide +kernel
theorem d_Pr_called_18 : decode m_Pr_called.2.1 18 = .ok (.areturn, 1) := by decide +kernel
theorem d_Pr_frameOffset_0 : decode m_Pr_frameOffset.2.1 0 = .ok (.aload_n 0, 1) := by decide +kernel
theorem d_Pr_frameOffset_1 : decode m_Pr_frameOffset.2.1 1 = .ok (.getfield 9, 3) := by decide +kernel
theorem d_Pr_frameOffset_4 : decode m_Pr_frameOffset.2.1 4 = .ok (.aload_n 1, 1) := by decide +kernel
theorem d_Pr_frameOffset_5 : decode m_Pr_frameOffset.2.1 5 = .ok (.getfield 47, 3) := by decide +kernel
theorem d_Pr_frameOffset_8 : decode m_Pr_frameOffset.2.1 8 = .ok (.iload_n 2, 1) := by decide +kernel
theorem d_Pr_frameOffset_9 : decode m_Pr_frameOffset.2.1 9 = .ok (.iaload, 1) := by decide +kernel
theorem d_Pr_frameOffset_10 : decode m_Pr_frameOffset.2.1 10 = .ok (.iaload, 1) := by decide +kernel
theorem d_Pr_frameOffset_11 : decode m_Pr_frameOffset.2.1 11 = .ok (.ireturn, 1) := by decide +kernel
theorem d_Pr_framePlace_0 : decode m_Pr_framePlace.2.1 0 = .ok (.aload_n 0, 1) := by decide +kernel
theorem d_Pr_framePlace_1 : decode m_Pr_framePlace.2.1 1 = .ok (.getfield 9, 3) := by decide +kernel
theorem d_Pr_framePlace_4 : decode m_Pr_framePlace.2.1 4 = .ok (.aload_n 1, 1) := by decide +kernel
theorem d_Pr_framePlace_5 : decode m_Pr_framePlace.2.1 5 = .ok (.getfield 47, 3) := by decide +kernel
theorem d_Pr_framePlace_8 : decode m_Pr_framePlace.2.1 8 = .ok (.iload_n 2, 1) := by decide +kernel
theorem d_Pr_framePlace_9 : decode m_Pr_framePlace.2.1 9 = .ok (.iaload, 1) := by decide +kernel
theorem d_Pr_framePlace_10 : decode m_Pr_framePlace.2.1 10 = .ok (.iconst 1, 1) := by decide +kernel
theorem d_Pr_framePlace_11 : decode m_Pr_framePlace.2.1 11 = .ok (.iadd, 1) := by decide +kernel
theorem d_Pr_framePlace_12 : decode m_Pr_framePlace.2.1 12 = .ok (.iload_n 3, 1) := by decide +kernel
theorem d_Pr_framePlace_13 : decode m_Pr_framePlace.2.1 13 = .ok (.iadd, 1) := by decide +kernel
theorem d_Pr_framePlace_14 : decode m_Pr_framePlace.2.1 14 = .ok (.iaload, 1) := by decide +kernel
theorem d_Pr_framePlace_15 : decode m_Pr_framePlace.2.1 15 = .ok (.ireturn, 1) := by decide +kernel
theorem d_Pr_frameHeight_0 : decode m_Pr_frameHeight.2.1 0 = .ok (.aload_n 0, 1) := by decide +kernel
theorem d_Pr_frameHeight_1 : decode m_Pr_frameHeight.2.1 1 = .ok (.getfield 9, 3) := by decide +kernel
theorem d_Pr_frameHeight_4 : decode m_Pr_frameHeight.2.1 4 = .ok (.aload_n 1, 1) := by decide +kernel
theorem d_Pr_frameHeight_5 : decode m_Pr_frameHeight.2.1 5 = .ok (.getfield 47, 3) := by decide +kernel
theorem d_Pr_frameHeight_8 : decode m_Pr_frameHeight.2.1 8 = .ok (.iload_n 2, 1) := by decide +kernel
theorem d_Pr_frameHeight_9 : decode m_Pr_frameHeight.2.1 9 = .ok (.iaload, 1) := by decide +kernel
theorem d_Pr_frameHeight_10 : decode m_Pr_frameHeight.2.1 10 = .ok (.iconst 1, 1) := by decide +kernel
theorem d_Pr_frameHeight_11 : decode m_Pr_frameHeight.2.1 11 = .ok (.iadd, 1) := by decide +kernel
theorem d_Pr_frameHeight_12 : decode m_Pr_frameHeight.2.1 12 = .ok (.aload_n 1, 1) := by decide +kernel
theorem d_Pr_frameHeight_13 : decode m_Pr_frameHeight.2.1 13 = .ok (.getfield 50, 3) := by decide +kernel
theorem d_Pr_frameHeight_16 : decode m_Pr_frameHeight.2.1 16 = .ok (.iadd, 1) := by decide +kernel
theorem d_Pr_frameHeight_17 : decode m_Pr_frameHeight.2.1 17 = .ok (.iaload, 1) := by decide +kernel
theorem d_Pr_frameHeight_18 : decode m_Pr_frameHeight.2.1 18 = .ok (.ireturn, 1) := by decide +kernel
theorem d_Pr_frameValue_0 : decode m_Pr_frameValue.2.1 0 = .ok (.aload_n 0, 1) := by decide +kernel
theorem d_Pr_frameValue_1 : decode m_Pr_frameValue.2.1 1 = .ok (.getfield 9, 3) := by decide +kernel
theorem d_Pr_frameValue_4 : decode m_Pr_frameValue.2.1 4 = .ok (.aload_n 1, 1) := by decide +kernel
theorem d_Pr_frameValue_5 : decode m_Pr_frameValue.2.1 5 = .ok (.getfield 47, 3) := by decide +kernel
theorem d_Pr_frameValue_8 : decode m_Pr_frameValue.2.1 8 = .ok (.iload_n 2, 1) := by decide +kernel
theorem d_Pr_frameValue_9 : decode m_Pr_frameValue.2.1 9 = .ok (.iaload, 1) := by decide +kernel
theorem d_Pr_frameValue_10 : decode m_Pr_frameValue.2.1 10 = .ok (.iconst 2, 1) := by decide +kernel
theorem d_Pr_frameValue_11 : decode m_Pr_frameValue.2.1 11 = .ok (.iadd, 1) := by decide +kernel
theorem d_Pr_frameValue_12 : decode m_Pr_frameValue.2.1 12 = .ok (.aload_n 1, 1) := by decide +kernel
theorem d_Pr_frameValue_13 : decode m_Pr_frameValue.2.1 13 = .ok (.getfield 50, 3) := by decide +kernel
theorem d_Pr_frameValue_16 : decode m_Pr_frameValue.2.1 16 = .ok (.iadd, 1) := by decide +kernel
theorem d_Pr_frameValue_17 : decode m_Pr_frameValue.2.1 17 = .ok (.iload_n 3, 1) := by decide +kernel
theorem d_Pr_frameValue_18 : decode m_Pr_frameValue.2.1 18 = .ok (.iadd, 1) := by decide +kernel
theorem d_Pr_frameValue_19 : decode m_Pr_frameValue.2.1 19 = .ok (.iaload, 1) := by decide +kernel
theorem d_Pr_frameValue_20 : decode m_Pr_frameValue.2.1 20 = .ok (.ireturn, 1) := by decide +kernel
theorem d_Pr_frameAt_0 : decode m_Pr_frameAt.2.1 0 = .ok (.iconst 0, 1) := by decide +kernel
theorem d_Pr_frameAt_1 : decode m_Pr_frameAt.2.1 1 = .ok (.istore_n 3, 1) := by decide +kernel
theorem d_Pr_frameAt_2 : decode m_Pr_frameAt.2.1 2 = .ok (.iload_n 3, 1) := by decide +kernel
theorem d_Pr_frameAt_3 : decode m_Pr_frameAt.2.1 3 = .ok (.aload_n 1, 1) := by decide +kernel
