theorem d_Mo_enter_90 : decode m_Mo_enter.2.1 90 = .ok (.iaload, 1) := by decide +kernel
theorem d_Mo_enter_91 : decode m_Mo_enter.2.1 91 = .ok (.iadd, 1) := by decide +kernel
theorem d_Mo_enter_92 : decode m_Mo_enter.2.1 92 = .ok (.iaload, 1) := by decide +kernel
theorem d_Mo_enter_93 : decode m_Mo_enter.2.1 93 = .ok (.iastore, 1) := by decide +kernel
theorem d_Mo_enter_94 : decode m_Mo_enter.2.1 94 = .ok (.aload_n 0, 1) := by decide +kernel
theorem d_Mo_enter_95 : decode m_Mo_enter.2.1 95 = .ok (.getfield 19, 3) := by decide +kernel
theorem d_Mo_enter_98 : decode m_Mo_enter.2.1 98 = .ok (.bipush 6, 2) := by decide +kernel
theorem d_Mo_enter_100 : decode m_Mo_enter.2.1 100 = .ok (.iload_n 3, 1) := by decide +kernel
theorem d_Mo_enter_101 : decode m_Mo_enter.2.1 101 = .ok (.imul, 1) := by decide +kernel
theorem d_Mo_enter_102 : decode m_Mo_enter.2.1 102 = .ok (.iload 4, 2) := by decide +kernel
theorem d_Mo_enter_104 : decode m_Mo_enter.2.1 104 = .ok (.iadd, 1) := by decide +kernel
theorem d_Mo_enter_105 : decode m_Mo_enter.2.1 105 = .ok (.aload_n 0, 1) := by decide +kernel
theorem d_Mo_enter_106 : decode m_Mo_enter.2.1 106 = .ok (.getfield 25, 3) := by decide +kernel
theorem d_Mo_enter_109 : decode m_Mo_enter.2.1 109 = .ok (.bipush 6, 2) := by decide +kernel
theorem d_Mo_enter_111 : decode m_Mo_enter.2.1 111 = .ok (.iload_n 1, 1) := by decide +kernel
theorem d_Mo_enter_112 : decode m_Mo_enter.2.1 112 = .ok (.imul, 1) := by decide +kernel
theorem d_Mo_enter_113 : decode m_Mo_enter.2.1 113 = .ok (.aload_n 0, 1) := by decide +kernel
theorem d_Mo_enter_114 : decode m_Mo_enter.2.1 114 = .ok (.getfield 28, 3) := by decide +kernel
theorem d_Mo_enter_117 : decode m_Mo_enter.2.1 117 = .ok (.iload_n 1, 1) := by decide +kernel
theorem d_Mo_enter_118 : decode m_Mo_enter.2.1 118 = .ok (.iaload, 1) := by decide +kernel
theorem d_Mo_enter_119 : decode m_Mo_enter.2.1 119 = .ok (.iadd, 1) := by decide +kernel
theorem d_Mo_enter_120 : decode m_Mo_enter.2.1 120 = .ok (.iaload, 1) := by decide +kernel
theorem d_Mo_enter_121 : decode m_Mo_enter.2.1 121 = .ok (.iastore, 1) := by decide +kernel
theorem d_Mo_enter_122 : decode m_Mo_enter.2.1 122 = .ok (.iinc 4 (-1), 3) := by decide +kernel
theorem d_Mo_enter_125 : decode m_Mo_enter.2.1 125 = .ok (.goto (-78), 3) := by decide +kernel
theorem d_Mo_enter_128 : decode m_Mo_enter.2.1 128 = .ok (.return_, 1) := by decide +kernel
theorem d_Mo_leave_0 : decode m_Mo_leave.2.1 0 = .ok (.aload_n 0, 1) := by decide +kernel
theorem d_Mo_leave_1 : decode m_Mo_leave.2.1 1 = .ok (.dup, 1) := by decide +kernel
theorem d_Mo_leave_2 : decode m_Mo_leave.2.1 2 = .ok (.getfield 210, 3) := by decide +kernel
theorem d_Mo_leave_5 : decode m_Mo_leave.2.1 5 = .ok (.iconst 1, 1) := by decide +kernel
theorem d_Mo_leave_6 : decode m_Mo_leave.2.1 6 = .ok (.isub, 1) := by decide +kernel
theorem d_Mo_leave_7 : decode m_Mo_leave.2.1 7 = .ok (.putfield 210, 3) := by decide +kernel
theorem d_Mo_leave_10 : decode m_Mo_leave.2.1 10 = .ok (.aload_n 0, 1) := by decide +kernel
theorem d_Mo_leave_11 : decode m_Mo_leave.2.1 11 = .ok (.getfield 210, 3) := by decide +kernel
theorem d_Mo_leave_14 : decode m_Mo_leave.2.1 14 = .ok (.ifCond .le 29, 3) := by decide +kernel
theorem d_Mo_leave_17 : decode m_Mo_leave.2.1 17 = .ok (.iload_n 2, 1) := by decide +kernel
theorem d_Mo_leave_18 : decode m_Mo_leave.2.1 18 = .ok (.sipush 177, 3) := by decide +kernel
theorem d_Mo_leave_21 : decode m_Mo_leave.2.1 21 = .ok (.if_icmp .eq 22, 3) := by decide +kernel
theorem d_Mo_leave_24 : decode m_Mo_leave.2.1 24 = .ok (.aload_n 0, 1) := by decide +kernel
theorem d_Mo_leave_25 : decode m_Mo_leave.2.1 25 = .ok (.iload_n 1, 1) := by decide +kernel
theorem d_Mo_leave_26 : decode m_Mo_leave.2.1 26 = .ok (.iconst 1, 1) := by decide +kernel
theorem d_Mo_leave_27 : decode m_Mo_leave.2.1 27 = .ok (.isub, 1) := by decide +kernel
theorem d_Mo_leave_28 : decode m_Mo_leave.2.1 28 = .ok (.aload_n 0, 1) := by decide +kernel
theorem d_Mo_leave_29 : decode m_Mo_leave.2.1 29 = .ok (.getfield 22, 3) := by decide +kernel
theorem d_Mo_leave_32 : decode m_Mo_leave.2.1 32 = .ok (.iload_n 3, 1) := by decide +kernel
theorem d_Mo_leave_33 : decode m_Mo_leave.2.1 33 = .ok (.iaload, 1) := by decide +kernel
theorem d_Mo_leave_34 : decode m_Mo_leave.2.1 34 = .ok (.aload_n 0, 1) := by decide +kernel
theorem d_Mo_leave_35 : decode m_Mo_leave.2.1 35 = .ok (.getfield 25, 3) := by decide +kernel
theorem d_Mo_leave_38 : decode m_Mo_leave.2.1 38 = .ok (.iload_n 3, 1) := by decide +kernel
theorem d_Mo_leave_39 : decode m_Mo_leave.2.1 39 = .ok (.iaload, 1) := by decide +kernel
theorem d_Mo_leave_40 : decode m_Mo_leave.2.1 40 = .ok (.invokevirtual 166, 3) := by decide +kernel
theorem d_Mo_leave_43 : decode m_Mo_leave.2.1 43 = .ok (.aload_n 0, 1) := by decide +kernel
theorem d_Mo_leave_44 : decode m_Mo_leave.2.1 44 = .ok (.getfield 210, 3) := by decide +kernel
theorem d_Mo_leave_47 : decode m_Mo_leave.2.1 47 = .ok (.ifCond .le 5, 3) := by decide +kernel
theorem d_Mo_leave_50 : decode m_Mo_leave.2.1 50 = .ok (.iconst (-1), 1) := by decide +kernel
theorem d_Mo_leave_51 : decode m_Mo_leave.2.1 51 = .ok (.ireturn, 1) := by decide +kernel
theorem d_Mo_leave_52 : decode m_Mo_leave.2.1 52 = .ok (.iload_n 2, 1) := by decide +kernel
theorem d_Mo_leave_53 : decode m_Mo_leave.2.1 53 = .ok (.sipush 177, 3) := by decide +kernel
theorem d_Mo_leave_56 : decode m_Mo_leave.2.1 56 = .ok (.if_icmp .ne 11, 3) := by decide +kernel
theorem d_Mo_leave_59 : decode m_Mo_leave.2.1 59 = .ok (.aload_n 0, 1) := by decide +kernel
theorem d_Mo_leave_60 : decode m_Mo_leave.2.1 60 = .ok (.iconst 0, 1) := by decide +kernel
theorem d_Mo_leave_61 : decode m_Mo_leave.2.1 61 = .ok (.putfield 237, 3) := by decide +kernel
theorem d_Mo_leave_64 : decode m_Mo_leave.2.1 64 = .ok (.goto 52, 3) := by decide +kernel
theorem d_Mo_leave_67 : decode m_Mo_leave.2.1 67 = .ok (.iload_n 2, 1) := by decide +kernel
theorem d_Mo_leave_68 : decode m_Mo_leave.2.1 68 = .ok (.sipush 172, 3) := by decide +kernel
theorem d_Mo_leave_71 : decode m_Mo_leave.2.1 71 = .ok (.if_icmp .ne 16, 3) := by decide +kernel
theorem d_Mo_leave_74 : decode m_Mo_leave.2.1 74 = .ok (.aload_n 0, 1) := by decide +kernel
theorem d_Mo_leave_75 : decode m_Mo_leave.2.1 75 = .ok (.aload_n 0, 1) := by decide +kernel
theorem d_Mo_leave_76 : decode m_Mo_leave.2.1 76 = .ok (.getfield 25, 3) := by decide +kernel
theorem d_Mo_leave_79 : decode m_Mo_leave.2.1 79 = .ok (.iload_n 3, 1) := by decide +kernel
theorem d_Mo_leave_80 : decode m_Mo_leave.2.1 80 = .ok (.iaload, 1) := by decide +kernel
theorem d_Mo_leave_81 : decode m_Mo_leave.2.1 81 = .ok (.putfield 237, 3) := by decide +kernel
theorem d_Mo_leave_84 : decode m_Mo_leave.2.1 84 = .ok (.goto 32, 3) := by decide +kernel
theorem d_Mo_leave_87 : decode m_Mo_leave.2.1 87 = .ok (.aload_n 0, 1) := by decide +kernel
theorem d_Mo_leave_88 : decode m_Mo_leave.2.1 88 = .ok (.aload_n 0, 1) := by decide +kernel
theorem d_Mo_leave_89 : decode m_Mo_leave.2.1 89 = .ok (.getfield 22, 3) := by decide +kernel
theorem d_Mo_leave_92 : decode m_Mo_leave.2.1 92 = .ok (.iload_n 3, 1) := by decide +kernel
theorem d_Mo_leave_93 : decode m_Mo_leave.2.1 93 = .ok (.iaload, 1) := by decide +kernel
theorem d_Mo_leave_94 : decode m_Mo_leave.2.1 94 = .ok (.iconst 3, 1) := by decide +kernel
theorem d_Mo_leave_95 : decode m_Mo_leave.2.1 95 = .ok (.if_icmp .ne 7, 3) := by decide +kernel
theorem d_Mo_leave_98 : decode m_Mo_leave.2.1 98 = .ok (.iconst (-1), 1) := by decide +kernel
theorem d_Mo_leave_99 : decode m_Mo_leave.2.1 99 = .ok (.goto 14, 3) := by decide +kernel
theorem d_Mo_leave_102 : decode m_Mo_leave.2.1 102 = .ok (.aload_n 0, 1) := by decide +kernel
theorem d_Mo_leave_103 : decode m_Mo_leave.2.1 103 = .ok (.getfield 37, 3) := by decide +kernel
theorem d_Mo_leave_106 : decode m_Mo_leave.2.1 106 = .ok (.aload_n 0, 1) := by decide +kernel
theorem d_Mo_leave_107 : decode m_Mo_leave.2.1 107 = .ok (.getfield 25, 3) := by decide +kernel
theorem d_Mo_leave_110 : decode m_Mo_leave.2.1 110 = .ok (.iload_n 3, 1) := by decide +kernel
theorem d_Mo_leave_111 : decode m_Mo_leave.2.1 111 = .ok (.iaload, 1) := by decide +kernel
theorem d_Mo_leave_112 : decode m_Mo_leave.2.1 112 = .ok (.iaload, 1) := by decide +kernel
theorem d_Mo_leave_113 : decode m_Mo_leave.2.1 113 = .ok (.putfield 237, 3) := by decide +kernel
theorem d_Mo_leave_116 : decode m_Mo_leave.2.1 116 = .ok (.iconst 0, 1) := by decide +kernel
theorem d_Mo_leave_117 : decode m_Mo_leave.2.1 117 = .ok (.ireturn, 1) := by decide +kernel
theorem d_Mo_goes_0 : decode m_Mo_goes.2.1 0 = .ok (.iload_n 1, 1) := by decide +kernel
theorem d_Mo_goes_1 : decode m_Mo_goes.2.1 1 = .ok (.sipush 167, 3) := by decide +kernel
theorem d_Mo_goes_4 : decode m_Mo_goes.2.1 4 = .ok (.if_icmp .ne 5, 3) := by decide +kernel
theorem d_Mo_goes_7 : decode m_Mo_goes.2.1 7 = .ok (.iconst 1, 1) := by decide +kernel
theorem d_Mo_goes_8 : decode m_Mo_goes.2.1 8 = .ok (.ireturn, 1) := by decide +kernel
theorem d_Mo_goes_9 : decode m_Mo_goes.2.1 9 = .ok (.iload_n 1, 1) := by decide +kernel
theorem d_Mo_goes_10 : decode m_Mo_goes.2.1 10 = .ok (.sipush 167, 3) := by decide +kernel
theorem d_Mo_goes_13 : decode m_Mo_goes.2.1 13 = .ok (.if_icmp .le 39, 3) := by decide +kernel
theorem d_Mo_goes_16 : decode m_Mo_goes.2.1 16 = .ok (.aload_n 0, 1) := by decide +kernel
theorem d_Mo_goes_17 : decode m_Mo_goes.2.1 17 = .ok (.getfield 22, 3) := by decide +kernel
theorem d_Mo_goes_20 : decode m_Mo_goes.2.1 20 = .ok (.iload_n 2, 1) := by decide +kernel
theorem d_Mo_goes_21 : decode m_Mo_goes.2.1 21 = .ok (.iaload, 1) := by decide +kernel
theorem d_Mo_goes_22 : decode m_Mo_goes.2.1 22 = .ok (.iconst 3, 1) := by decide +kernel
theorem d_Mo_goes_23 : decode m_Mo_goes.2.1 23 = .ok (.if_icmp .ne 7, 3) := by decide +kernel
theorem d_Mo_goes_26 : decode m_Mo_goes.2.1 26 = .ok (.iconst 1, 1) := by decide +kernel
theorem d_Mo_goes_27 : decode m_Mo_goes.2.1 27 = .ok (.goto 4, 3) := by decide +kernel
theorem d_Mo_goes_30 : decode m_Mo_goes.2.1 30 = .ok (.iconst 0, 1) := by decide +kernel
theorem d_Mo_goes_31 : decode m_Mo_goes.2.1 31 = .ok (.iload_n 1, 1) := by decide +kernel
theorem d_Mo_goes_32 : decode m_Mo_goes.2.1 32 = .ok (.sipush 198, 3) := by decide +kernel
theorem d_Mo_goes_35 : decode m_Mo_goes.2.1 35 = .ok (.if_icmp .ne 7, 3) := by decide +kernel
theorem d_Mo_goes_38 : decode m_Mo_goes.2.1 38 = .ok (.iconst 1, 1) := by decide +kernel
theorem d_Mo_goes_39 : decode m_Mo_goes.2.1 39 = .ok (.goto 4, 3) := by decide +kernel
theorem d_Mo_goes_42 : decode m_Mo_goes.2.1 42 = .ok (.iconst 0, 1) := by decide +kernel
theorem d_Mo_goes_43 : decode m_Mo_goes.2.1 43 = .ok (.if_icmp .ne 7, 3) := by decide +kernel
theorem d_Mo_goes_46 : decode m_Mo_goes.2.1 46 = .ok (.iconst 1, 1) := by decide +kernel
theorem d_Mo_goes_47 : decode m_Mo_goes.2.1 47 = .ok (.goto 4, 3) := by decide +kernel
theorem d_Mo_goes_50 : decode m_Mo_goes.2.1 50 = .ok (.iconst 0, 1) := by decide +kernel
theorem d_Mo_goes_51 : decode m_Mo_goes.2.1 51 = .ok (.ireturn, 1) := by decide +kernel
theorem d_Mo_goes_52 : decode m_Mo_goes.2.1 52 = .ok (.iload_n 1, 1) := by decide +kernel
theorem d_Mo_goes_53 : decode m_Mo_goes.2.1 53 = .ok (.sipush 159, 3) := by decide +kernel
theorem d_Mo_goes_56 : decode m_Mo_goes.2.1 56 = .ok (.if_icmp .ge 12, 3) := by decide +kernel
theorem d_Mo_goes_59 : decode m_Mo_goes.2.1 59 = .ok (.aload_n 0, 1) := by decide +kernel
theorem d_Mo_goes_60 : decode m_Mo_goes.2.1 60 = .ok (.getfield 25, 3) := by decide +kernel
theorem d_Mo_goes_63 : decode m_Mo_goes.2.1 63 = .ok (.iload_n 2, 1) := by decide +kernel
theorem d_Mo_goes_64 : decode m_Mo_goes.2.1 64 = .ok (.iaload, 1) := by decide +kernel
theorem d_Mo_goes_65 : decode m_Mo_goes.2.1 65 = .ok (.goto 11, 3) := by decide +kernel
theorem d_Mo_goes_68 : decode m_Mo_goes.2.1 68 = .ok (.aload_n 0, 1) := by decide +kernel
theorem d_Mo_goes_69 : decode m_Mo_goes.2.1 69 = .ok (.getfield 25, 3) := by decide +kernel
theorem d_Mo_goes_72 : decode m_Mo_goes.2.1 72 = .ok (.iload_n 2, 1) := by decide +kernel
theorem d_Mo_goes_73 : decode m_Mo_goes.2.1 73 = .ok (.iconst 1, 1) := by decide +kernel
theorem d_Mo_goes_74 : decode m_Mo_goes.2.1 74 = .ok (.isub, 1) := by decide +kernel
theorem d_Mo_goes_75 : decode m_Mo_goes.2.1 75 = .ok (.iaload, 1) := by decide +kernel
theorem d_Mo_goes_76 : decode m_Mo_goes.2.1 76 = .ok (.istore_n 3, 1) := by decide +kernel
theorem d_Mo_goes_77 : decode m_Mo_goes.2.1 77 = .ok (.iload_n 1, 1) := by decide +kernel
theorem d_Mo_goes_78 : decode m_Mo_goes.2.1 78 = .ok (.sipush 159, 3) := by decide +kernel
theorem d_Mo_goes_81 : decode m_Mo_goes.2.1 81 = .ok (.if_icmp .ge 7, 3) := by decide +kernel
theorem d_Mo_goes_84 : decode m_Mo_goes.2.1 84 = .ok (.iconst 0, 1) := by decide +kernel
theorem d_Mo_goes_85 : decode m_Mo_goes.2.1 85 = .ok (.goto 9, 3) := by decide +kernel
theorem d_Mo_goes_88 : decode m_Mo_goes.2.1 88 = .ok (.aload_n 0, 1) := by decide +kernel
theorem d_Mo_goes_89 : decode m_Mo_goes.2.1 89 = .ok (.getfield 25, 3) := by decide +kernel
theorem d_Mo_goes_92 : decode m_Mo_goes.2.1 92 = .ok (.iload_n 2, 1) := by decide +kernel
theorem d_Mo_goes_93 : decode m_Mo_goes.2.1 93 = .ok (.iaload, 1) := by decide +kernel
theorem d_Mo_goes_94 : decode m_Mo_goes.2.1 94 = .ok (.istore 4, 2) := by decide +kernel
theorem d_Mo_goes_96 : decode m_Mo_goes.2.1 96 = .ok (.iload_n 1, 1) := by decide +kernel
theorem d_Mo_goes_97 : decode m_Mo_goes.2.1 97 = .ok (.sipush 159, 3) := by decide +kernel
theorem d_Mo_goes_100 : decode m_Mo_goes.2.1 100 = .ok (.if_icmp .ge 11, 3) := by decide +kernel
theorem d_Mo_goes_103 : decode m_Mo_goes.2.1 103 = .ok (.iload_n 1, 1) := by decide +kernel
theorem d_Mo_goes_104 : decode m_Mo_goes.2.1 104 = .ok (.sipush 153, 3) := by decide +kernel
theorem d_Mo_goes_107 : decode m_Mo_goes.2.1 107 = .ok (.isub, 1) := by decide +kernel
theorem d_Mo_goes_108 : decode m_Mo_goes.2.1 108 = .ok (.goto 8, 3) := by decide +kernel
theorem d_Mo_goes_111 : decode m_Mo_goes.2.1 111 = .ok (.iload_n 1, 1) := by decide +kernel
theorem d_Mo_goes_112 : decode m_Mo_goes.2.1 112 = .ok (.sipush 159, 3) := by decide +kernel
theorem d_Mo_goes_115 : decode m_Mo_goes.2.1 115 = .ok (.isub, 1) := by decide +kernel
theorem d_Mo_goes_116 : decode m_Mo_goes.2.1 116 = .ok (.istore 5, 2) := by decide +kernel
theorem d_Mo_goes_118 : decode m_Mo_goes.2.1 118 = .ok (.iload 5, 2) := by decide +kernel
theorem d_Mo_goes_120 : decode m_Mo_goes.2.1 120 = .ok (.iconst 2, 1) := by decide +kernel
theorem d_Mo_goes_121 : decode m_Mo_goes.2.1 121 = .ok (.if_icmp .eq 9, 3) := by decide +kernel
theorem d_Mo_goes_124 : decode m_Mo_goes.2.1 124 = .ok (.iload 5, 2) := by decide +kernel
theorem d_Mo_goes_126 : decode m_Mo_goes.2.1 126 = .ok (.iconst 3, 1) := by decide +kernel
theorem d_Mo_goes_127 : decode m_Mo_goes.2.1 127 = .ok (.if_icmp .ne 7, 3) := by decide +kernel
theorem d_Mo_goes_130 : decode m_Mo_goes.2.1 130 = .ok (.iconst 1, 1) := by decide +kernel
theorem d_Mo_goes_131 : decode m_Mo_goes.2.1 131 = .ok (.goto 4, 3) := by decide +kernel
theorem d_Mo_goes_134 : decode m_Mo_goes.2.1 134 = .ok (.iconst 0, 1) := by decide +kernel
theorem d_Mo_goes_135 : decode m_Mo_goes.2.1 135 = .ok (.istore 6, 2) := by decide +kernel
theorem d_Mo_goes_137 : decode m_Mo_goes.2.1 137 = .ok (.iload 5, 2) := by decide +kernel
theorem d_Mo_goes_139 : decode m_Mo_goes.2.1 139 = .ok (.iconst 2, 1) := by decide +kernel
theorem d_Mo_goes_140 : decode m_Mo_goes.2.1 140 = .ok (.if_icmp .ge 17, 3) := by decide +kernel
theorem d_Mo_goes_143 : decode m_Mo_goes.2.1 143 = .ok (.iload_n 3, 1) := by decide +kernel
theorem d_Mo_goes_144 : decode m_Mo_goes.2.1 144 = .ok (.iload 4, 2) := by decide +kernel
theorem d_Mo_goes_146 : decode m_Mo_goes.2.1 146 = .ok (.if_icmp .ne 7, 3) := by decide +kernel
theorem d_Mo_goes_149 : decode m_Mo_goes.2.1 149 = .ok (.iconst 1, 1) := by decide +kernel
theorem d_Mo_goes_150 : decode m_Mo_goes.2.1 150 = .ok (.goto 37, 3) := by decide +kernel
theorem d_Mo_goes_153 : decode m_Mo_goes.2.1 153 = .ok (.iconst 0, 1) := by decide +kernel
theorem d_Mo_goes_154 : decode m_Mo_goes.2.1 154 = .ok (.goto 33, 3) := by decide +kernel
theorem d_Mo_goes_157 : decode m_Mo_goes.2.1 157 = .ok (.iload 6, 2) := by decide +kernel
theorem d_Mo_goes_159 : decode m_Mo_goes.2.1 159 = .ok (.ifCond .eq 17, 3) := by decide +kernel
theorem d_Mo_goes_162 : decode m_Mo_goes.2.1 162 = .ok (.iload_n 3, 1) := by decide +kernel
theorem d_Mo_goes_163 : decode m_Mo_goes.2.1 163 = .ok (.iload 4, 2) := by decide +kernel
theorem d_Mo_goes_165 : decode m_Mo_goes.2.1 165 = .ok (.if_icmp .ge 7, 3) := by decide +kernel
theorem d_Mo_goes_168 : decode m_Mo_goes.2.1 168 = .ok (.iconst 1, 1) := by decide +kernel
theorem d_Mo_goes_169 : decode m_Mo_goes.2.1 169 = .ok (.goto 18, 3) := by decide +kernel
theorem d_Mo_goes_172 : decode m_Mo_goes.2.1 172 = .ok (.iconst 0, 1) := by decide +kernel
theorem d_Mo_goes_173 : decode m_Mo_goes.2.1 173 = .ok (.goto 14, 3) := by decide +kernel
theorem d_Mo_goes_176 : decode m_Mo_goes.2.1 176 = .ok (.iload_n 3, 1) := by decide +kernel
theorem d_Mo_goes_177 : decode m_Mo_goes.2.1 177 = .ok (.iload 4, 2) := by decide +kernel
theorem d_Mo_goes_179 : decode m_Mo_goes.2.1 179 = .ok (.if_icmp .le 7, 3) := by decide +kernel
theorem d_Mo_goes_182 : decode m_Mo_goes.2.1 182 = .ok (.iconst 1, 1) := by decide +kernel
theorem d_Mo_goes_183 : decode m_Mo_goes.2.1 183 = .ok (.goto 4, 3) := by decide +kernel
theorem d_Mo_goes_186 : decode m_Mo_goes.2.1 186 = .ok (.iconst 0, 1) := by decide +kernel
theorem d_Mo_goes_187 : decode m_Mo_goes.2.1 187 = .ok (.istore 7, 2) := by decide +kernel
theorem d_Mo_goes_189 : decode m_Mo_goes.2.1 189 = .ok (.iload 7, 2) := by decide +kernel
theorem d_Mo_goes_191 : decode m_Mo_goes.2.1 191 = .ok (.iload 5, 2) := by decide +kernel
theorem d_Mo_goes_193 : decode m_Mo_goes.2.1 193 = .ok (.iconst 2, 1) := by decide +kernel
theorem d_Mo_goes_194 : decode m_Mo_goes.2.1 194 = .ok (.irem, 1) := by decide +kernel
theorem d_Mo_goes_195 : decode m_Mo_goes.2.1 195 = .ok (.ifCond .ne 7, 3) := by decide +kernel
theorem d_Mo_goes_198 : decode m_Mo_goes.2.1 198 = .ok (.iconst 1, 1) := by decide +kernel
theorem d_Mo_goes_199 : decode m_Mo_goes.2.1 199 = .ok (.goto 4, 3) := by decide +kernel
theorem d_Mo_goes_202 : decode m_Mo_goes.2.1 202 = .ok (.iconst 0, 1) := by decide +kernel
theorem d_Mo_goes_203 : decode m_Mo_goes.2.1 203 = .ok (.if_icmp .ne 7, 3) := by decide +kernel
theorem d_Mo_goes_206 : decode m_Mo_goes.2.1 206 = .ok (.iconst 1, 1) := by decide +kernel
theorem d_Mo_goes_207 : decode m_Mo_goes.2.1 207 = .ok (.goto 4, 3) := by decide +kernel
theorem d_Mo_goes_210 : decode m_Mo_goes.2.1 210 = .ok (.iconst 0, 1) := by decide +kernel
theorem d_Mo_goes_211 : decode m_Mo_goes.2.1 211 = .ok (.ireturn, 1) := by decide +kernel
theorem d_Mo_work_0 : decode m_Mo_work.2.1 0 = .ok (.bipush 6, 2) := by decide +kernel
theorem d_Mo_work_2 : decode m_Mo_work.2.1 2 = .ok (.iload_n 1, 1) := by decide +kernel
theorem d_Mo_work_3 : decode m_Mo_work.2.1 3 = .ok (.imul, 1) := by decide +kernel
theorem d_Mo_work_4 : decode m_Mo_work.2.1 4 = .ok (.iload_n 3, 1) := by decide +kernel
theorem d_Mo_work_5 : decode m_Mo_work.2.1 5 = .ok (.invokestatic 55, 3) := by decide +kernel
theorem d_Mo_work_8 : decode m_Mo_work.2.1 8 = .ok (.ifCond .eq 19, 3) := by decide +kernel
theorem d_Mo_work_11 : decode m_Mo_work.2.1 11 = .ok (.aload_n 0, 1) := by decide +kernel
theorem d_Mo_work_12 : decode m_Mo_work.2.1 12 = .ok (.getfield 13, 3) := by decide +kernel
theorem d_Mo_work_15 : decode m_Mo_work.2.1 15 = .ok (.aload_n 0, 1) := by decide +kernel
theorem d_Mo_work_16 : decode m_Mo_work.2.1 16 = .ok (.getfield 139, 3) := by decide +kernel
theorem d_Mo_work_19 : decode m_Mo_work.2.1 19 = .ok (.iload_n 2, 1) := by decide +kernel
theorem d_Mo_work_20 : decode m_Mo_work.2.1 20 = .ok (.iadd, 1) := by decide +kernel
theorem d_Mo_work_21 : decode m_Mo_work.2.1 21 = .ok (.iconst 1, 1) := by decide +kernel
theorem d_Mo_work_22 : decode m_Mo_work.2.1 22 = .ok (.iadd, 1) := by decide +kernel
theorem d_Mo_work_23 : decode m_Mo_work.2.1 23 = .ok (.iaload, 1) := by decide +kernel
theorem d_Mo_work_24 : decode m_Mo_work.2.1 24 = .ok (.goto 4, 3) := by decide +kernel
theorem d_Mo_work_27 : decode m_Mo_work.2.1 27 = .ok (.iconst 0, 1) := by decide +kernel
theorem d_Mo_work_28 : decode m_Mo_work.2.1 28 = .ok (.iadd, 1) := by decide +kernel
theorem d_Mo_work_29 : decode m_Mo_work.2.1 29 = .ok (.istore 5, 2) := by decide +kernel
theorem d_Mo_work_31 : decode m_Mo_work.2.1 31 = .ok (.aload_n 0, 1) := by decide +kernel
theorem d_Mo_work_32 : decode m_Mo_work.2.1 32 = .ok (.getfield 139, 3) := by decide +kernel
theorem d_Mo_work_35 : decode m_Mo_work.2.1 35 = .ok (.iload_n 2, 1) := by decide +kernel
theorem d_Mo_work_36 : decode m_Mo_work.2.1 36 = .ok (.iadd, 1) := by decide +kernel
theorem d_Mo_work_37 : decode m_Mo_work.2.1 37 = .ok (.iconst 1, 1) := by decide +kernel
theorem d_Mo_work_38 : decode m_Mo_work.2.1 38 = .ok (.iadd, 1) := by decide +kernel
theorem d_Mo_work_39 : decode m_Mo_work.2.1 39 = .ok (.istore 6, 2) := by decide +kernel
theorem d_Mo_work_41 : decode m_Mo_work.2.1 41 = .ok (.aload_n 0, 1) := by decide +kernel
theorem d_Mo_work_42 : decode m_Mo_work.2.1 42 = .ok (.getfield 28, 3) := by decide +kernel
theorem d_Mo_work_45 : decode m_Mo_work.2.1 45 = .ok (.iload_n 1, 1) := by decide +kernel
theorem d_Mo_work_46 : decode m_Mo_work.2.1 46 = .ok (.iaload, 1) := by decide +kernel
theorem d_Mo_work_47 : decode m_Mo_work.2.1 47 = .ok (.ifCond .le 13, 3) := by decide +kernel
theorem d_Mo_work_50 : decode m_Mo_work.2.1 50 = .ok (.aload_n 0, 1) := by decide +kernel
theorem d_Mo_work_51 : decode m_Mo_work.2.1 51 = .ok (.getfield 25, 3) := by decide +kernel
theorem d_Mo_work_54 : decode m_Mo_work.2.1 54 = .ok (.iload 4, 2) := by decide +kernel
theorem d_Mo_work_56 : decode m_Mo_work.2.1 56 = .ok (.iaload, 1) := by decide +kernel
theorem d_Mo_work_57 : decode m_Mo_work.2.1 57 = .ok (.goto 4, 3) := by decide +kernel
theorem d_Mo_work_60 : decode m_Mo_work.2.1 60 = .ok (.iconst 0, 1) := by decide +kernel
theorem d_Mo_work_61 : decode m_Mo_work.2.1 61 = .ok (.istore 7, 2) := by decide +kernel
theorem d_Mo_work_63 : decode m_Mo_work.2.1 63 = .ok (.aload_n 0, 1) := by decide +kernel
theorem d_Mo_work_64 : decode m_Mo_work.2.1 64 = .ok (.getfield 28, 3) := by decide +kernel
theorem d_Mo_work_67 : decode m_Mo_work.2.1 67 = .ok (.iload_n 1, 1) := by decide +kernel
theorem d_Mo_work_68 : decode m_Mo_work.2.1 68 = .ok (.iaload, 1) := by decide +kernel
theorem d_Mo_work_69 : decode m_Mo_work.2.1 69 = .ok (.ifCond .le 13, 3) := by decide +kernel
theorem d_Mo_work_72 : decode m_Mo_work.2.1 72 = .ok (.aload_n 0, 1) := by decide +kernel
theorem d_Mo_work_73 : decode m_Mo_work.2.1 73 = .ok (.getfield 22, 3) := by decide +kernel
theorem d_Mo_work_76 : decode m_Mo_work.2.1 76 = .ok (.iload 4, 2) := by decide +kernel
theorem d_Mo_work_78 : decode m_Mo_work.2.1 78 = .ok (.iaload, 1) := by decide +kernel
theorem d_Mo_work_79 : decode m_Mo_work.2.1 79 = .ok (.goto 4, 3) := by decide +kernel
theorem d_Mo_work_82 : decode m_Mo_work.2.1 82 = .ok (.iconst 0, 1) := by decide +kernel
theorem d_Mo_work_83 : decode m_Mo_work.2.1 83 = .ok (.istore 8, 2) := by decide +kernel
theorem d_Mo_work_85 : decode m_Mo_work.2.1 85 = .ok (.aload_n 0, 1) := by decide +kernel
theorem d_Mo_work_86 : decode m_Mo_work.2.1 86 = .ok (.getfield 28, 3) := by decide +kernel
theorem d_Mo_work_89 : decode m_Mo_work.2.1 89 = .ok (.iload_n 1, 1) := by decide +kernel
theorem d_Mo_work_90 : decode m_Mo_work.2.1 90 = .ok (.iaload, 1) := by decide +kernel
theorem d_Mo_work_91 : decode m_Mo_work.2.1 91 = .ok (.iconst 1, 1) := by decide +kernel
theorem d_Mo_work_92 : decode m_Mo_work.2.1 92 = .ok (.if_icmp .le 15, 3) := by decide +kernel
theorem d_Mo_work_95 : decode m_Mo_work.2.1 95 = .ok (.aload_n 0, 1) := by decide +kernel
theorem d_Mo_work_96 : decode m_Mo_work.2.1 96 = .ok (.getfield 25, 3) := by decide +kernel
theorem d_Mo_work_99 : decode m_Mo_work.2.1 99 = .ok (.iload 4, 2) := by decide +kernel
theorem d_Mo_work_101 : decode m_Mo_work.2.1 101 = .ok (.iconst 1, 1) := by decide +kernel
theorem d_Mo_work_102 : decode m_Mo_work.2.1 102 = .ok (.isub, 1) := by decide +kernel
theorem d_Mo_work_103 : decode m_Mo_work.2.1 103 = .ok (.iaload, 1) := by decide +kernel
theorem d_Mo_work_104 : decode m_Mo_work.2.1 104 = .ok (.goto 4, 3) := by decide +kernel
theorem d_Mo_work_107 : decode m_Mo_work.2.1 107 = .ok (.iconst 0, 1) := by decide +kernel
theorem d_Mo_work_108 : decode m_Mo_work.2.1 108 = .ok (.istore 9, 2) := by decide +kernel
theorem d_Mo_work_110 : decode m_Mo_work.2.1 110 = .ok (.aload_n 0, 1) := by decide +kernel
theorem d_Mo_work_111 : decode m_Mo_work.2.1 111 = .ok (.getfield 28, 3) := by decide +kernel
theorem d_Mo_work_114 : decode m_Mo_work.2.1 114 = .ok (.iload_n 1, 1) := by decide +kernel
theorem d_Mo_work_115 : decode m_Mo_work.2.1 115 = .ok (.iaload, 1) := by decide +kernel
theorem d_Mo_work_116 : decode m_Mo_work.2.1 116 = .ok (.iconst 1, 1) := by decide +kernel
theorem d_Mo_work_117 : decode m_Mo_work.2.1 117 = .ok (.if_icmp .le 15, 3) := by decide +kernel
theorem d_Mo_work_120 : decode m_Mo_work.2.1 120 = .ok (.aload_n 0, 1) := by decide +kernel
theorem d_Mo_work_121 : decode m_Mo_work.2.1 121 = .ok (.getfield 22, 3) := by decide +kernel
theorem d_Mo_work_124 : decode m_Mo_work.2.1 124 = .ok (.iload 4, 2) := by decide +kernel
theorem d_Mo_work_126 : decode m_Mo_work.2.1 126 = .ok (.iconst 1, 1) := by decide +kernel
theorem d_Mo_work_127 : decode m_Mo_work.2.1 127 = .ok (.isub, 1) := by decide +kernel
theorem d_Mo_work_128 : decode m_Mo_work.2.1 128 = .ok (.iaload, 1) := by decide +kernel
theorem d_Mo_work_129 : decode m_Mo_work.2.1 129 = .ok (.goto 4, 3) := by decide +kernel
theorem d_Mo_work_132 : decode m_Mo_work.2.1 132 = .ok (.iconst 0, 1) := by decide +kernel
theorem d_Mo_work_133 : decode m_Mo_work.2.1 133 = .ok (.istore 10, 2) := by decide +kernel
theorem d_Mo_work_135 : decode m_Mo_work.2.1 135 = .ok (.aload_n 0, 1) := by decide +kernel
theorem d_Mo_work_136 : decode m_Mo_work.2.1 136 = .ok (.getfield 28, 3) := by decide +kernel
theorem d_Mo_work_139 : decode m_Mo_work.2.1 139 = .ok (.iload_n 1, 1) := by decide +kernel
theorem d_Mo_work_140 : decode m_Mo_work.2.1 140 = .ok (.iaload, 1) := by decide +kernel
theorem d_Mo_work_141 : decode m_Mo_work.2.1 141 = .ok (.iconst 2, 1) := by decide +kernel
theorem d_Mo_work_142 : decode m_Mo_work.2.1 142 = .ok (.if_icmp .le 15, 3) := by decide +kernel
theorem d_Mo_work_145 : decode m_Mo_work.2.1 145 = .ok (.aload_n 0, 1) := by decide +kernel
theorem d_Mo_work_146 : decode m_Mo_work.2.1 146 = .ok (.getfield 25, 3) := by decide +kernel
theorem d_Mo_work_149 : decode m_Mo_work.2.1 149 = .ok (.iload 4, 2) := by decide +kernel
theorem d_Mo_work_151 : decode m_Mo_work.2.1 151 = .ok (.iconst 2, 1) := by decide +kernel
theorem d_Mo_work_152 : decode m_Mo_work.2.1 152 = .ok (.isub, 1) := by decide +kernel
theorem d_Mo_work_153 : decode m_Mo_work.2.1 153 = .ok (.iaload, 1) := by decide +kernel
theorem d_Mo_work_154 : decode m_Mo_work.2.1 154 = .ok (.goto 4, 3) := by decide +kernel
theorem d_Mo_work_157 : decode m_Mo_work.2.1 157 = .ok (.iconst 0, 1) := by decide +kernel
theorem d_Mo_work_158 : decode m_Mo_work.2.1 158 = .ok (.istore 11, 2) := by decide +kernel
theorem d_Mo_work_160 : decode m_Mo_work.2.1 160 = .ok (.aload_n 0, 1) := by decide +kernel
theorem d_Mo_work_161 : decode m_Mo_work.2.1 161 = .ok (.getfield 28, 3) := by decide +kernel
theorem d_Mo_work_164 : decode m_Mo_work.2.1 164 = .ok (.iload_n 1, 1) := by decide +kernel
theorem d_Mo_work_165 : decode m_Mo_work.2.1 165 = .ok (.aload_n 0, 1) := by decide +kernel
theorem d_Mo_work_166 : decode m_Mo_work.2.1 166 = .ok (.getfield 28, 3) := by decide +kernel
theorem d_Mo_work_169 : decode m_Mo_work.2.1 169 = .ok (.iload_n 1, 1) := by decide +kernel
theorem d_Mo_work_170 : decode m_Mo_work.2.1 170 = .ok (.iaload, 1) := by decide +kernel
theorem d_Mo_work_171 : decode m_Mo_work.2.1 171 = .ok (.aload_n 0, 1) := by decide +kernel
theorem d_Mo_work_172 : decode m_Mo_work.2.1 172 = .ok (.iload_n 2, 1) := by decide +kernel
theorem d_Mo_work_173 : decode m_Mo_work.2.1 173 = .ok (.invokevirtual 154, 3) := by decide +kernel
theorem d_Mo_work_176 : decode m_Mo_work.2.1 176 = .ok (.isub, 1) := by decide +kernel
theorem d_Mo_work_177 : decode m_Mo_work.2.1 177 = .ok (.iastore, 1) := by decide +kernel
theorem d_Mo_work_178 : decode m_Mo_work.2.1 178 = .ok (.iload_n 3, 1) := by decide +kernel
theorem d_Mo_work_179 : decode m_Mo_work.2.1 179 = .ok (.lookupswitch 217 #[(21, 81), (25, 81), (54, 103), (58, 103), (79, 154), (87, 172), (89, 175), (95, 196), (132, 124)], 81) := by decide +kernel
theorem d_Mo_work_260 : decode m_Mo_work.2.1 260 = .ok (.aload_n 0, 1) := by decide +kernel
theorem d_Mo_work_261 : decode m_Mo_work.2.1 261 = .ok (.iload_n 1, 1) := by decide +kernel
theorem d_Mo_work_262 : decode m_Mo_work.2.1 262 = .ok (.aload_n 0, 1) := by decide +kernel
theorem d_Mo_work_263 : decode m_Mo_work.2.1 263 = .ok (.getfield 16, 3) := by decide +kernel
theorem d_Mo_work_266 : decode m_Mo_work.2.1 266 = .ok (.iload 5, 2) := by decide +kernel
theorem d_Mo_work_268 : decode m_Mo_work.2.1 268 = .ok (.iaload, 1) := by decide +kernel
theorem d_Mo_work_269 : decode m_Mo_work.2.1 269 = .ok (.aload_n 0, 1) := by decide +kernel
theorem d_Mo_work_270 : decode m_Mo_work.2.1 270 = .ok (.getfield 19, 3) := by decide +kernel
theorem d_Mo_work_273 : decode m_Mo_work.2.1 273 = .ok (.iload 5, 2) := by decide +kernel
theorem d_Mo_work_275 : decode m_Mo_work.2.1 275 = .ok (.iaload, 1) := by decide +kernel
theorem d_Mo_work_276 : decode m_Mo_work.2.1 276 = .ok (.invokevirtual 166, 3) := by decide +kernel
theorem d_Mo_work_279 : decode m_Mo_work.2.1 279 = .ok (.goto 137, 3) := by decide +kernel
theorem d_Mo_work_282 : decode m_Mo_work.2.1 282 = .ok (.aload_n 0, 1) := by decide +kernel
theorem d_Mo_work_283 : decode m_Mo_work.2.1 283 = .ok (.getfield 16, 3) := by decide +kernel
theorem d_Mo_work_286 : decode m_Mo_work.2.1 286 = .ok (.iload 5, 2) := by decide +kernel
theorem d_Mo_work_288 : decode m_Mo_work.2.1 288 = .ok (.iload 8, 2) := by decide +kernel
theorem d_Mo_work_290 : decode m_Mo_work.2.1 290 = .ok (.iastore, 1) := by decide +kernel
theorem d_Mo_work_291 : decode m_Mo_work.2.1 291 = .ok (.aload_n 0, 1) := by decide +kernel
theorem d_Mo_work_292 : decode m_Mo_work.2.1 292 = .ok (.getfield 19, 3) := by decide +kernel
theorem d_Mo_work_295 : decode m_Mo_work.2.1 295 = .ok (.iload 5, 2) := by decide +kernel
theorem d_Mo_work_297 : decode m_Mo_work.2.1 297 = .ok (.iload 7, 2) := by decide +kernel
theorem d_Mo_work_299 : decode m_Mo_work.2.1 299 = .ok (.iastore, 1) := by decide +kernel
theorem d_Mo_work_300 : decode m_Mo_work.2.1 300 = .ok (.goto 116, 3) := by decide +kernel
theorem d_Mo_work_303 : decode m_Mo_work.2.1 303 = .ok (.aload_n 0, 1) := by decide +kernel
theorem d_Mo_work_304 : decode m_Mo_work.2.1 304 = .ok (.getfield 19, 3) := by decide +kernel
theorem d_Mo_work_307 : decode m_Mo_work.2.1 307 = .ok (.iload 5, 2) := by decide +kernel
theorem d_Mo_work_309 : decode m_Mo_work.2.1 309 = .ok (.aload_n 0, 1) := by decide +kernel
theorem d_Mo_work_310 : decode m_Mo_work.2.1 310 = .ok (.getfield 19, 3) := by decide +kernel
theorem d_Mo_work_313 : decode m_Mo_work.2.1 313 = .ok (.iload 5, 2) := by decide +kernel
theorem d_Mo_work_315 : decode m_Mo_work.2.1 315 = .ok (.iaload, 1) := by decide +kernel
theorem d_Mo_work_316 : decode m_Mo_work.2.1 316 = .ok (.aload_n 0, 1) := by decide +kernel
theorem d_Mo_work_317 : decode m_Mo_work.2.1 317 = .ok (.getfield 13, 3) := by decide +kernel
theorem d_Mo_work_320 : decode m_Mo_work.2.1 320 = .ok (.iload 6, 2) := by decide +kernel
theorem d_Mo_work_322 : decode m_Mo_work.2.1 322 = .ok (.iconst 1, 1) := by decide +kernel
theorem d_Mo_work_323 : decode m_Mo_work.2.1 323 = .ok (.iadd, 1) := by decide +kernel
theorem d_Mo_work_324 : decode m_Mo_work.2.1 324 = .ok (.iaload, 1) := by decide +kernel
theorem d_Mo_work_325 : decode m_Mo_work.2.1 325 = .ok (.invokestatic 240, 3) := by decide +kernel
theorem d_Mo_work_328 : decode m_Mo_work.2.1 328 = .ok (.iadd, 1) := by decide +kernel
theorem d_Mo_work_329 : decode m_Mo_work.2.1 329 = .ok (.iastore, 1) := by decide +kernel
theorem d_Mo_work_330 : decode m_Mo_work.2.1 330 = .ok (.goto 86, 3) := by decide +kernel
theorem d_Mo_work_333 : decode m_Mo_work.2.1 333 = .ok (.aload_n 0, 1) := by decide +kernel
theorem d_Mo_work_334 : decode m_Mo_work.2.1 334 = .ok (.getfield 40, 3) := by decide +kernel
theorem d_Mo_work_337 : decode m_Mo_work.2.1 337 = .ok (.bipush 8, 2) := by decide +kernel
theorem d_Mo_work_339 : decode m_Mo_work.2.1 339 = .ok (.iload 11, 2) := by decide +kernel
theorem d_Mo_work_341 : decode m_Mo_work.2.1 341 = .ok (.imul, 1) := by decide +kernel
theorem d_Mo_work_342 : decode m_Mo_work.2.1 342 = .ok (.iload 9, 2) := by decide +kernel
theorem d_Mo_work_344 : decode m_Mo_work.2.1 344 = .ok (.iadd, 1) := by decide +kernel
theorem d_Mo_work_345 : decode m_Mo_work.2.1 345 = .ok (.iload 7, 2) := by decide +kernel
theorem d_Mo_work_347 : decode m_Mo_work.2.1 347 = .ok (.iastore, 1) := by decide +kernel
theorem d_Mo_work_348 : decode m_Mo_work.2.1 348 = .ok (.goto 68, 3) := by decide +kernel
theorem d_Mo_work_351 : decode m_Mo_work.2.1 351 = .ok (.goto 65, 3) := by decide +kernel
theorem d_Mo_work_354 : decode m_Mo_work.2.1 354 = .ok (.aload_n 0, 1) := by decide +kernel
theorem d_Mo_work_355 : decode m_Mo_work.2.1 355 = .ok (.iload_n 1, 1) := by decide +kernel
theorem d_Mo_work_356 : decode m_Mo_work.2.1 356 = .ok (.iload 8, 2) := by decide +kernel
theorem d_Mo_work_358 : decode m_Mo_work.2.1 358 = .ok (.iload 7, 2) := by decide +kernel
theorem d_Mo_work_360 : decode m_Mo_work.2.1 360 = .ok (.invokevirtual 166, 3) := by decide +kernel
theorem d_Mo_work_363 : decode m_Mo_work.2.1 363 = .ok (.aload_n 0, 1) := by decide +kernel
theorem d_Mo_work_364 : decode m_Mo_work.2.1 364 = .ok (.iload_n 1, 1) := by decide +kernel
theorem d_Mo_work_365 : decode m_Mo_work.2.1 365 = .ok (.iload 8, 2) := by decide +kernel
theorem d_Mo_work_367 : decode m_Mo_work.2.1 367 = .ok (.iload 7, 2) := by decide +kernel
theorem d_Mo_work_369 : decode m_Mo_work.2.1 369 = .ok (.invokevirtual 166, 3) := by decide +kernel
theorem d_Mo_work_372 : decode m_Mo_work.2.1 372 = .ok (.goto 44, 3) := by decide +kernel
theorem d_Mo_work_375 : decode m_Mo_work.2.1 375 = .ok (.aload_n 0, 1) := by decide +kernel
theorem d_Mo_work_376 : decode m_Mo_work.2.1 376 = .ok (.iload_n 1, 1) := by decide +kernel
theorem d_Mo_work_377 : decode m_Mo_work.2.1 377 = .ok (.iload 8, 2) := by decide +kernel
theorem d_Mo_work_379 : decode m_Mo_work.2.1 379 = .ok (.iload 7, 2) := by decide +kernel
theorem d_Mo_work_381 : decode m_Mo_work.2.1 381 = .ok (.invokevirtual 166, 3) := by decide +kernel
theorem d_Mo_work_384 : decode m_Mo_work.2.1 384 = .ok (.aload_n 0, 1) := by decide +kernel
theorem d_Mo_work_385 : decode m_Mo_work.2.1 385 = .ok (.iload_n 1, 1) := by decide +kernel
theorem d_Mo_work_386 : decode m_Mo_work.2.1 386 = .ok (.iload 10, 2) := by decide +kernel
theorem d_Mo_work_388 : decode m_Mo_work.2.1 388 = .ok (.iload 9, 2) := by decide +kernel
theorem d_Mo_work_390 : decode m_Mo_work.2.1 390 = .ok (.invokevirtual 166, 3) := by decide +kernel
theorem d_Mo_work_393 : decode m_Mo_work.2.1 393 = .ok (.goto 23, 3) := by decide +kernel
theorem d_Mo_work_396 : decode m_Mo_work.2.1 396 = .ok (.aload_n 0, 1) := by decide +kernel
theorem d_Mo_work_397 : decode m_Mo_work.2.1 397 = .ok (.iload_n 1, 1) := by decide +kernel
theorem d_Mo_work_398 : decode m_Mo_work.2.1 398 = .ok (.iload_n 3, 1) := by decide +kernel
theorem d_Mo_work_399 : decode m_Mo_work.2.1 399 = .ok (.invokestatic 151, 3) := by decide +kernel
theorem d_Mo_work_402 : decode m_Mo_work.2.1 402 = .ok (.aload_n 0, 1) := by decide +kernel
theorem d_Mo_work_403 : decode m_Mo_work.2.1 403 = .ok (.iload_n 3, 1) := by decide +kernel
theorem d_Mo_work_404 : decode m_Mo_work.2.1 404 = .ok (.iload 6, 2) := by decide +kernel
theorem d_Mo_work_406 : decode m_Mo_work.2.1 406 = .ok (.iload 9, 2) := by decide +kernel
theorem d_Mo_work_408 : decode m_Mo_work.2.1 408 = .ok (.iload 7, 2) := by decide +kernel
theorem d_Mo_work_410 : decode m_Mo_work.2.1 410 = .ok (.invokevirtual 243, 3) := by decide +kernel
theorem d_Mo_work_413 : decode m_Mo_work.2.1 413 = .ok (.invokevirtual 166, 3) := by decide +kernel
theorem d_Mo_work_416 : decode m_Mo_work.2.1 416 = .ok (.return_, 1) := by decide +kernel
theorem d_Mo_small_0 : decode m_Mo_small.2.1 0 = .ok (.iload_n 0, 1) := by decide +kernel
theorem d_Mo_small_1 : decode m_Mo_small.2.1 1 = .ok (.bipush 127, 2) := by decide +kernel
theorem d_Mo_small_3 : decode m_Mo_small.2.1 3 = .ok (.if_icmp .le 11, 3) := by decide +kernel
theorem d_Mo_small_6 : decode m_Mo_small.2.1 6 = .ok (.iload_n 0, 1) := by decide +kernel
theorem d_Mo_small_7 : decode m_Mo_small.2.1 7 = .ok (.sipush 256, 3) := by decide +kernel
theorem d_Mo_small_10 : decode m_Mo_small.2.1 10 = .ok (.isub, 1) := by decide +kernel
theorem d_Mo_small_11 : decode m_Mo_small.2.1 11 = .ok (.goto 4, 3) := by decide +kernel
theorem d_Mo_small_14 : decode m_Mo_small.2.1 14 = .ok (.iload_n 0, 1) := by decide +kernel
theorem d_Mo_small_15 : decode m_Mo_small.2.1 15 = .ok (.ireturn, 1) := by decide +kernel
theorem d_Mo_value_0 : decode m_Mo_value.2.1 0 = .ok (.iload_n 1, 1) := by decide +kernel
theorem d_Mo_value_1 : decode m_Mo_value.2.1 1 = .ok (.lookupswitch 158 #[(1, 91), (16, 93), (18, 103), (46, 114), (96, 127), (100, 132), (104, 137), (108, 142), (116, 147), (188, 151)], 91) := by decide +kernel
theorem d_Mo_value_92 : decode m_Mo_value.2.1 92 = .ok (.iconst 0, 1) := by decide +kernel
theorem d_Mo_value_93 : decode m_Mo_value.2.1 93 = .ok (.ireturn, 1) := by decide +kernel
theorem d_Mo_value_94 : decode m_Mo_value.2.1 94 = .ok (.aload_n 0, 1) := by decide +kernel
theorem d_Mo_value_95 : decode m_Mo_value.2.1 95 = .ok (.getfield 13, 3) := by decide +kernel
theorem d_Mo_value_98 : decode m_Mo_value.2.1 98 = .ok (.iload_n 2, 1) := by decide +kernel
theorem d_Mo_value_99 : decode m_Mo_value.2.1 99 = .ok (.iaload, 1) := by decide +kernel
theorem d_Mo_value_100 : decode m_Mo_value.2.1 100 = .ok (.invokestatic 240, 3) := by decide +kernel
theorem d_Mo_value_103 : decode m_Mo_value.2.1 103 = .ok (.ireturn, 1) := by decide +kernel
theorem d_Mo_value_104 : decode m_Mo_value.2.1 104 = .ok (.aload_n 0, 1) := by decide +kernel
theorem d_Mo_value_105 : decode m_Mo_value.2.1 105 = .ok (.aload_n 0, 1) := by decide +kernel
theorem d_Mo_value_106 : decode m_Mo_value.2.1 106 = .ok (.getfield 13, 3) := by decide +kernel
theorem d_Mo_value_109 : decode m_Mo_value.2.1 109 = .ok (.iload_n 2, 1) := by decide +kernel
theorem d_Mo_value_110 : decode m_Mo_value.2.1 110 = .ok (.iaload, 1) := by decide +kernel
theorem d_Mo_value_111 : decode m_Mo_value.2.1 111 = .ok (.invokevirtual 247, 3) := by decide +kernel
theorem d_Mo_value_114 : decode m_Mo_value.2.1 114 = .ok (.ireturn, 1) := by decide +kernel
theorem d_Mo_value_115 : decode m_Mo_value.2.1 115 = .ok (.aload_n 0, 1) := by decide +kernel
theorem d_Mo_value_116 : decode m_Mo_value.2.1 116 = .ok (.getfield 40, 3) := by decide +kernel
theorem d_Mo_value_119 : decode m_Mo_value.2.1 119 = .ok (.bipush 8, 2) := by decide +kernel
theorem d_Mo_value_121 : decode m_Mo_value.2.1 121 = .ok (.iload_n 3, 1) := by decide +kernel
theorem d_Mo_value_122 : decode m_Mo_value.2.1 122 = .ok (.imul, 1) := by decide +kernel
theorem d_Mo_value_123 : decode m_Mo_value.2.1 123 = .ok (.iload 4, 2) := by decide +kernel
theorem d_Mo_value_125 : decode m_Mo_value.2.1 125 = .ok (.iadd, 1) := by decide +kernel
theorem d_Mo_value_126 : decode m_Mo_value.2.1 126 = .ok (.iaload, 1) := by decide +kernel
theorem d_Mo_value_127 : decode m_Mo_value.2.1 127 = .ok (.ireturn, 1) := by decide +kernel
theorem d_Mo_value_128 : decode m_Mo_value.2.1 128 = .ok (.iload_n 3, 1) := by decide +kernel
theorem d_Mo_value_129 : decode m_Mo_value.2.1 129 = .ok (.iload 4, 2) := by decide +kernel
theorem d_Mo_value_131 : decode m_Mo_value.2.1 131 = .ok (.iadd, 1) := by decide +kernel
theorem d_Mo_value_132 : decode m_Mo_value.2.1 132 = .ok (.ireturn, 1) := by decide +kernel
theorem d_Mo_value_133 : decode m_Mo_value.2.1 133 = .ok (.iload_n 3, 1) := by decide +kernel
theorem d_Mo_value_134 : decode m_Mo_value.2.1 134 = .ok (.iload 4, 2) := by decide +kernel
theorem d_Mo_value_136 : decode m_Mo_value.2.1 136 = .ok (.isub, 1) := by decide +kernel
theorem d_Mo_value_137 : decode m_Mo_value.2.1 137 = .ok (.ireturn, 1) := by decide +kernel
theorem d_Mo_value_138 : decode m_Mo_value.2.1 138 = .ok (.iload_n 3, 1) := by decide +kernel
theorem d_Mo_value_139 : decode m_Mo_value.2.1 139 = .ok (.iload 4, 2) := by decide +kernel
theorem d_Mo_value_141 : decode m_Mo_value.2.1 141 = .ok (.imul, 1) := by decide +kernel
theorem d_Mo_value_142 : decode m_Mo_value.2.1 142 = .ok (.ireturn, 1) := by decide +kernel
theorem d_Mo_value_143 : decode m_Mo_value.2.1 143 = .ok (.iload_n 3, 1) := by decide +kernel
theorem d_Mo_value_144 : decode m_Mo_value.2.1 144 = .ok (.iload 4, 2) := by decide +kernel
theorem d_Mo_value_146 : decode m_Mo_value.2.1 146 = .ok (.idiv, 1) := by decide +kernel
theorem d_Mo_value_147 : decode m_Mo_value.2.1 147 = .ok (.ireturn, 1) := by decide +kernel
theorem d_Mo_value_148 : decode m_Mo_value.2.1 148 = .ok (.iload 4, 2) := by decide +kernel
theorem d_Mo_value_150 : decode m_Mo_value.2.1 150 = .ok (.ineg, 1) := by decide +kernel
theorem d_Mo_value_151 : decode m_Mo_value.2.1 151 = .ok (.ireturn, 1) := by decide +kernel
theorem d_Mo_value_152 : decode m_Mo_value.2.1 152 = .ok (.aload_n 0, 1) := by decide +kernel
theorem d_Mo_value_153 : decode m_Mo_value.2.1 153 = .ok (.iload 4, 2) := by decide +kernel
theorem d_Mo_value_155 : decode m_Mo_value.2.1 155 = .ok (.invokevirtual 207, 3) := by decide +kernel
theorem d_Mo_value_158 : decode m_Mo_value.2.1 158 = .ok (.ireturn, 1) := by decide +kernel
theorem d_Mo_value_159 : decode m_Mo_value.2.1 159 = .ok (.aload_n 0, 1) := by decide +kernel
theorem d_Mo_value_160 : decode m_Mo_value.2.1 160 = .ok (.getfield 37, 3) := by decide +kernel
theorem d_Mo_value_163 : decode m_Mo_value.2.1 163 = .ok (.iload 4, 2) := by decide +kernel
theorem d_Mo_value_165 : decode m_Mo_value.2.1 165 = .ok (.iaload, 1) := by decide +kernel
theorem d_Mo_value_166 : decode m_Mo_value.2.1 166 = .ok (.ireturn, 1) := by decide +kernel
theorem d_Mo_result_0 : decode m_Mo_result.2.1 0 = .ok (.aload_n 0, 1) := by decide +kernel
theorem d_Mo_result_1 : decode m_Mo_result.2.1 1 = .ok (.iconst 0, 1) := by decide +kernel
theorem d_Mo_result_2 : decode m_Mo_result.2.1 2 = .ok (.putfield 43, 3) := by decide +kernel
theorem d_Mo_result_5 : decode m_Mo_result.2.1 5 = .ok (.aload_n 0, 1) := by decide +kernel
theorem d_Mo_result_6 : decode m_Mo_result.2.1 6 = .ok (.getfield 237, 3) := by decide +kernel
theorem d_Mo_result_9 : decode m_Mo_result.2.1 9 = .ok (.ireturn, 1) := by decide +kernel
theorem d_Mo_steps_0 : decode m_Mo_steps.2.1 0 = .ok (.aload_n 0, 1) := by decide +kernel
theorem d_Mo_steps_1 : decode m_Mo_steps.2.1 1 = .ok (.iconst 0, 1) := by decide +kernel
theorem d_Mo_steps_2 : decode m_Mo_steps.2.1 2 = .ok (.putfield 43, 3) := by decide +kernel
theorem d_Mo_steps_5 : decode m_Mo_steps.2.1 5 = .ok (.aload_n 0, 1) := by decide +kernel
theorem d_Mo_steps_6 : decode m_Mo_steps.2.1 6 = .ok (.getfield 212, 3) := by decide +kernel
theorem d_Mo_steps_9 : decode m_Mo_steps.2.1 9 = .ok (.ireturn, 1) := by decide +kernel
