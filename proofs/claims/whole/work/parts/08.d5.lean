theorem d_Mo_poke_38 : decode m_Mo_poke.2.1 38 = .ok (.aload_n 0, 1) := by decide +kernel
theorem d_Mo_poke_39 : decode m_Mo_poke.2.1 39 = .ok (.getfield 43, 3) := by decide +kernel
theorem d_Mo_poke_42 : decode m_Mo_poke.2.1 42 = .ok (.ifCond .ne 10, 3) := by decide +kernel
theorem d_Mo_poke_45 : decode m_Mo_poke.2.1 45 = .ok (.aload_n 0, 1) := by decide +kernel
theorem d_Mo_poke_46 : decode m_Mo_poke.2.1 46 = .ok (.getfield 7, 3) := by decide +kernel
theorem d_Mo_poke_49 : decode m_Mo_poke.2.1 49 = .ok (.iload_n 1, 1) := by decide +kernel
theorem d_Mo_poke_50 : decode m_Mo_poke.2.1 50 = .ok (.iload_n 2, 1) := by decide +kernel
theorem d_Mo_poke_51 : decode m_Mo_poke.2.1 51 = .ok (.iastore, 1) := by decide +kernel
theorem d_Mo_poke_52 : decode m_Mo_poke.2.1 52 = .ok (.return_, 1) := by decide +kernel
theorem d_Mo_size_0 : decode m_Mo_size.2.1 0 = .ok (.aload_n 0, 1) := by decide +kernel
theorem d_Mo_size_1 : decode m_Mo_size.2.1 1 = .ok (.iconst 0, 1) := by decide +kernel
theorem d_Mo_size_2 : decode m_Mo_size.2.1 2 = .ok (.putfield 43, 3) := by decide +kernel
theorem d_Mo_size_5 : decode m_Mo_size.2.1 5 = .ok (.aload_n 0, 1) := by decide +kernel
theorem d_Mo_size_6 : decode m_Mo_size.2.1 6 = .ok (.getfield 61, 3) := by decide +kernel
theorem d_Mo_size_9 : decode m_Mo_size.2.1 9 = .ok (.ireturn, 1) := by decide +kernel
theorem d_Mo_byteAt_0 : decode m_Mo_byteAt.2.1 0 = .ok (.aload_n 0, 1) := by decide +kernel
theorem d_Mo_byteAt_1 : decode m_Mo_byteAt.2.1 1 = .ok (.iload_n 1, 1) := by decide +kernel
theorem d_Mo_byteAt_2 : decode m_Mo_byteAt.2.1 2 = .ok (.iconst 0, 1) := by decide +kernel
theorem d_Mo_byteAt_3 : decode m_Mo_byteAt.2.1 3 = .ok (.aload_n 0, 1) := by decide +kernel
theorem d_Mo_byteAt_4 : decode m_Mo_byteAt.2.1 4 = .ok (.getfield 61, 3) := by decide +kernel
theorem d_Mo_byteAt_7 : decode m_Mo_byteAt.2.1 7 = .ok (.iconst 1, 1) := by decide +kernel
theorem d_Mo_byteAt_8 : decode m_Mo_byteAt.2.1 8 = .ok (.isub, 1) := by decide +kernel
theorem d_Mo_byteAt_9 : decode m_Mo_byteAt.2.1 9 = .ok (.invokestatic 47, 3) := by decide +kernel
theorem d_Mo_byteAt_12 : decode m_Mo_byteAt.2.1 12 = .ok (.ifCond .eq 7, 3) := by decide +kernel
theorem d_Mo_byteAt_15 : decode m_Mo_byteAt.2.1 15 = .ok (.iconst 0, 1) := by decide +kernel
theorem d_Mo_byteAt_16 : decode m_Mo_byteAt.2.1 16 = .ok (.goto 4, 3) := by decide +kernel
theorem d_Mo_byteAt_19 : decode m_Mo_byteAt.2.1 19 = .ok (.iconst 1, 1) := by decide +kernel
theorem d_Mo_byteAt_20 : decode m_Mo_byteAt.2.1 20 = .ok (.putfield 43, 3) := by decide +kernel
theorem d_Mo_byteAt_23 : decode m_Mo_byteAt.2.1 23 = .ok (.aload_n 0, 1) := by decide +kernel
theorem d_Mo_byteAt_24 : decode m_Mo_byteAt.2.1 24 = .ok (.getfield 43, 3) := by decide +kernel
theorem d_Mo_byteAt_27 : decode m_Mo_byteAt.2.1 27 = .ok (.ifCond .le 7, 3) := by decide +kernel
theorem d_Mo_byteAt_30 : decode m_Mo_byteAt.2.1 30 = .ok (.iconst 0, 1) := by decide +kernel
theorem d_Mo_byteAt_31 : decode m_Mo_byteAt.2.1 31 = .ok (.goto 9, 3) := by decide +kernel
theorem d_Mo_byteAt_34 : decode m_Mo_byteAt.2.1 34 = .ok (.aload_n 0, 1) := by decide +kernel
theorem d_Mo_byteAt_35 : decode m_Mo_byteAt.2.1 35 = .ok (.getfield 7, 3) := by decide +kernel
theorem d_Mo_byteAt_38 : decode m_Mo_byteAt.2.1 38 = .ok (.iload_n 1, 1) := by decide +kernel
theorem d_Mo_byteAt_39 : decode m_Mo_byteAt.2.1 39 = .ok (.iaload, 1) := by decide +kernel
theorem d_Mo_byteAt_40 : decode m_Mo_byteAt.2.1 40 = .ok (.ireturn, 1) := by decide +kernel
theorem d_Mo_clear_0 : decode m_Mo_clear.2.1 0 = .ok (.aload_n 0, 1) := by decide +kernel
theorem d_Mo_clear_1 : decode m_Mo_clear.2.1 1 = .ok (.iconst 0, 1) := by decide +kernel
theorem d_Mo_clear_2 : decode m_Mo_clear.2.1 2 = .ok (.putfield 43, 3) := by decide +kernel
theorem d_Mo_clear_5 : decode m_Mo_clear.2.1 5 = .ok (.aload_n 0, 1) := by decide +kernel
theorem d_Mo_clear_6 : decode m_Mo_clear.2.1 6 = .ok (.iconst 0, 1) := by decide +kernel
theorem d_Mo_clear_7 : decode m_Mo_clear.2.1 7 = .ok (.putfield 61, 3) := by decide +kernel
theorem d_Mo_clear_10 : decode m_Mo_clear.2.1 10 = .ok (.return_, 1) := by decide +kernel
theorem d_Mo_next_0 : decode m_Mo_next.2.1 0 = .ok (.aload_n 0, 1) := by decide +kernel
theorem d_Mo_next_1 : decode m_Mo_next.2.1 1 = .ok (.getfield 64, 3) := by decide +kernel
theorem d_Mo_next_4 : decode m_Mo_next.2.1 4 = .ok (.ifCond .ne 31, 3) := by decide +kernel
theorem d_Mo_next_7 : decode m_Mo_next.2.1 7 = .ok (.aload_n 0, 1) := by decide +kernel
theorem d_Mo_next_8 : decode m_Mo_next.2.1 8 = .ok (.getfield 68, 3) := by decide +kernel
theorem d_Mo_next_11 : decode m_Mo_next.2.1 11 = .ok (.aload_n 0, 1) := by decide +kernel
theorem d_Mo_next_12 : decode m_Mo_next.2.1 12 = .ok (.getfield 61, 3) := by decide +kernel
theorem d_Mo_next_15 : decode m_Mo_next.2.1 15 = .ok (.if_icmp .ge 20, 3) := by decide +kernel
theorem d_Mo_next_18 : decode m_Mo_next.2.1 18 = .ok (.aload_n 0, 1) := by decide +kernel
theorem d_Mo_next_19 : decode m_Mo_next.2.1 19 = .ok (.getfield 7, 3) := by decide +kernel
theorem d_Mo_next_22 : decode m_Mo_next.2.1 22 = .ok (.aload_n 0, 1) := by decide +kernel
theorem d_Mo_next_23 : decode m_Mo_next.2.1 23 = .ok (.getfield 68, 3) := by decide +kernel
theorem d_Mo_next_26 : decode m_Mo_next.2.1 26 = .ok (.iaload, 1) := by decide +kernel
theorem d_Mo_next_27 : decode m_Mo_next.2.1 27 = .ok (.iload_n 1, 1) := by decide +kernel
theorem d_Mo_next_28 : decode m_Mo_next.2.1 28 = .ok (.iload_n 2, 1) := by decide +kernel
theorem d_Mo_next_29 : decode m_Mo_next.2.1 29 = .ok (.invokestatic 47, 3) := by decide +kernel
theorem d_Mo_next_32 : decode m_Mo_next.2.1 32 = .ok (.ifCond .ne 10, 3) := by decide +kernel
theorem d_Mo_next_35 : decode m_Mo_next.2.1 35 = .ok (.aload_n 0, 1) := by decide +kernel
theorem d_Mo_next_36 : decode m_Mo_next.2.1 36 = .ok (.iconst 1, 1) := by decide +kernel
theorem d_Mo_next_37 : decode m_Mo_next.2.1 37 = .ok (.putfield 64, 3) := by decide +kernel
theorem d_Mo_next_40 : decode m_Mo_next.2.1 40 = .ok (.iconst 0, 1) := by decide +kernel
theorem d_Mo_next_41 : decode m_Mo_next.2.1 41 = .ok (.ireturn, 1) := by decide +kernel
theorem d_Mo_next_42 : decode m_Mo_next.2.1 42 = .ok (.aload_n 0, 1) := by decide +kernel
theorem d_Mo_next_43 : decode m_Mo_next.2.1 43 = .ok (.dup, 1) := by decide +kernel
theorem d_Mo_next_44 : decode m_Mo_next.2.1 44 = .ok (.getfield 68, 3) := by decide +kernel
theorem d_Mo_next_47 : decode m_Mo_next.2.1 47 = .ok (.iconst 1, 1) := by decide +kernel
theorem d_Mo_next_48 : decode m_Mo_next.2.1 48 = .ok (.iadd, 1) := by decide +kernel
theorem d_Mo_next_49 : decode m_Mo_next.2.1 49 = .ok (.putfield 68, 3) := by decide +kernel
theorem d_Mo_next_52 : decode m_Mo_next.2.1 52 = .ok (.aload_n 0, 1) := by decide +kernel
theorem d_Mo_next_53 : decode m_Mo_next.2.1 53 = .ok (.getfield 7, 3) := by decide +kernel
theorem d_Mo_next_56 : decode m_Mo_next.2.1 56 = .ok (.aload_n 0, 1) := by decide +kernel
theorem d_Mo_next_57 : decode m_Mo_next.2.1 57 = .ok (.getfield 68, 3) := by decide +kernel
theorem d_Mo_next_60 : decode m_Mo_next.2.1 60 = .ok (.iconst 1, 1) := by decide +kernel
theorem d_Mo_next_61 : decode m_Mo_next.2.1 61 = .ok (.isub, 1) := by decide +kernel
theorem d_Mo_next_62 : decode m_Mo_next.2.1 62 = .ok (.iaload, 1) := by decide +kernel
theorem d_Mo_next_63 : decode m_Mo_next.2.1 63 = .ok (.ireturn, 1) := by decide +kernel
theorem d_Mo_skip_0 : decode m_Mo_skip.2.1 0 = .ok (.iconst 0, 1) := by decide +kernel
theorem d_Mo_skip_1 : decode m_Mo_skip.2.1 1 = .ok (.istore 4, 2) := by decide +kernel
theorem d_Mo_skip_3 : decode m_Mo_skip.2.1 3 = .ok (.iload 4, 2) := by decide +kernel
theorem d_Mo_skip_5 : decode m_Mo_skip.2.1 5 = .ok (.iload_n 1, 1) := by decide +kernel
theorem d_Mo_skip_6 : decode m_Mo_skip.2.1 6 = .ok (.if_icmp .ge 38, 3) := by decide +kernel
theorem d_Mo_skip_9 : decode m_Mo_skip.2.1 9 = .ok (.aload_n 0, 1) := by decide +kernel
theorem d_Mo_skip_10 : decode m_Mo_skip.2.1 10 = .ok (.iload_n 2, 1) := by decide +kernel
theorem d_Mo_skip_11 : decode m_Mo_skip.2.1 11 = .ok (.iload_n 3, 1) := by decide +kernel
theorem d_Mo_skip_12 : decode m_Mo_skip.2.1 12 = .ok (.invokevirtual 71, 3) := by decide +kernel
theorem d_Mo_skip_15 : decode m_Mo_skip.2.1 15 = .ok (.istore 5, 2) := by decide +kernel
theorem d_Mo_skip_17 : decode m_Mo_skip.2.1 17 = .ok (.aload_n 0, 1) := by decide +kernel
theorem d_Mo_skip_18 : decode m_Mo_skip.2.1 18 = .ok (.aload_n 0, 1) := by decide +kernel
theorem d_Mo_skip_19 : decode m_Mo_skip.2.1 19 = .ok (.getfield 64, 3) := by decide +kernel
theorem d_Mo_skip_22 : decode m_Mo_skip.2.1 22 = .ok (.ifCond .ne 8, 3) := by decide +kernel
theorem d_Mo_skip_25 : decode m_Mo_skip.2.1 25 = .ok (.iload 5, 2) := by decide +kernel
theorem d_Mo_skip_27 : decode m_Mo_skip.2.1 27 = .ok (.ifCond .ge 7, 3) := by decide +kernel
theorem d_Mo_skip_30 : decode m_Mo_skip.2.1 30 = .ok (.iconst 1, 1) := by decide +kernel
theorem d_Mo_skip_31 : decode m_Mo_skip.2.1 31 = .ok (.goto 4, 3) := by decide +kernel
theorem d_Mo_skip_34 : decode m_Mo_skip.2.1 34 = .ok (.iconst 0, 1) := by decide +kernel
theorem d_Mo_skip_35 : decode m_Mo_skip.2.1 35 = .ok (.putfield 64, 3) := by decide +kernel
theorem d_Mo_skip_38 : decode m_Mo_skip.2.1 38 = .ok (.iinc 4 1, 3) := by decide +kernel
theorem d_Mo_skip_41 : decode m_Mo_skip.2.1 41 = .ok (.goto (-38), 3) := by decide +kernel
theorem d_Mo_skip_44 : decode m_Mo_skip.2.1 44 = .ok (.return_, 1) := by decide +kernel
theorem d_Mo_readInstruction_0 : decode m_Mo_readInstruction.2.1 0 = .ok (.aload_n 0, 1) := by decide +kernel
theorem d_Mo_readInstruction_1 : decode m_Mo_readInstruction.2.1 1 = .ok (.iconst 0, 1) := by decide +kernel
theorem d_Mo_readInstruction_2 : decode m_Mo_readInstruction.2.1 2 = .ok (.sipush 255, 3) := by decide +kernel
theorem d_Mo_readInstruction_5 : decode m_Mo_readInstruction.2.1 5 = .ok (.invokevirtual 71, 3) := by decide +kernel
theorem d_Mo_readInstruction_8 : decode m_Mo_readInstruction.2.1 8 = .ok (.istore 5, 2) := by decide +kernel
theorem d_Mo_readInstruction_10 : decode m_Mo_readInstruction.2.1 10 = .ok (.aload_n 0, 1) := by decide +kernel
theorem d_Mo_readInstruction_11 : decode m_Mo_readInstruction.2.1 11 = .ok (.getfield 64, 3) := by decide +kernel
theorem d_Mo_readInstruction_14 : decode m_Mo_readInstruction.2.1 14 = .ok (.ifCond .eq 7, 3) := by decide +kernel
theorem d_Mo_readInstruction_17 : decode m_Mo_readInstruction.2.1 17 = .ok (.iconst 0, 1) := by decide +kernel
theorem d_Mo_readInstruction_18 : decode m_Mo_readInstruction.2.1 18 = .ok (.goto 8, 3) := by decide +kernel
theorem d_Mo_readInstruction_21 : decode m_Mo_readInstruction.2.1 21 = .ok (.iload 5, 2) := by decide +kernel
theorem d_Mo_readInstruction_23 : decode m_Mo_readInstruction.2.1 23 = .ok (.invokestatic 75, 3) := by decide +kernel
theorem d_Mo_readInstruction_26 : decode m_Mo_readInstruction.2.1 26 = .ok (.istore 6, 2) := by decide +kernel
theorem d_Mo_readInstruction_28 : decode m_Mo_readInstruction.2.1 28 = .ok (.aload_n 0, 1) := by decide +kernel
theorem d_Mo_readInstruction_29 : decode m_Mo_readInstruction.2.1 29 = .ok (.getfield 64, 3) := by decide +kernel
theorem d_Mo_readInstruction_32 : decode m_Mo_readInstruction.2.1 32 = .ok (.ifCond .ne 23, 3) := by decide +kernel
theorem d_Mo_readInstruction_35 : decode m_Mo_readInstruction.2.1 35 = .ok (.iload 6, 2) := by decide +kernel
theorem d_Mo_readInstruction_37 : decode m_Mo_readInstruction.2.1 37 = .ok (.ifCond .ne 18, 3) := by decide +kernel
theorem d_Mo_readInstruction_40 : decode m_Mo_readInstruction.2.1 40 = .ok (.aload_n 0, 1) := by decide +kernel
theorem d_Mo_readInstruction_41 : decode m_Mo_readInstruction.2.1 41 = .ok (.dup, 1) := by decide +kernel
theorem d_Mo_readInstruction_42 : decode m_Mo_readInstruction.2.1 42 = .ok (.getfield 68, 3) := by decide +kernel
theorem d_Mo_readInstruction_45 : decode m_Mo_readInstruction.2.1 45 = .ok (.iconst 1, 1) := by decide +kernel
theorem d_Mo_readInstruction_46 : decode m_Mo_readInstruction.2.1 46 = .ok (.isub, 1) := by decide +kernel
theorem d_Mo_readInstruction_47 : decode m_Mo_readInstruction.2.1 47 = .ok (.putfield 68, 3) := by decide +kernel
theorem d_Mo_readInstruction_50 : decode m_Mo_readInstruction.2.1 50 = .ok (.aload_n 0, 1) := by decide +kernel
theorem d_Mo_readInstruction_51 : decode m_Mo_readInstruction.2.1 51 = .ok (.iconst 1, 1) := by decide +kernel
theorem d_Mo_readInstruction_52 : decode m_Mo_readInstruction.2.1 52 = .ok (.putfield 64, 3) := by decide +kernel
theorem d_Mo_readInstruction_55 : decode m_Mo_readInstruction.2.1 55 = .ok (.iconst 1, 1) := by decide +kernel
theorem d_Mo_readInstruction_56 : decode m_Mo_readInstruction.2.1 56 = .ok (.istore 7, 2) := by decide +kernel
theorem d_Mo_readInstruction_58 : decode m_Mo_readInstruction.2.1 58 = .ok (.iload 7, 2) := by decide +kernel
theorem d_Mo_readInstruction_60 : decode m_Mo_readInstruction.2.1 60 = .ok (.iload 6, 2) := by decide +kernel
theorem d_Mo_readInstruction_62 : decode m_Mo_readInstruction.2.1 62 = .ok (.if_icmp .ge 111, 3) := by decide +kernel
theorem d_Mo_readInstruction_65 : decode m_Mo_readInstruction.2.1 65 = .ok (.aload_n 0, 1) := by decide +kernel
theorem d_Mo_readInstruction_66 : decode m_Mo_readInstruction.2.1 66 = .ok (.getfield 64, 3) := by decide +kernel
theorem d_Mo_readInstruction_69 : decode m_Mo_readInstruction.2.1 69 = .ok (.ifCond .ne 104, 3) := by decide +kernel
theorem d_Mo_readInstruction_72 : decode m_Mo_readInstruction.2.1 72 = .ok (.iload 7, 2) := by decide +kernel
theorem d_Mo_readInstruction_74 : decode m_Mo_readInstruction.2.1 74 = .ok (.iconst 1, 1) := by decide +kernel
theorem d_Mo_readInstruction_75 : decode m_Mo_readInstruction.2.1 75 = .ok (.if_icmp .le 9, 3) := by decide +kernel
theorem d_Mo_readInstruction_78 : decode m_Mo_readInstruction.2.1 78 = .ok (.sipush 255, 3) := by decide +kernel
theorem d_Mo_readInstruction_81 : decode m_Mo_readInstruction.2.1 81 = .ok (.goto 48, 3) := by decide +kernel
theorem d_Mo_readInstruction_84 : decode m_Mo_readInstruction.2.1 84 = .ok (.iload 5, 2) := by decide +kernel
theorem d_Mo_readInstruction_86 : decode m_Mo_readInstruction.2.1 86 = .ok (.bipush 18, 2) := by decide +kernel
theorem d_Mo_readInstruction_88 : decode m_Mo_readInstruction.2.1 88 = .ok (.if_icmp .ne 9, 3) := by decide +kernel
theorem d_Mo_readInstruction_91 : decode m_Mo_readInstruction.2.1 91 = .ok (.iload_n 2, 1) := by decide +kernel
theorem d_Mo_readInstruction_92 : decode m_Mo_readInstruction.2.1 92 = .ok (.iconst 1, 1) := by decide +kernel
theorem d_Mo_readInstruction_93 : decode m_Mo_readInstruction.2.1 93 = .ok (.isub, 1) := by decide +kernel
theorem d_Mo_readInstruction_94 : decode m_Mo_readInstruction.2.1 94 = .ok (.goto 35, 3) := by decide +kernel
theorem d_Mo_readInstruction_97 : decode m_Mo_readInstruction.2.1 97 = .ok (.iload 5, 2) := by decide +kernel
theorem d_Mo_readInstruction_99 : decode m_Mo_readInstruction.2.1 99 = .ok (.sipush 184, 3) := by decide +kernel
theorem d_Mo_readInstruction_102 : decode m_Mo_readInstruction.2.1 102 = .ok (.if_icmp .ne 9, 3) := by decide +kernel
theorem d_Mo_readInstruction_105 : decode m_Mo_readInstruction.2.1 105 = .ok (.iload_n 3, 1) := by decide +kernel
theorem d_Mo_readInstruction_106 : decode m_Mo_readInstruction.2.1 106 = .ok (.iconst 1, 1) := by decide +kernel
theorem d_Mo_readInstruction_107 : decode m_Mo_readInstruction.2.1 107 = .ok (.isub, 1) := by decide +kernel
theorem d_Mo_readInstruction_108 : decode m_Mo_readInstruction.2.1 108 = .ok (.goto 21, 3) := by decide +kernel
theorem d_Mo_readInstruction_111 : decode m_Mo_readInstruction.2.1 111 = .ok (.iload 5, 2) := by decide +kernel
theorem d_Mo_readInstruction_113 : decode m_Mo_readInstruction.2.1 113 = .ok (.invokestatic 55, 3) := by decide +kernel
theorem d_Mo_readInstruction_116 : decode m_Mo_readInstruction.2.1 116 = .ok (.ifCond .eq 10, 3) := by decide +kernel
theorem d_Mo_readInstruction_119 : decode m_Mo_readInstruction.2.1 119 = .ok (.iload 4, 2) := by decide +kernel
theorem d_Mo_readInstruction_121 : decode m_Mo_readInstruction.2.1 121 = .ok (.iconst 1, 1) := by decide +kernel
theorem d_Mo_readInstruction_122 : decode m_Mo_readInstruction.2.1 122 = .ok (.isub, 1) := by decide +kernel
theorem d_Mo_readInstruction_123 : decode m_Mo_readInstruction.2.1 123 = .ok (.goto 6, 3) := by decide +kernel
theorem d_Mo_readInstruction_126 : decode m_Mo_readInstruction.2.1 126 = .ok (.sipush 255, 3) := by decide +kernel
theorem d_Mo_readInstruction_129 : decode m_Mo_readInstruction.2.1 129 = .ok (.istore 8, 2) := by decide +kernel
theorem d_Mo_readInstruction_131 : decode m_Mo_readInstruction.2.1 131 = .ok (.aload_n 0, 1) := by decide +kernel
theorem d_Mo_readInstruction_132 : decode m_Mo_readInstruction.2.1 132 = .ok (.aload_n 0, 1) := by decide +kernel
theorem d_Mo_readInstruction_133 : decode m_Mo_readInstruction.2.1 133 = .ok (.getfield 68, 3) := by decide +kernel
theorem d_Mo_readInstruction_136 : decode m_Mo_readInstruction.2.1 136 = .ok (.iload_n 1, 1) := by decide +kernel
theorem d_Mo_readInstruction_137 : decode m_Mo_readInstruction.2.1 137 = .ok (.if_icmp .ne 7, 3) := by decide +kernel
theorem d_Mo_readInstruction_140 : decode m_Mo_readInstruction.2.1 140 = .ok (.iconst 1, 1) := by decide +kernel
theorem d_Mo_readInstruction_141 : decode m_Mo_readInstruction.2.1 141 = .ok (.goto 4, 3) := by decide +kernel
theorem d_Mo_readInstruction_144 : decode m_Mo_readInstruction.2.1 144 = .ok (.iconst 0, 1) := by decide +kernel
theorem d_Mo_readInstruction_145 : decode m_Mo_readInstruction.2.1 145 = .ok (.putfield 64, 3) := by decide +kernel
theorem d_Mo_readInstruction_148 : decode m_Mo_readInstruction.2.1 148 = .ok (.aload_n 0, 1) := by decide +kernel
theorem d_Mo_readInstruction_149 : decode m_Mo_readInstruction.2.1 149 = .ok (.aload_n 0, 1) := by decide +kernel
theorem d_Mo_readInstruction_150 : decode m_Mo_readInstruction.2.1 150 = .ok (.getfield 64, 3) := by decide +kernel
theorem d_Mo_readInstruction_153 : decode m_Mo_readInstruction.2.1 153 = .ok (.ifCond .eq 7, 3) := by decide +kernel
theorem d_Mo_readInstruction_156 : decode m_Mo_readInstruction.2.1 156 = .ok (.iconst 0, 1) := by decide +kernel
theorem d_Mo_readInstruction_157 : decode m_Mo_readInstruction.2.1 157 = .ok (.goto 4, 3) := by decide +kernel
theorem d_Mo_readInstruction_160 : decode m_Mo_readInstruction.2.1 160 = .ok (.iconst 1, 1) := by decide +kernel
theorem d_Mo_readInstruction_161 : decode m_Mo_readInstruction.2.1 161 = .ok (.iconst 0, 1) := by decide +kernel
theorem d_Mo_readInstruction_162 : decode m_Mo_readInstruction.2.1 162 = .ok (.iload 8, 2) := by decide +kernel
theorem d_Mo_readInstruction_164 : decode m_Mo_readInstruction.2.1 164 = .ok (.invokevirtual 79, 3) := by decide +kernel
theorem d_Mo_readInstruction_167 : decode m_Mo_readInstruction.2.1 167 = .ok (.iinc 7 1, 3) := by decide +kernel
theorem d_Mo_readInstruction_170 : decode m_Mo_readInstruction.2.1 170 = .ok (.goto (-112), 3) := by decide +kernel
theorem d_Mo_readInstruction_173 : decode m_Mo_readInstruction.2.1 173 = .ok (.return_, 1) := by decide +kernel
theorem d_Mo_begins_0 : decode m_Mo_begins.2.1 0 = .ok (.iconst 0, 1) := by decide +kernel
theorem d_Mo_begins_1 : decode m_Mo_begins.2.1 1 = .ok (.istore 4, 2) := by decide +kernel
theorem d_Mo_begins_3 : decode m_Mo_begins.2.1 3 = .ok (.iload 4, 2) := by decide +kernel
theorem d_Mo_begins_5 : decode m_Mo_begins.2.1 5 = .ok (.iload_n 2, 1) := by decide +kernel
theorem d_Mo_begins_6 : decode m_Mo_begins.2.1 6 = .ok (.if_icmp .ge 29, 3) := by decide +kernel
theorem d_Mo_begins_9 : decode m_Mo_begins.2.1 9 = .ok (.iload 4, 2) := by decide +kernel
theorem d_Mo_begins_11 : decode m_Mo_begins.2.1 11 = .ok (.iload_n 3, 1) := by decide +kernel
theorem d_Mo_begins_12 : decode m_Mo_begins.2.1 12 = .ok (.if_icmp .ge 23, 3) := by decide +kernel
theorem d_Mo_begins_15 : decode m_Mo_begins.2.1 15 = .ok (.iload 4, 2) := by decide +kernel
theorem d_Mo_begins_17 : decode m_Mo_begins.2.1 17 = .ok (.aload_n 0, 1) := by decide +kernel
theorem d_Mo_begins_18 : decode m_Mo_begins.2.1 18 = .ok (.getfield 7, 3) := by decide +kernel
theorem d_Mo_begins_21 : decode m_Mo_begins.2.1 21 = .ok (.iload_n 1, 1) := by decide +kernel
theorem d_Mo_begins_22 : decode m_Mo_begins.2.1 22 = .ok (.iload 4, 2) := by decide +kernel
theorem d_Mo_begins_24 : decode m_Mo_begins.2.1 24 = .ok (.iadd, 1) := by decide +kernel
theorem d_Mo_begins_25 : decode m_Mo_begins.2.1 25 = .ok (.iaload, 1) := by decide +kernel
theorem d_Mo_begins_26 : decode m_Mo_begins.2.1 26 = .ok (.invokestatic 75, 3) := by decide +kernel
theorem d_Mo_begins_29 : decode m_Mo_begins.2.1 29 = .ok (.iadd, 1) := by decide +kernel
theorem d_Mo_begins_30 : decode m_Mo_begins.2.1 30 = .ok (.istore 4, 2) := by decide +kernel
theorem d_Mo_begins_32 : decode m_Mo_begins.2.1 32 = .ok (.goto (-29), 3) := by decide +kernel
theorem d_Mo_begins_35 : decode m_Mo_begins.2.1 35 = .ok (.iload 4, 2) := by decide +kernel
theorem d_Mo_begins_37 : decode m_Mo_begins.2.1 37 = .ok (.iload_n 3, 1) := by decide +kernel
theorem d_Mo_begins_38 : decode m_Mo_begins.2.1 38 = .ok (.if_icmp .ne 13, 3) := by decide +kernel
theorem d_Mo_begins_41 : decode m_Mo_begins.2.1 41 = .ok (.iload 4, 2) := by decide +kernel
theorem d_Mo_begins_43 : decode m_Mo_begins.2.1 43 = .ok (.iload_n 2, 1) := by decide +kernel
theorem d_Mo_begins_44 : decode m_Mo_begins.2.1 44 = .ok (.if_icmp .ge 7, 3) := by decide +kernel
theorem d_Mo_begins_47 : decode m_Mo_begins.2.1 47 = .ok (.iconst 1, 1) := by decide +kernel
theorem d_Mo_begins_48 : decode m_Mo_begins.2.1 48 = .ok (.goto 4, 3) := by decide +kernel
theorem d_Mo_begins_51 : decode m_Mo_begins.2.1 51 = .ok (.iconst 0, 1) := by decide +kernel
theorem d_Mo_begins_52 : decode m_Mo_begins.2.1 52 = .ok (.ireturn, 1) := by decide +kernel
theorem d_Mo_jump_0 : decode m_Mo_jump.2.1 0 = .ok (.sipush 256, 3) := by decide +kernel
theorem d_Mo_jump_3 : decode m_Mo_jump.2.1 3 = .ok (.iload_n 0, 1) := by decide +kernel
theorem d_Mo_jump_4 : decode m_Mo_jump.2.1 4 = .ok (.imul, 1) := by decide +kernel
theorem d_Mo_jump_5 : decode m_Mo_jump.2.1 5 = .ok (.iload_n 1, 1) := by decide +kernel
theorem d_Mo_jump_6 : decode m_Mo_jump.2.1 6 = .ok (.iadd, 1) := by decide +kernel
theorem d_Mo_jump_7 : decode m_Mo_jump.2.1 7 = .ok (.istore_n 2, 1) := by decide +kernel
theorem d_Mo_jump_8 : decode m_Mo_jump.2.1 8 = .ok (.iload_n 2, 1) := by decide +kernel
theorem d_Mo_jump_9 : decode m_Mo_jump.2.1 9 = .ok (.sipush 32767, 3) := by decide +kernel
theorem d_Mo_jump_12 : decode m_Mo_jump.2.1 12 = .ok (.if_icmp .le 10, 3) := by decide +kernel
theorem d_Mo_jump_15 : decode m_Mo_jump.2.1 15 = .ok (.iload_n 2, 1) := by decide +kernel
theorem d_Mo_jump_16 : decode m_Mo_jump.2.1 16 = .ok (.ldc 83, 2) := by decide +kernel
theorem d_Mo_jump_18 : decode m_Mo_jump.2.1 18 = .ok (.isub, 1) := by decide +kernel
theorem d_Mo_jump_19 : decode m_Mo_jump.2.1 19 = .ok (.goto 4, 3) := by decide +kernel
theorem d_Mo_jump_22 : decode m_Mo_jump.2.1 22 = .ok (.iload_n 2, 1) := by decide +kernel
theorem d_Mo_jump_23 : decode m_Mo_jump.2.1 23 = .ok (.ireturn, 1) := by decide +kernel
theorem d_Mo_targetsFit_0 : decode m_Mo_targetsFit.2.1 0 = .ok (.iconst 1, 1) := by decide +kernel
theorem d_Mo_targetsFit_1 : decode m_Mo_targetsFit.2.1 1 = .ok (.istore_n 3, 1) := by decide +kernel
theorem d_Mo_targetsFit_2 : decode m_Mo_targetsFit.2.1 2 = .ok (.iconst 0, 1) := by decide +kernel
theorem d_Mo_targetsFit_3 : decode m_Mo_targetsFit.2.1 3 = .ok (.istore 4, 2) := by decide +kernel
theorem d_Mo_targetsFit_5 : decode m_Mo_targetsFit.2.1 5 = .ok (.iload 4, 2) := by decide +kernel
theorem d_Mo_targetsFit_7 : decode m_Mo_targetsFit.2.1 7 = .ok (.iload_n 2, 1) := by decide +kernel
theorem d_Mo_targetsFit_8 : decode m_Mo_targetsFit.2.1 8 = .ok (.if_icmp .ge 85, 3) := by decide +kernel
theorem d_Mo_targetsFit_11 : decode m_Mo_targetsFit.2.1 11 = .ok (.iload_n 1, 1) := by decide +kernel
theorem d_Mo_targetsFit_12 : decode m_Mo_targetsFit.2.1 12 = .ok (.iload 4, 2) := by decide +kernel
theorem d_Mo_targetsFit_14 : decode m_Mo_targetsFit.2.1 14 = .ok (.iadd, 1) := by decide +kernel
theorem d_Mo_targetsFit_15 : decode m_Mo_targetsFit.2.1 15 = .ok (.istore 5, 2) := by decide +kernel
theorem d_Mo_targetsFit_17 : decode m_Mo_targetsFit.2.1 17 = .ok (.iload_n 3, 1) := by decide +kernel
theorem d_Mo_targetsFit_18 : decode m_Mo_targetsFit.2.1 18 = .ok (.ifCond .eq 53, 3) := by decide +kernel
theorem d_Mo_targetsFit_21 : decode m_Mo_targetsFit.2.1 21 = .ok (.aload_n 0, 1) := by decide +kernel
theorem d_Mo_targetsFit_22 : decode m_Mo_targetsFit.2.1 22 = .ok (.getfield 7, 3) := by decide +kernel
theorem d_Mo_targetsFit_25 : decode m_Mo_targetsFit.2.1 25 = .ok (.iload 5, 2) := by decide +kernel
theorem d_Mo_targetsFit_27 : decode m_Mo_targetsFit.2.1 27 = .ok (.iaload, 1) := by decide +kernel
theorem d_Mo_targetsFit_28 : decode m_Mo_targetsFit.2.1 28 = .ok (.invokestatic 51, 3) := by decide +kernel
theorem d_Mo_targetsFit_31 : decode m_Mo_targetsFit.2.1 31 = .ok (.ifCond .eq 36, 3) := by decide +kernel
theorem d_Mo_targetsFit_34 : decode m_Mo_targetsFit.2.1 34 = .ok (.aload_n 0, 1) := by decide +kernel
theorem d_Mo_targetsFit_35 : decode m_Mo_targetsFit.2.1 35 = .ok (.iload_n 1, 1) := by decide +kernel
theorem d_Mo_targetsFit_36 : decode m_Mo_targetsFit.2.1 36 = .ok (.iload_n 2, 1) := by decide +kernel
theorem d_Mo_targetsFit_37 : decode m_Mo_targetsFit.2.1 37 = .ok (.iload 4, 2) := by decide +kernel
theorem d_Mo_targetsFit_39 : decode m_Mo_targetsFit.2.1 39 = .ok (.aload_n 0, 1) := by decide +kernel
theorem d_Mo_targetsFit_40 : decode m_Mo_targetsFit.2.1 40 = .ok (.getfield 7, 3) := by decide +kernel
theorem d_Mo_targetsFit_43 : decode m_Mo_targetsFit.2.1 43 = .ok (.iload 5, 2) := by decide +kernel
theorem d_Mo_targetsFit_45 : decode m_Mo_targetsFit.2.1 45 = .ok (.iconst 1, 1) := by decide +kernel
theorem d_Mo_targetsFit_46 : decode m_Mo_targetsFit.2.1 46 = .ok (.iadd, 1) := by decide +kernel
theorem d_Mo_targetsFit_47 : decode m_Mo_targetsFit.2.1 47 = .ok (.iaload, 1) := by decide +kernel
theorem d_Mo_targetsFit_48 : decode m_Mo_targetsFit.2.1 48 = .ok (.aload_n 0, 1) := by decide +kernel
theorem d_Mo_targetsFit_49 : decode m_Mo_targetsFit.2.1 49 = .ok (.getfield 7, 3) := by decide +kernel
theorem d_Mo_targetsFit_52 : decode m_Mo_targetsFit.2.1 52 = .ok (.iload 5, 2) := by decide +kernel
theorem d_Mo_targetsFit_54 : decode m_Mo_targetsFit.2.1 54 = .ok (.iconst 2, 1) := by decide +kernel
theorem d_Mo_targetsFit_55 : decode m_Mo_targetsFit.2.1 55 = .ok (.iadd, 1) := by decide +kernel
theorem d_Mo_targetsFit_56 : decode m_Mo_targetsFit.2.1 56 = .ok (.iaload, 1) := by decide +kernel
theorem d_Mo_targetsFit_57 : decode m_Mo_targetsFit.2.1 57 = .ok (.invokestatic 84, 3) := by decide +kernel
theorem d_Mo_targetsFit_60 : decode m_Mo_targetsFit.2.1 60 = .ok (.iadd, 1) := by decide +kernel
theorem d_Mo_targetsFit_61 : decode m_Mo_targetsFit.2.1 61 = .ok (.invokevirtual 87, 3) := by decide +kernel
theorem d_Mo_targetsFit_64 : decode m_Mo_targetsFit.2.1 64 = .ok (.ifCond .eq 7, 3) := by decide +kernel
theorem d_Mo_targetsFit_67 : decode m_Mo_targetsFit.2.1 67 = .ok (.iconst 1, 1) := by decide +kernel
theorem d_Mo_targetsFit_68 : decode m_Mo_targetsFit.2.1 68 = .ok (.goto 4, 3) := by decide +kernel
theorem d_Mo_targetsFit_71 : decode m_Mo_targetsFit.2.1 71 = .ok (.iconst 0, 1) := by decide +kernel
theorem d_Mo_targetsFit_72 : decode m_Mo_targetsFit.2.1 72 = .ok (.istore_n 3, 1) := by decide +kernel
theorem d_Mo_targetsFit_73 : decode m_Mo_targetsFit.2.1 73 = .ok (.iload 4, 2) := by decide +kernel
theorem d_Mo_targetsFit_75 : decode m_Mo_targetsFit.2.1 75 = .ok (.aload_n 0, 1) := by decide +kernel
theorem d_Mo_targetsFit_76 : decode m_Mo_targetsFit.2.1 76 = .ok (.getfield 7, 3) := by decide +kernel
theorem d_Mo_targetsFit_79 : decode m_Mo_targetsFit.2.1 79 = .ok (.iload_n 1, 1) := by decide +kernel
theorem d_Mo_targetsFit_80 : decode m_Mo_targetsFit.2.1 80 = .ok (.iload 4, 2) := by decide +kernel
theorem d_Mo_targetsFit_82 : decode m_Mo_targetsFit.2.1 82 = .ok (.iadd, 1) := by decide +kernel
theorem d_Mo_targetsFit_83 : decode m_Mo_targetsFit.2.1 83 = .ok (.iaload, 1) := by decide +kernel
theorem d_Mo_targetsFit_84 : decode m_Mo_targetsFit.2.1 84 = .ok (.invokestatic 75, 3) := by decide +kernel
theorem d_Mo_targetsFit_87 : decode m_Mo_targetsFit.2.1 87 = .ok (.iadd, 1) := by decide +kernel
theorem d_Mo_targetsFit_88 : decode m_Mo_targetsFit.2.1 88 = .ok (.istore 4, 2) := by decide +kernel
theorem d_Mo_targetsFit_90 : decode m_Mo_targetsFit.2.1 90 = .ok (.goto (-85), 3) := by decide +kernel
theorem d_Mo_targetsFit_93 : decode m_Mo_targetsFit.2.1 93 = .ok (.iload_n 3, 1) := by decide +kernel
theorem d_Mo_targetsFit_94 : decode m_Mo_targetsFit.2.1 94 = .ok (.ireturn, 1) := by decide +kernel
theorem d_Mo_readMethod_0 : decode m_Mo_readMethod.2.1 0 = .ok (.aload_n 0, 1) := by decide +kernel
theorem d_Mo_readMethod_1 : decode m_Mo_readMethod.2.1 1 = .ok (.iconst 0, 1) := by decide +kernel
theorem d_Mo_readMethod_2 : decode m_Mo_readMethod.2.1 2 = .ok (.iconst 3, 1) := by decide +kernel
theorem d_Mo_readMethod_3 : decode m_Mo_readMethod.2.1 3 = .ok (.invokevirtual 71, 3) := by decide +kernel
theorem d_Mo_readMethod_6 : decode m_Mo_readMethod.2.1 6 = .ok (.istore_n 3, 1) := by decide +kernel
theorem d_Mo_readMethod_7 : decode m_Mo_readMethod.2.1 7 = .ok (.aload_n 0, 1) := by decide +kernel
theorem d_Mo_readMethod_8 : decode m_Mo_readMethod.2.1 8 = .ok (.iload_n 3, 1) := by decide +kernel
theorem d_Mo_readMethod_9 : decode m_Mo_readMethod.2.1 9 = .ok (.iconst 1, 1) := by decide +kernel
theorem d_Mo_readMethod_10 : decode m_Mo_readMethod.2.1 10 = .ok (.iconst 2, 1) := by decide +kernel
theorem d_Mo_readMethod_11 : decode m_Mo_readMethod.2.1 11 = .ok (.invokevirtual 79, 3) := by decide +kernel
theorem d_Mo_readMethod_14 : decode m_Mo_readMethod.2.1 14 = .ok (.aload_n 0, 1) := by decide +kernel
theorem d_Mo_readMethod_15 : decode m_Mo_readMethod.2.1 15 = .ok (.iconst 0, 1) := by decide +kernel
theorem d_Mo_readMethod_16 : decode m_Mo_readMethod.2.1 16 = .ok (.iconst 2, 1) := by decide +kernel
theorem d_Mo_readMethod_17 : decode m_Mo_readMethod.2.1 17 = .ok (.invokevirtual 71, 3) := by decide +kernel
theorem d_Mo_readMethod_20 : decode m_Mo_readMethod.2.1 20 = .ok (.istore 4, 2) := by decide +kernel
theorem d_Mo_readMethod_22 : decode m_Mo_readMethod.2.1 22 = .ok (.aload_n 0, 1) := by decide +kernel
theorem d_Mo_readMethod_23 : decode m_Mo_readMethod.2.1 23 = .ok (.iconst 0, 1) := by decide +kernel
theorem d_Mo_readMethod_24 : decode m_Mo_readMethod.2.1 24 = .ok (.bipush 6, 2) := by decide +kernel
theorem d_Mo_readMethod_26 : decode m_Mo_readMethod.2.1 26 = .ok (.invokevirtual 71, 3) := by decide +kernel
theorem d_Mo_readMethod_29 : decode m_Mo_readMethod.2.1 29 = .ok (.istore 5, 2) := by decide +kernel
theorem d_Mo_readMethod_31 : decode m_Mo_readMethod.2.1 31 = .ok (.aload_n 0, 1) := by decide +kernel
theorem d_Mo_readMethod_32 : decode m_Mo_readMethod.2.1 32 = .ok (.iload_n 3, 1) := by decide +kernel
theorem d_Mo_readMethod_33 : decode m_Mo_readMethod.2.1 33 = .ok (.bipush 6, 2) := by decide +kernel
theorem d_Mo_readMethod_35 : decode m_Mo_readMethod.2.1 35 = .ok (.invokevirtual 71, 3) := by decide +kernel
theorem d_Mo_readMethod_38 : decode m_Mo_readMethod.2.1 38 = .ok (.istore 6, 2) := by decide +kernel
theorem d_Mo_readMethod_40 : decode m_Mo_readMethod.2.1 40 = .ok (.aload_n 0, 1) := by decide +kernel
theorem d_Mo_readMethod_41 : decode m_Mo_readMethod.2.1 41 = .ok (.iconst 1, 1) := by decide +kernel
theorem d_Mo_readMethod_42 : decode m_Mo_readMethod.2.1 42 = .ok (.bipush 60, 2) := by decide +kernel
theorem d_Mo_readMethod_44 : decode m_Mo_readMethod.2.1 44 = .ok (.invokevirtual 71, 3) := by decide +kernel
theorem d_Mo_readMethod_47 : decode m_Mo_readMethod.2.1 47 = .ok (.istore 7, 2) := by decide +kernel
theorem d_Mo_readMethod_49 : decode m_Mo_readMethod.2.1 49 = .ok (.aload_n 0, 1) := by decide +kernel
theorem d_Mo_readMethod_50 : decode m_Mo_readMethod.2.1 50 = .ok (.getfield 68, 3) := by decide +kernel
theorem d_Mo_readMethod_53 : decode m_Mo_readMethod.2.1 53 = .ok (.istore 8, 2) := by decide +kernel
theorem d_Mo_readMethod_55 : decode m_Mo_readMethod.2.1 55 = .ok (.aload_n 0, 1) := by decide +kernel
theorem d_Mo_readMethod_56 : decode m_Mo_readMethod.2.1 56 = .ok (.getfield 64, 3) := by decide +kernel
theorem d_Mo_readMethod_59 : decode m_Mo_readMethod.2.1 59 = .ok (.ifCond .ne 36, 3) := by decide +kernel
theorem d_Mo_readMethod_62 : decode m_Mo_readMethod.2.1 62 = .ok (.iload 4, 2) := by decide +kernel
theorem d_Mo_readMethod_64 : decode m_Mo_readMethod.2.1 64 = .ok (.ifCond .lt 31, 3) := by decide +kernel
theorem d_Mo_readMethod_67 : decode m_Mo_readMethod.2.1 67 = .ok (.aload_n 0, 1) := by decide +kernel
theorem d_Mo_readMethod_68 : decode m_Mo_readMethod.2.1 68 = .ok (.getfield 68, 3) := by decide +kernel
theorem d_Mo_readMethod_71 : decode m_Mo_readMethod.2.1 71 = .ok (.iload 8, 2) := by decide +kernel
theorem d_Mo_readMethod_73 : decode m_Mo_readMethod.2.1 73 = .ok (.iload 7, 2) := by decide +kernel
theorem d_Mo_readMethod_75 : decode m_Mo_readMethod.2.1 75 = .ok (.iadd, 1) := by decide +kernel
theorem d_Mo_readMethod_76 : decode m_Mo_readMethod.2.1 76 = .ok (.if_icmp .ge 19, 3) := by decide +kernel
theorem d_Mo_readMethod_79 : decode m_Mo_readMethod.2.1 79 = .ok (.aload_n 0, 1) := by decide +kernel
theorem d_Mo_readMethod_80 : decode m_Mo_readMethod.2.1 80 = .ok (.iload 8, 2) := by decide +kernel
theorem d_Mo_readMethod_82 : decode m_Mo_readMethod.2.1 82 = .ok (.iload 7, 2) := by decide +kernel
theorem d_Mo_readMethod_84 : decode m_Mo_readMethod.2.1 84 = .ok (.iadd, 1) := by decide +kernel
theorem d_Mo_readMethod_85 : decode m_Mo_readMethod.2.1 85 = .ok (.iload_n 1, 1) := by decide +kernel
theorem d_Mo_readMethod_86 : decode m_Mo_readMethod.2.1 86 = .ok (.iload_n 2, 1) := by decide +kernel
theorem d_Mo_readMethod_87 : decode m_Mo_readMethod.2.1 87 = .ok (.iload 6, 2) := by decide +kernel
theorem d_Mo_readMethod_89 : decode m_Mo_readMethod.2.1 89 = .ok (.invokevirtual 90, 3) := by decide +kernel
theorem d_Mo_readMethod_92 : decode m_Mo_readMethod.2.1 92 = .ok (.goto (-37), 3) := by decide +kernel
theorem d_Mo_readMethod_95 : decode m_Mo_readMethod.2.1 95 = .ok (.aload_n 0, 1) := by decide +kernel
theorem d_Mo_readMethod_96 : decode m_Mo_readMethod.2.1 96 = .ok (.iconst 0, 1) := by decide +kernel
theorem d_Mo_readMethod_97 : decode m_Mo_readMethod.2.1 97 = .ok (.bipush 8, 2) := by decide +kernel
theorem d_Mo_readMethod_99 : decode m_Mo_readMethod.2.1 99 = .ok (.invokevirtual 71, 3) := by decide +kernel
theorem d_Mo_readMethod_102 : decode m_Mo_readMethod.2.1 102 = .ok (.istore 9, 2) := by decide +kernel
theorem d_Mo_readMethod_104 : decode m_Mo_readMethod.2.1 104 = .ok (.iconst (-1), 1) := by decide +kernel
theorem d_Mo_readMethod_105 : decode m_Mo_readMethod.2.1 105 = .ok (.istore 10, 2) := by decide +kernel
theorem d_Mo_readMethod_107 : decode m_Mo_readMethod.2.1 107 = .ok (.iconst 1, 1) := by decide +kernel
theorem d_Mo_readMethod_108 : decode m_Mo_readMethod.2.1 108 = .ok (.istore 11, 2) := by decide +kernel
theorem d_Mo_readMethod_110 : decode m_Mo_readMethod.2.1 110 = .ok (.iconst 0, 1) := by decide +kernel
theorem d_Mo_readMethod_111 : decode m_Mo_readMethod.2.1 111 = .ok (.istore 12, 2) := by decide +kernel
theorem d_Mo_readMethod_113 : decode m_Mo_readMethod.2.1 113 = .ok (.iload 12, 2) := by decide +kernel
theorem d_Mo_readMethod_115 : decode m_Mo_readMethod.2.1 115 = .ok (.iload 9, 2) := by decide +kernel
theorem d_Mo_readMethod_117 : decode m_Mo_readMethod.2.1 117 = .ok (.if_icmp .ge 87, 3) := by decide +kernel
theorem d_Mo_readMethod_120 : decode m_Mo_readMethod.2.1 120 = .ok (.aload_n 0, 1) := by decide +kernel
theorem d_Mo_readMethod_121 : decode m_Mo_readMethod.2.1 121 = .ok (.getfield 64, 3) := by decide +kernel
theorem d_Mo_readMethod_124 : decode m_Mo_readMethod.2.1 124 = .ok (.ifCond .ne 80, 3) := by decide +kernel
theorem d_Mo_readMethod_127 : decode m_Mo_readMethod.2.1 127 = .ok (.aload_n 0, 1) := by decide +kernel
theorem d_Mo_readMethod_128 : decode m_Mo_readMethod.2.1 128 = .ok (.iload 10, 2) := by decide +kernel
theorem d_Mo_readMethod_130 : decode m_Mo_readMethod.2.1 130 = .ok (.iconst 1, 1) := by decide +kernel
theorem d_Mo_readMethod_131 : decode m_Mo_readMethod.2.1 131 = .ok (.iadd, 1) := by decide +kernel
theorem d_Mo_readMethod_132 : decode m_Mo_readMethod.2.1 132 = .ok (.iload 7, 2) := by decide +kernel
theorem d_Mo_readMethod_134 : decode m_Mo_readMethod.2.1 134 = .ok (.iconst 1, 1) := by decide +kernel
theorem d_Mo_readMethod_135 : decode m_Mo_readMethod.2.1 135 = .ok (.isub, 1) := by decide +kernel
theorem d_Mo_readMethod_136 : decode m_Mo_readMethod.2.1 136 = .ok (.invokevirtual 71, 3) := by decide +kernel
theorem d_Mo_readMethod_139 : decode m_Mo_readMethod.2.1 139 = .ok (.istore 10, 2) := by decide +kernel
theorem d_Mo_readMethod_141 : decode m_Mo_readMethod.2.1 141 = .ok (.iload 11, 2) := by decide +kernel
theorem d_Mo_readMethod_143 : decode m_Mo_readMethod.2.1 143 = .ok (.ifCond .eq 27, 3) := by decide +kernel
theorem d_Mo_readMethod_146 : decode m_Mo_readMethod.2.1 146 = .ok (.aload_n 0, 1) := by decide +kernel
theorem d_Mo_readMethod_147 : decode m_Mo_readMethod.2.1 147 = .ok (.getfield 64, 3) := by decide +kernel
theorem d_Mo_readMethod_150 : decode m_Mo_readMethod.2.1 150 = .ok (.ifCond .ne 16, 3) := by decide +kernel
theorem d_Mo_readMethod_153 : decode m_Mo_readMethod.2.1 153 = .ok (.aload_n 0, 1) := by decide +kernel
theorem d_Mo_readMethod_154 : decode m_Mo_readMethod.2.1 154 = .ok (.iload 8, 2) := by decide +kernel
theorem d_Mo_readMethod_156 : decode m_Mo_readMethod.2.1 156 = .ok (.iload 7, 2) := by decide +kernel
theorem d_Mo_readMethod_158 : decode m_Mo_readMethod.2.1 158 = .ok (.iload 10, 2) := by decide +kernel
theorem d_Mo_readMethod_160 : decode m_Mo_readMethod.2.1 160 = .ok (.invokevirtual 87, 3) := by decide +kernel
theorem d_Mo_readMethod_163 : decode m_Mo_readMethod.2.1 163 = .ok (.ifCond .eq 7, 3) := by decide +kernel
theorem d_Mo_readMethod_166 : decode m_Mo_readMethod.2.1 166 = .ok (.iconst 1, 1) := by decide +kernel
theorem d_Mo_readMethod_167 : decode m_Mo_readMethod.2.1 167 = .ok (.goto 4, 3) := by decide +kernel
theorem d_Mo_readMethod_170 : decode m_Mo_readMethod.2.1 170 = .ok (.iconst 0, 1) := by decide +kernel
theorem d_Mo_readMethod_171 : decode m_Mo_readMethod.2.1 171 = .ok (.istore 11, 2) := by decide +kernel
theorem d_Mo_readMethod_173 : decode m_Mo_readMethod.2.1 173 = .ok (.aload_n 0, 1) := by decide +kernel
theorem d_Mo_readMethod_174 : decode m_Mo_readMethod.2.1 174 = .ok (.iload 6, 2) := by decide +kernel
theorem d_Mo_readMethod_176 : decode m_Mo_readMethod.2.1 176 = .ok (.iconst 0, 1) := by decide +kernel
theorem d_Mo_readMethod_177 : decode m_Mo_readMethod.2.1 177 = .ok (.iconst 3, 1) := by decide +kernel
theorem d_Mo_readMethod_178 : decode m_Mo_readMethod.2.1 178 = .ok (.invokevirtual 79, 3) := by decide +kernel
theorem d_Mo_readMethod_181 : decode m_Mo_readMethod.2.1 181 = .ok (.aload_n 0, 1) := by decide +kernel
theorem d_Mo_readMethod_182 : decode m_Mo_readMethod.2.1 182 = .ok (.iconst 0, 1) := by decide +kernel
theorem d_Mo_readMethod_183 : decode m_Mo_readMethod.2.1 183 = .ok (.iload 5, 2) := by decide +kernel
theorem d_Mo_readMethod_185 : decode m_Mo_readMethod.2.1 185 = .ok (.invokevirtual 71, 3) := by decide +kernel
theorem d_Mo_readMethod_188 : decode m_Mo_readMethod.2.1 188 = .ok (.istore 13, 2) := by decide +kernel
theorem d_Mo_readMethod_190 : decode m_Mo_readMethod.2.1 190 = .ok (.aload_n 0, 1) := by decide +kernel
theorem d_Mo_readMethod_191 : decode m_Mo_readMethod.2.1 191 = .ok (.iload 13, 2) := by decide +kernel
theorem d_Mo_readMethod_193 : decode m_Mo_readMethod.2.1 193 = .ok (.iconst 1, 1) := by decide +kernel
theorem d_Mo_readMethod_194 : decode m_Mo_readMethod.2.1 194 = .ok (.iconst 3, 1) := by decide +kernel
theorem d_Mo_readMethod_195 : decode m_Mo_readMethod.2.1 195 = .ok (.invokevirtual 79, 3) := by decide +kernel
theorem d_Mo_readMethod_198 : decode m_Mo_readMethod.2.1 198 = .ok (.iinc 12 1, 3) := by decide +kernel
theorem d_Mo_readMethod_201 : decode m_Mo_readMethod.2.1 201 = .ok (.goto (-88), 3) := by decide +kernel
theorem d_Mo_readMethod_204 : decode m_Mo_readMethod.2.1 204 = .ok (.aload_n 0, 1) := by decide +kernel
theorem d_Mo_readMethod_205 : decode m_Mo_readMethod.2.1 205 = .ok (.aload_n 0, 1) := by decide +kernel
theorem d_Mo_readMethod_206 : decode m_Mo_readMethod.2.1 206 = .ok (.getfield 64, 3) := by decide +kernel
theorem d_Mo_readMethod_209 : decode m_Mo_readMethod.2.1 209 = .ok (.ifCond .ne 19, 3) := by decide +kernel
theorem d_Mo_readMethod_212 : decode m_Mo_readMethod.2.1 212 = .ok (.iload 11, 2) := by decide +kernel
theorem d_Mo_readMethod_214 : decode m_Mo_readMethod.2.1 214 = .ok (.ifCond .eq 14, 3) := by decide +kernel
theorem d_Mo_readMethod_217 : decode m_Mo_readMethod.2.1 217 = .ok (.aload_n 0, 1) := by decide +kernel
theorem d_Mo_readMethod_218 : decode m_Mo_readMethod.2.1 218 = .ok (.iload 8, 2) := by decide +kernel
theorem d_Mo_readMethod_220 : decode m_Mo_readMethod.2.1 220 = .ok (.iload 7, 2) := by decide +kernel
theorem d_Mo_readMethod_222 : decode m_Mo_readMethod.2.1 222 = .ok (.invokevirtual 94, 3) := by decide +kernel
theorem d_Mo_readMethod_225 : decode m_Mo_readMethod.2.1 225 = .ok (.ifCond .ne 7, 3) := by decide +kernel
theorem d_Mo_readMethod_228 : decode m_Mo_readMethod.2.1 228 = .ok (.iconst 1, 1) := by decide +kernel
theorem d_Mo_readMethod_229 : decode m_Mo_readMethod.2.1 229 = .ok (.goto 4, 3) := by decide +kernel
theorem d_Mo_readMethod_232 : decode m_Mo_readMethod.2.1 232 = .ok (.iconst 0, 1) := by decide +kernel
theorem d_Mo_readMethod_233 : decode m_Mo_readMethod.2.1 233 = .ok (.putfield 64, 3) := by decide +kernel
theorem d_Mo_readMethod_236 : decode m_Mo_readMethod.2.1 236 = .ok (.return_, 1) := by decide +kernel
theorem d_Mo_read_0 : decode m_Mo_read.2.1 0 = .ok (.aload_n 0, 1) := by decide +kernel
theorem d_Mo_read_1 : decode m_Mo_read.2.1 1 = .ok (.iconst 0, 1) := by decide +kernel
theorem d_Mo_read_2 : decode m_Mo_read.2.1 2 = .ok (.putfield 43, 3) := by decide +kernel
theorem d_Mo_read_5 : decode m_Mo_read.2.1 5 = .ok (.aload_n 0, 1) := by decide +kernel
theorem d_Mo_read_6 : decode m_Mo_read.2.1 6 = .ok (.iconst 0, 1) := by decide +kernel
theorem d_Mo_read_7 : decode m_Mo_read.2.1 7 = .ok (.putfield 68, 3) := by decide +kernel
theorem d_Mo_read_10 : decode m_Mo_read.2.1 10 = .ok (.aload_n 0, 1) := by decide +kernel
theorem d_Mo_read_11 : decode m_Mo_read.2.1 11 = .ok (.iconst 0, 1) := by decide +kernel
theorem d_Mo_read_12 : decode m_Mo_read.2.1 12 = .ok (.putfield 64, 3) := by decide +kernel
theorem d_Mo_read_15 : decode m_Mo_read.2.1 15 = .ok (.aload_n 0, 1) := by decide +kernel
theorem d_Mo_read_16 : decode m_Mo_read.2.1 16 = .ok (.iconst 1, 1) := by decide +kernel
theorem d_Mo_read_17 : decode m_Mo_read.2.1 17 = .ok (.sipush 202, 3) := by decide +kernel
theorem d_Mo_read_20 : decode m_Mo_read.2.1 20 = .ok (.sipush 202, 3) := by decide +kernel
theorem d_Mo_read_23 : decode m_Mo_read.2.1 23 = .ok (.invokevirtual 79, 3) := by decide +kernel
theorem d_Mo_read_26 : decode m_Mo_read.2.1 26 = .ok (.aload_n 0, 1) := by decide +kernel
theorem d_Mo_read_27 : decode m_Mo_read.2.1 27 = .ok (.iconst 0, 1) := by decide +kernel
theorem d_Mo_read_28 : decode m_Mo_read.2.1 28 = .ok (.iconst 4, 1) := by decide +kernel
theorem d_Mo_read_29 : decode m_Mo_read.2.1 29 = .ok (.invokevirtual 71, 3) := by decide +kernel
theorem d_Mo_read_32 : decode m_Mo_read.2.1 32 = .ok (.istore_n 1, 1) := by decide +kernel
theorem d_Mo_read_33 : decode m_Mo_read.2.1 33 = .ok (.aload_n 0, 1) := by decide +kernel
theorem d_Mo_read_34 : decode m_Mo_read.2.1 34 = .ok (.iconst 4, 1) := by decide +kernel
theorem d_Mo_read_35 : decode m_Mo_read.2.1 35 = .ok (.iload_n 1, 1) := by decide +kernel
theorem d_Mo_read_36 : decode m_Mo_read.2.1 36 = .ok (.imul, 1) := by decide +kernel
theorem d_Mo_read_37 : decode m_Mo_read.2.1 37 = .ok (.iconst 0, 1) := by decide +kernel
theorem d_Mo_read_38 : decode m_Mo_read.2.1 38 = .ok (.sipush 255, 3) := by decide +kernel
theorem d_Mo_read_41 : decode m_Mo_read.2.1 41 = .ok (.invokevirtual 79, 3) := by decide +kernel
theorem d_Mo_read_44 : decode m_Mo_read.2.1 44 = .ok (.aload_n 0, 1) := by decide +kernel
theorem d_Mo_read_45 : decode m_Mo_read.2.1 45 = .ok (.iconst 1, 1) := by decide +kernel
theorem d_Mo_read_46 : decode m_Mo_read.2.1 46 = .ok (.iconst 4, 1) := by decide +kernel
theorem d_Mo_read_47 : decode m_Mo_read.2.1 47 = .ok (.invokevirtual 71, 3) := by decide +kernel
theorem d_Mo_read_50 : decode m_Mo_read.2.1 50 = .ok (.istore_n 2, 1) := by decide +kernel
theorem d_Mo_read_51 : decode m_Mo_read.2.1 51 = .ok (.iconst 0, 1) := by decide +kernel
theorem d_Mo_read_52 : decode m_Mo_read.2.1 52 = .ok (.istore_n 3, 1) := by decide +kernel
theorem d_Mo_read_53 : decode m_Mo_read.2.1 53 = .ok (.iload_n 3, 1) := by decide +kernel
theorem d_Mo_read_54 : decode m_Mo_read.2.1 54 = .ok (.iload_n 2, 1) := by decide +kernel
theorem d_Mo_read_55 : decode m_Mo_read.2.1 55 = .ok (.if_icmp .ge 22, 3) := by decide +kernel
theorem d_Mo_read_58 : decode m_Mo_read.2.1 58 = .ok (.aload_n 0, 1) := by decide +kernel
theorem d_Mo_read_59 : decode m_Mo_read.2.1 59 = .ok (.getfield 64, 3) := by decide +kernel
theorem d_Mo_read_62 : decode m_Mo_read.2.1 62 = .ok (.ifCond .ne 15, 3) := by decide +kernel
theorem d_Mo_read_65 : decode m_Mo_read.2.1 65 = .ok (.aload_n 0, 1) := by decide +kernel
theorem d_Mo_read_66 : decode m_Mo_read.2.1 66 = .ok (.iload_n 1, 1) := by decide +kernel
theorem d_Mo_read_67 : decode m_Mo_read.2.1 67 = .ok (.iload_n 2, 1) := by decide +kernel
theorem d_Mo_read_68 : decode m_Mo_read.2.1 68 = .ok (.invokevirtual 98, 3) := by decide +kernel
theorem d_Mo_read_71 : decode m_Mo_read.2.1 71 = .ok (.iinc 3 1, 3) := by decide +kernel
theorem d_Mo_read_74 : decode m_Mo_read.2.1 74 = .ok (.goto (-21), 3) := by decide +kernel
theorem d_Mo_read_77 : decode m_Mo_read.2.1 77 = .ok (.aload_n 0, 1) := by decide +kernel
theorem d_Mo_read_78 : decode m_Mo_read.2.1 78 = .ok (.getfield 64, 3) := by decide +kernel
theorem d_Mo_read_81 : decode m_Mo_read.2.1 81 = .ok (.ifCond .ne 14, 3) := by decide +kernel
theorem d_Mo_read_84 : decode m_Mo_read.2.1 84 = .ok (.aload_n 0, 1) := by decide +kernel
theorem d_Mo_read_85 : decode m_Mo_read.2.1 85 = .ok (.getfield 68, 3) := by decide +kernel
theorem d_Mo_read_88 : decode m_Mo_read.2.1 88 = .ok (.aload_n 0, 1) := by decide +kernel
theorem d_Mo_read_89 : decode m_Mo_read.2.1 89 = .ok (.getfield 61, 3) := by decide +kernel
theorem d_Mo_read_92 : decode m_Mo_read.2.1 92 = .ok (.if_icmp .ge 8, 3) := by decide +kernel
theorem d_Mo_read_95 : decode m_Mo_read.2.1 95 = .ok (.aload_n 0, 1) := by decide +kernel
theorem d_Mo_read_96 : decode m_Mo_read.2.1 96 = .ok (.getfield 68, 3) := by decide +kernel
theorem d_Mo_read_99 : decode m_Mo_read.2.1 99 = .ok (.ireturn, 1) := by decide +kernel
theorem d_Mo_read_100 : decode m_Mo_read.2.1 100 = .ok (.aload_n 0, 1) := by decide +kernel
theorem d_Mo_read_101 : decode m_Mo_read.2.1 101 = .ok (.iconst 1, 1) := by decide +kernel
theorem d_Mo_read_102 : decode m_Mo_read.2.1 102 = .ok (.putfield 102, 3) := by decide +kernel
theorem d_Mo_read_105 : decode m_Mo_read.2.1 105 = .ok (.aload_n 0, 1) := by decide +kernel
theorem d_Mo_read_106 : decode m_Mo_read.2.1 106 = .ok (.aload_n 0, 1) := by decide +kernel
theorem d_Mo_read_107 : decode m_Mo_read.2.1 107 = .ok (.getfield 61, 3) := by decide +kernel
theorem d_Mo_read_110 : decode m_Mo_read.2.1 110 = .ok (.putfield 105, 3) := by decide +kernel
theorem d_Mo_read_113 : decode m_Mo_read.2.1 113 = .ok (.iconst 0, 1) := by decide +kernel
theorem d_Mo_read_114 : decode m_Mo_read.2.1 114 = .ok (.istore_n 3, 1) := by decide +kernel
theorem d_Mo_read_115 : decode m_Mo_read.2.1 115 = .ok (.iload_n 3, 1) := by decide +kernel
theorem d_Mo_read_116 : decode m_Mo_read.2.1 116 = .ok (.aload_n 0, 1) := by decide +kernel
theorem d_Mo_read_117 : decode m_Mo_read.2.1 117 = .ok (.getfield 61, 3) := by decide +kernel
theorem d_Mo_read_120 : decode m_Mo_read.2.1 120 = .ok (.if_icmp .ge 21, 3) := by decide +kernel
theorem d_Mo_read_123 : decode m_Mo_read.2.1 123 = .ok (.aload_n 0, 1) := by decide +kernel
theorem d_Mo_read_124 : decode m_Mo_read.2.1 124 = .ok (.getfield 13, 3) := by decide +kernel
theorem d_Mo_read_127 : decode m_Mo_read.2.1 127 = .ok (.iload_n 3, 1) := by decide +kernel
theorem d_Mo_read_128 : decode m_Mo_read.2.1 128 = .ok (.aload_n 0, 1) := by decide +kernel
theorem d_Mo_read_129 : decode m_Mo_read.2.1 129 = .ok (.getfield 7, 3) := by decide +kernel
theorem d_Mo_read_132 : decode m_Mo_read.2.1 132 = .ok (.iload_n 3, 1) := by decide +kernel
theorem d_Mo_read_133 : decode m_Mo_read.2.1 133 = .ok (.iaload, 1) := by decide +kernel
theorem d_Mo_read_134 : decode m_Mo_read.2.1 134 = .ok (.iastore, 1) := by decide +kernel
theorem d_Mo_read_135 : decode m_Mo_read.2.1 135 = .ok (.iinc 3 1, 3) := by decide +kernel
theorem d_Mo_read_138 : decode m_Mo_read.2.1 138 = .ok (.goto (-23), 3) := by decide +kernel
theorem d_Mo_read_141 : decode m_Mo_read.2.1 141 = .ok (.iconst (-1), 1) := by decide +kernel
theorem d_Mo_read_142 : decode m_Mo_read.2.1 142 = .ok (.ireturn, 1) := by decide +kernel
theorem d_Mo_write_0 : decode m_Mo_write.2.1 0 = .ok (.aload_n 0, 1) := by decide +kernel
theorem d_Mo_write_1 : decode m_Mo_write.2.1 1 = .ok (.aload_n 0, 1) := by decide +kernel
theorem d_Mo_write_2 : decode m_Mo_write.2.1 2 = .ok (.getfield 102, 3) := by decide +kernel
theorem d_Mo_write_5 : decode m_Mo_write.2.1 5 = .ok (.ifCond .eq 7, 3) := by decide +kernel
theorem d_Mo_write_8 : decode m_Mo_write.2.1 8 = .ok (.iconst 0, 1) := by decide +kernel
theorem d_Mo_write_9 : decode m_Mo_write.2.1 9 = .ok (.goto 4, 3) := by decide +kernel
theorem d_Mo_write_12 : decode m_Mo_write.2.1 12 = .ok (.iconst 1, 1) := by decide +kernel
theorem d_Mo_write_13 : decode m_Mo_write.2.1 13 = .ok (.putfield 43, 3) := by decide +kernel
theorem d_Mo_write_16 : decode m_Mo_write.2.1 16 = .ok (.aload_n 0, 1) := by decide +kernel
theorem d_Mo_write_17 : decode m_Mo_write.2.1 17 = .ok (.getfield 43, 3) := by decide +kernel
theorem d_Mo_write_20 : decode m_Mo_write.2.1 20 = .ok (.ifCond .le 5, 3) := by decide +kernel
theorem d_Mo_write_23 : decode m_Mo_write.2.1 23 = .ok (.iconst 0, 1) := by decide +kernel
theorem d_Mo_write_24 : decode m_Mo_write.2.1 24 = .ok (.ireturn, 1) := by decide +kernel
theorem d_Mo_write_25 : decode m_Mo_write.2.1 25 = .ok (.aload_n 0, 1) := by decide +kernel
theorem d_Mo_write_26 : decode m_Mo_write.2.1 26 = .ok (.aload_n 0, 1) := by decide +kernel
theorem d_Mo_write_27 : decode m_Mo_write.2.1 27 = .ok (.getfield 105, 3) := by decide +kernel
theorem d_Mo_write_30 : decode m_Mo_write.2.1 30 = .ok (.putfield 61, 3) := by decide +kernel
theorem d_Mo_write_33 : decode m_Mo_write.2.1 33 = .ok (.iconst 0, 1) := by decide +kernel
theorem d_Mo_write_34 : decode m_Mo_write.2.1 34 = .ok (.istore_n 1, 1) := by decide +kernel
theorem d_Mo_write_35 : decode m_Mo_write.2.1 35 = .ok (.iload_n 1, 1) := by decide +kernel
theorem d_Mo_write_36 : decode m_Mo_write.2.1 36 = .ok (.aload_n 0, 1) := by decide +kernel
theorem d_Mo_write_37 : decode m_Mo_write.2.1 37 = .ok (.getfield 61, 3) := by decide +kernel
theorem d_Mo_write_40 : decode m_Mo_write.2.1 40 = .ok (.if_icmp .ge 21, 3) := by decide +kernel
theorem d_Mo_write_43 : decode m_Mo_write.2.1 43 = .ok (.aload_n 0, 1) := by decide +kernel
theorem d_Mo_write_44 : decode m_Mo_write.2.1 44 = .ok (.getfield 7, 3) := by decide +kernel
theorem d_Mo_write_47 : decode m_Mo_write.2.1 47 = .ok (.iload_n 1, 1) := by decide +kernel
theorem d_Mo_write_48 : decode m_Mo_write.2.1 48 = .ok (.aload_n 0, 1) := by decide +kernel
theorem d_Mo_write_49 : decode m_Mo_write.2.1 49 = .ok (.getfield 13, 3) := by decide +kernel
theorem d_Mo_write_52 : decode m_Mo_write.2.1 52 = .ok (.iload_n 1, 1) := by decide +kernel
theorem d_Mo_write_53 : decode m_Mo_write.2.1 53 = .ok (.iaload, 1) := by decide +kernel
theorem d_Mo_write_54 : decode m_Mo_write.2.1 54 = .ok (.iastore, 1) := by decide +kernel
theorem d_Mo_write_55 : decode m_Mo_write.2.1 55 = .ok (.iinc 1 1, 3) := by decide +kernel
theorem d_Mo_write_58 : decode m_Mo_write.2.1 58 = .ok (.goto (-23), 3) := by decide +kernel
theorem d_Mo_write_61 : decode m_Mo_write.2.1 61 = .ok (.aload_n 0, 1) := by decide +kernel
theorem d_Mo_write_62 : decode m_Mo_write.2.1 62 = .ok (.getfield 61, 3) := by decide +kernel
theorem d_Mo_write_65 : decode m_Mo_write.2.1 65 = .ok (.ireturn, 1) := by decide +kernel
theorem d_Mo_methodCount_0 : decode m_Mo_methodCount.2.1 0 = .ok (.aload_n 0, 1) := by decide +kernel
theorem d_Mo_methodCount_1 : decode m_Mo_methodCount.2.1 1 = .ok (.getfield 102, 3) := by decide +kernel
theorem d_Mo_methodCount_4 : decode m_Mo_methodCount.2.1 4 = .ok (.ifCond .eq 21, 3) := by decide +kernel
theorem d_Mo_methodCount_7 : decode m_Mo_methodCount.2.1 7 = .ok (.aload_n 0, 1) := by decide +kernel
theorem d_Mo_methodCount_8 : decode m_Mo_methodCount.2.1 8 = .ok (.getfield 13, 3) := by decide +kernel
theorem d_Mo_methodCount_11 : decode m_Mo_methodCount.2.1 11 = .ok (.iconst 2, 1) := by decide +kernel
theorem d_Mo_methodCount_12 : decode m_Mo_methodCount.2.1 12 = .ok (.iconst 4, 1) := by decide +kernel
theorem d_Mo_methodCount_13 : decode m_Mo_methodCount.2.1 13 = .ok (.aload_n 0, 1) := by decide +kernel
theorem d_Mo_methodCount_14 : decode m_Mo_methodCount.2.1 14 = .ok (.getfield 13, 3) := by decide +kernel
theorem d_Mo_methodCount_17 : decode m_Mo_methodCount.2.1 17 = .ok (.iconst 1, 1) := by decide +kernel
theorem d_Mo_methodCount_18 : decode m_Mo_methodCount.2.1 18 = .ok (.iaload, 1) := by decide +kernel
theorem d_Mo_methodCount_19 : decode m_Mo_methodCount.2.1 19 = .ok (.imul, 1) := by decide +kernel
theorem d_Mo_methodCount_20 : decode m_Mo_methodCount.2.1 20 = .ok (.iadd, 1) := by decide +kernel
theorem d_Mo_methodCount_21 : decode m_Mo_methodCount.2.1 21 = .ok (.iaload, 1) := by decide +kernel
theorem d_Mo_methodCount_22 : decode m_Mo_methodCount.2.1 22 = .ok (.goto 4, 3) := by decide +kernel
theorem d_Mo_methodCount_25 : decode m_Mo_methodCount.2.1 25 = .ok (.iconst 0, 1) := by decide +kernel
theorem d_Mo_methodCount_26 : decode m_Mo_methodCount.2.1 26 = .ok (.ireturn, 1) := by decide +kernel
theorem d_Mo_methods_0 : decode m_Mo_methods.2.1 0 = .ok (.aload_n 0, 1) := by decide +kernel
theorem d_Mo_methods_1 : decode m_Mo_methods.2.1 1 = .ok (.iconst 0, 1) := by decide +kernel
theorem d_Mo_methods_2 : decode m_Mo_methods.2.1 2 = .ok (.putfield 43, 3) := by decide +kernel
theorem d_Mo_methods_5 : decode m_Mo_methods.2.1 5 = .ok (.aload_n 0, 1) := by decide +kernel
theorem d_Mo_methods_6 : decode m_Mo_methods.2.1 6 = .ok (.invokevirtual 108, 3) := by decide +kernel
theorem d_Mo_methods_9 : decode m_Mo_methods.2.1 9 = .ok (.ireturn, 1) := by decide +kernel
theorem d_Mo_codeOf_0 : decode m_Mo_codeOf.2.1 0 = .ok (.iload_n 1, 1) := by decide +kernel
theorem d_Mo_codeOf_1 : decode m_Mo_codeOf.2.1 1 = .ok (.iconst 5, 1) := by decide +kernel
theorem d_Mo_codeOf_2 : decode m_Mo_codeOf.2.1 2 = .ok (.iadd, 1) := by decide +kernel
theorem d_Mo_codeOf_3 : decode m_Mo_codeOf.2.1 3 = .ok (.aload_n 0, 1) := by decide +kernel
theorem d_Mo_codeOf_4 : decode m_Mo_codeOf.2.1 4 = .ok (.getfield 13, 3) := by decide +kernel
theorem d_Mo_codeOf_7 : decode m_Mo_codeOf.2.1 7 = .ok (.iload_n 1, 1) := by decide +kernel
theorem d_Mo_codeOf_8 : decode m_Mo_codeOf.2.1 8 = .ok (.iaload, 1) := by decide +kernel
theorem d_Mo_codeOf_9 : decode m_Mo_codeOf.2.1 9 = .ok (.iadd, 1) := by decide +kernel
theorem d_Mo_codeOf_10 : decode m_Mo_codeOf.2.1 10 = .ok (.ireturn, 1) := by decide +kernel
theorem d_Mo_lengthOf_0 : decode m_Mo_lengthOf.2.1 0 = .ok (.aload_n 0, 1) := by decide +kernel
theorem d_Mo_lengthOf_1 : decode m_Mo_lengthOf.2.1 1 = .ok (.getfield 13, 3) := by decide +kernel
theorem d_Mo_lengthOf_4 : decode m_Mo_lengthOf.2.1 4 = .ok (.iload_n 1, 1) := by decide +kernel
theorem d_Mo_lengthOf_5 : decode m_Mo_lengthOf.2.1 5 = .ok (.iconst 4, 1) := by decide +kernel
theorem d_Mo_lengthOf_6 : decode m_Mo_lengthOf.2.1 6 = .ok (.iadd, 1) := by decide +kernel
theorem d_Mo_lengthOf_7 : decode m_Mo_lengthOf.2.1 7 = .ok (.aload_n 0, 1) := by decide +kernel
theorem d_Mo_lengthOf_8 : decode m_Mo_lengthOf.2.1 8 = .ok (.getfield 13, 3) := by decide +kernel
theorem d_Mo_lengthOf_11 : decode m_Mo_lengthOf.2.1 11 = .ok (.iload_n 1, 1) := by decide +kernel
theorem d_Mo_lengthOf_12 : decode m_Mo_lengthOf.2.1 12 = .ok (.iaload, 1) := by decide +kernel
theorem d_Mo_lengthOf_13 : decode m_Mo_lengthOf.2.1 13 = .ok (.iadd, 1) := by decide +kernel
theorem d_Mo_lengthOf_14 : decode m_Mo_lengthOf.2.1 14 = .ok (.iaload, 1) := by decide +kernel
theorem d_Mo_lengthOf_15 : decode m_Mo_lengthOf.2.1 15 = .ok (.ireturn, 1) := by decide +kernel
theorem d_Mo_placesOf_0 : decode m_Mo_placesOf.2.1 0 = .ok (.aload_n 0, 1) := by decide +kernel
theorem d_Mo_placesOf_1 : decode m_Mo_placesOf.2.1 1 = .ok (.getfield 13, 3) := by decide +kernel
theorem d_Mo_placesOf_4 : decode m_Mo_placesOf.2.1 4 = .ok (.iload_n 1, 1) := by decide +kernel
theorem d_Mo_placesOf_5 : decode m_Mo_placesOf.2.1 5 = .ok (.iconst 3, 1) := by decide +kernel
theorem d_Mo_placesOf_6 : decode m_Mo_placesOf.2.1 6 = .ok (.iadd, 1) := by decide +kernel
theorem d_Mo_placesOf_7 : decode m_Mo_placesOf.2.1 7 = .ok (.aload_n 0, 1) := by decide +kernel
theorem d_Mo_placesOf_8 : decode m_Mo_placesOf.2.1 8 = .ok (.getfield 13, 3) := by decide +kernel
theorem d_Mo_placesOf_11 : decode m_Mo_placesOf.2.1 11 = .ok (.iload_n 1, 1) := by decide +kernel
theorem d_Mo_placesOf_12 : decode m_Mo_placesOf.2.1 12 = .ok (.iaload, 1) := by decide +kernel
theorem d_Mo_placesOf_13 : decode m_Mo_placesOf.2.1 13 = .ok (.iadd, 1) := by decide +kernel
theorem d_Mo_placesOf_14 : decode m_Mo_placesOf.2.1 14 = .ok (.iaload, 1) := by decide +kernel
theorem d_Mo_placesOf_15 : decode m_Mo_placesOf.2.1 15 = .ok (.ireturn, 1) := by decide +kernel
theorem d_Mo_returnsOf_0 : decode m_Mo_returnsOf.2.1 0 = .ok (.aload_n 0, 1) := by decide +kernel
theorem d_Mo_returnsOf_1 : decode m_Mo_returnsOf.2.1 1 = .ok (.getfield 13, 3) := by decide +kernel
theorem d_Mo_returnsOf_4 : decode m_Mo_returnsOf.2.1 4 = .ok (.iload_n 1, 1) := by decide +kernel
theorem d_Mo_returnsOf_5 : decode m_Mo_returnsOf.2.1 5 = .ok (.iconst 1, 1) := by decide +kernel
theorem d_Mo_returnsOf_6 : decode m_Mo_returnsOf.2.1 6 = .ok (.iadd, 1) := by decide +kernel
theorem d_Mo_returnsOf_7 : decode m_Mo_returnsOf.2.1 7 = .ok (.aload_n 0, 1) := by decide +kernel
theorem d_Mo_returnsOf_8 : decode m_Mo_returnsOf.2.1 8 = .ok (.getfield 13, 3) := by decide +kernel
theorem d_Mo_returnsOf_11 : decode m_Mo_returnsOf.2.1 11 = .ok (.iload_n 1, 1) := by decide +kernel
theorem d_Mo_returnsOf_12 : decode m_Mo_returnsOf.2.1 12 = .ok (.iaload, 1) := by decide +kernel
theorem d_Mo_returnsOf_13 : decode m_Mo_returnsOf.2.1 13 = .ok (.iadd, 1) := by decide +kernel
theorem d_Mo_returnsOf_14 : decode m_Mo_returnsOf.2.1 14 = .ok (.iaload, 1) := by decide +kernel
theorem d_Mo_returnsOf_15 : decode m_Mo_returnsOf.2.1 15 = .ok (.ireturn, 1) := by decide +kernel
theorem d_Mo_methodAt_0 : decode m_Mo_methodAt.2.1 0 = .ok (.iconst 3, 1) := by decide +kernel
theorem d_Mo_methodAt_1 : decode m_Mo_methodAt.2.1 1 = .ok (.iconst 4, 1) := by decide +kernel
theorem d_Mo_methodAt_2 : decode m_Mo_methodAt.2.1 2 = .ok (.aload_n 0, 1) := by decide +kernel
theorem d_Mo_methodAt_3 : decode m_Mo_methodAt.2.1 3 = .ok (.getfield 13, 3) := by decide +kernel
theorem d_Mo_methodAt_6 : decode m_Mo_methodAt.2.1 6 = .ok (.iconst 1, 1) := by decide +kernel
theorem d_Mo_methodAt_7 : decode m_Mo_methodAt.2.1 7 = .ok (.iaload, 1) := by decide +kernel
theorem d_Mo_methodAt_8 : decode m_Mo_methodAt.2.1 8 = .ok (.imul, 1) := by decide +kernel
theorem d_Mo_methodAt_9 : decode m_Mo_methodAt.2.1 9 = .ok (.iadd, 1) := by decide +kernel
theorem d_Mo_methodAt_10 : decode m_Mo_methodAt.2.1 10 = .ok (.istore_n 2, 1) := by decide +kernel
theorem d_Mo_methodAt_11 : decode m_Mo_methodAt.2.1 11 = .ok (.iconst 0, 1) := by decide +kernel
theorem d_Mo_methodAt_12 : decode m_Mo_methodAt.2.1 12 = .ok (.istore_n 3, 1) := by decide +kernel
theorem d_Mo_methodAt_13 : decode m_Mo_methodAt.2.1 13 = .ok (.iload_n 3, 1) := by decide +kernel
theorem d_Mo_methodAt_14 : decode m_Mo_methodAt.2.1 14 = .ok (.iload_n 1, 1) := by decide +kernel
theorem d_Mo_methodAt_15 : decode m_Mo_methodAt.2.1 15 = .ok (.if_icmp .ge 79, 3) := by decide +kernel
theorem d_Mo_methodAt_18 : decode m_Mo_methodAt.2.1 18 = .ok (.aload_n 0, 1) := by decide +kernel
theorem d_Mo_methodAt_19 : decode m_Mo_methodAt.2.1 19 = .ok (.iload_n 2, 1) := by decide +kernel
theorem d_Mo_methodAt_20 : decode m_Mo_methodAt.2.1 20 = .ok (.invokevirtual 112, 3) := by decide +kernel
theorem d_Mo_methodAt_23 : decode m_Mo_methodAt.2.1 23 = .ok (.aload_n 0, 1) := by decide +kernel
theorem d_Mo_methodAt_24 : decode m_Mo_methodAt.2.1 24 = .ok (.iload_n 2, 1) := by decide +kernel
theorem d_Mo_methodAt_25 : decode m_Mo_methodAt.2.1 25 = .ok (.invokevirtual 115, 3) := by decide +kernel
theorem d_Mo_methodAt_28 : decode m_Mo_methodAt.2.1 28 = .ok (.iadd, 1) := by decide +kernel
theorem d_Mo_methodAt_29 : decode m_Mo_methodAt.2.1 29 = .ok (.istore 4, 2) := by decide +kernel
theorem d_Mo_methodAt_31 : decode m_Mo_methodAt.2.1 31 = .ok (.aload_n 0, 1) := by decide +kernel
theorem d_Mo_methodAt_32 : decode m_Mo_methodAt.2.1 32 = .ok (.getfield 13, 3) := by decide +kernel
theorem d_Mo_methodAt_35 : decode m_Mo_methodAt.2.1 35 = .ok (.iload 4, 2) := by decide +kernel
theorem d_Mo_methodAt_37 : decode m_Mo_methodAt.2.1 37 = .ok (.iaload, 1) := by decide +kernel
theorem d_Mo_methodAt_38 : decode m_Mo_methodAt.2.1 38 = .ok (.istore 5, 2) := by decide +kernel
theorem d_Mo_methodAt_40 : decode m_Mo_methodAt.2.1 40 = .ok (.iinc 4 1, 3) := by decide +kernel
theorem d_Mo_methodAt_43 : decode m_Mo_methodAt.2.1 43 = .ok (.iconst 0, 1) := by decide +kernel
theorem d_Mo_methodAt_44 : decode m_Mo_methodAt.2.1 44 = .ok (.istore 6, 2) := by decide +kernel
theorem d_Mo_methodAt_46 : decode m_Mo_methodAt.2.1 46 = .ok (.iload 6, 2) := by decide +kernel
theorem d_Mo_methodAt_48 : decode m_Mo_methodAt.2.1 48 = .ok (.iload 5, 2) := by decide +kernel
theorem d_Mo_methodAt_50 : decode m_Mo_methodAt.2.1 50 = .ok (.if_icmp .ge 35, 3) := by decide +kernel
theorem d_Mo_methodAt_53 : decode m_Mo_methodAt.2.1 53 = .ok (.iload 4, 2) := by decide +kernel
theorem d_Mo_methodAt_55 : decode m_Mo_methodAt.2.1 55 = .ok (.iconst 1, 1) := by decide +kernel
theorem d_Mo_methodAt_56 : decode m_Mo_methodAt.2.1 56 = .ok (.iadd, 1) := by decide +kernel
theorem d_Mo_methodAt_57 : decode m_Mo_methodAt.2.1 57 = .ok (.aload_n 0, 1) := by decide +kernel
theorem d_Mo_methodAt_58 : decode m_Mo_methodAt.2.1 58 = .ok (.iload_n 2, 1) := by decide +kernel
theorem d_Mo_methodAt_59 : decode m_Mo_methodAt.2.1 59 = .ok (.invokevirtual 118, 3) := by decide +kernel
theorem d_Mo_methodAt_62 : decode m_Mo_methodAt.2.1 62 = .ok (.iadd, 1) := by decide +kernel
theorem d_Mo_methodAt_63 : decode m_Mo_methodAt.2.1 63 = .ok (.istore 7, 2) := by decide +kernel
theorem d_Mo_methodAt_65 : decode m_Mo_methodAt.2.1 65 = .ok (.iload 7, 2) := by decide +kernel
theorem d_Mo_methodAt_67 : decode m_Mo_methodAt.2.1 67 = .ok (.iconst 1, 1) := by decide +kernel
theorem d_Mo_methodAt_68 : decode m_Mo_methodAt.2.1 68 = .ok (.iadd, 1) := by decide +kernel
theorem d_Mo_methodAt_69 : decode m_Mo_methodAt.2.1 69 = .ok (.aload_n 0, 1) := by decide +kernel
theorem d_Mo_methodAt_70 : decode m_Mo_methodAt.2.1 70 = .ok (.getfield 13, 3) := by decide +kernel
theorem d_Mo_methodAt_73 : decode m_Mo_methodAt.2.1 73 = .ok (.iload 7, 2) := by decide +kernel
theorem d_Mo_methodAt_75 : decode m_Mo_methodAt.2.1 75 = .ok (.iaload, 1) := by decide +kernel
theorem d_Mo_methodAt_76 : decode m_Mo_methodAt.2.1 76 = .ok (.iadd, 1) := by decide +kernel
theorem d_Mo_methodAt_77 : decode m_Mo_methodAt.2.1 77 = .ok (.istore 4, 2) := by decide +kernel
theorem d_Mo_methodAt_79 : decode m_Mo_methodAt.2.1 79 = .ok (.iinc 6 1, 3) := by decide +kernel
theorem d_Mo_methodAt_82 : decode m_Mo_methodAt.2.1 82 = .ok (.goto (-36), 3) := by decide +kernel
theorem d_Mo_methodAt_85 : decode m_Mo_methodAt.2.1 85 = .ok (.iload 4, 2) := by decide +kernel
theorem d_Mo_methodAt_87 : decode m_Mo_methodAt.2.1 87 = .ok (.istore_n 2, 1) := by decide +kernel
theorem d_Mo_methodAt_88 : decode m_Mo_methodAt.2.1 88 = .ok (.iinc 3 1, 3) := by decide +kernel
theorem d_Mo_methodAt_91 : decode m_Mo_methodAt.2.1 91 = .ok (.goto (-78), 3) := by decide +kernel
theorem d_Mo_methodAt_94 : decode m_Mo_methodAt.2.1 94 = .ok (.iload_n 2, 1) := by decide +kernel
theorem d_Mo_methodAt_95 : decode m_Mo_methodAt.2.1 95 = .ok (.ireturn, 1) := by decide +kernel
theorem d_Mo_open_0 : decode m_Mo_open.2.1 0 = .ok (.aload_n 0, 1) := by decide +kernel
theorem d_Mo_open_1 : decode m_Mo_open.2.1 1 = .ok (.aload_n 0, 1) := by decide +kernel
theorem d_Mo_open_2 : decode m_Mo_open.2.1 2 = .ok (.iload_n 1, 1) := by decide +kernel
theorem d_Mo_open_3 : decode m_Mo_open.2.1 3 = .ok (.invokevirtual 121, 3) := by decide +kernel
theorem d_Mo_open_6 : decode m_Mo_open.2.1 6 = .ok (.putfield 124, 3) := by decide +kernel
theorem d_Mo_open_9 : decode m_Mo_open.2.1 9 = .ok (.aload_n 0, 1) := by decide +kernel
theorem d_Mo_open_10 : decode m_Mo_open.2.1 10 = .ok (.aload_n 0, 1) := by decide +kernel
theorem d_Mo_open_11 : decode m_Mo_open.2.1 11 = .ok (.getfield 13, 3) := by decide +kernel
theorem d_Mo_open_14 : decode m_Mo_open.2.1 14 = .ok (.aload_n 0, 1) := by decide +kernel
theorem d_Mo_open_15 : decode m_Mo_open.2.1 15 = .ok (.getfield 124, 3) := by decide +kernel
theorem d_Mo_open_18 : decode m_Mo_open.2.1 18 = .ok (.iaload, 1) := by decide +kernel
theorem d_Mo_open_19 : decode m_Mo_open.2.1 19 = .ok (.putfield 127, 3) := by decide +kernel
theorem d_Mo_open_22 : decode m_Mo_open.2.1 22 = .ok (.aload_n 0, 1) := by decide +kernel
theorem d_Mo_open_23 : decode m_Mo_open.2.1 23 = .ok (.aload_n 0, 1) := by decide +kernel
theorem d_Mo_open_24 : decode m_Mo_open.2.1 24 = .ok (.getfield 13, 3) := by decide +kernel
theorem d_Mo_open_27 : decode m_Mo_open.2.1 27 = .ok (.aload_n 0, 1) := by decide +kernel
theorem d_Mo_open_28 : decode m_Mo_open.2.1 28 = .ok (.getfield 124, 3) := by decide +kernel
theorem d_Mo_open_31 : decode m_Mo_open.2.1 31 = .ok (.iconst 2, 1) := by decide +kernel
theorem d_Mo_open_32 : decode m_Mo_open.2.1 32 = .ok (.iadd, 1) := by decide +kernel
theorem d_Mo_open_33 : decode m_Mo_open.2.1 33 = .ok (.aload_n 0, 1) := by decide +kernel
theorem d_Mo_open_34 : decode m_Mo_open.2.1 34 = .ok (.getfield 127, 3) := by decide +kernel
theorem d_Mo_open_37 : decode m_Mo_open.2.1 37 = .ok (.iadd, 1) := by decide +kernel
theorem d_Mo_open_38 : decode m_Mo_open.2.1 38 = .ok (.iaload, 1) := by decide +kernel
theorem d_Mo_open_39 : decode m_Mo_open.2.1 39 = .ok (.putfield 130, 3) := by decide +kernel
theorem d_Mo_open_42 : decode m_Mo_open.2.1 42 = .ok (.aload_n 0, 1) := by decide +kernel
theorem d_Mo_open_43 : decode m_Mo_open.2.1 43 = .ok (.aload_n 0, 1) := by decide +kernel
theorem d_Mo_open_44 : decode m_Mo_open.2.1 44 = .ok (.aload_n 0, 1) := by decide +kernel
theorem d_Mo_open_45 : decode m_Mo_open.2.1 45 = .ok (.getfield 124, 3) := by decide +kernel
theorem d_Mo_open_48 : decode m_Mo_open.2.1 48 = .ok (.invokevirtual 118, 3) := by decide +kernel
theorem d_Mo_open_51 : decode m_Mo_open.2.1 51 = .ok (.putfield 133, 3) := by decide +kernel
theorem d_Mo_open_54 : decode m_Mo_open.2.1 54 = .ok (.aload_n 0, 1) := by decide +kernel
theorem d_Mo_open_55 : decode m_Mo_open.2.1 55 = .ok (.aload_n 0, 1) := by decide +kernel
theorem d_Mo_open_56 : decode m_Mo_open.2.1 56 = .ok (.aload_n 0, 1) := by decide +kernel
theorem d_Mo_open_57 : decode m_Mo_open.2.1 57 = .ok (.getfield 124, 3) := by decide +kernel
theorem d_Mo_open_60 : decode m_Mo_open.2.1 60 = .ok (.invokevirtual 115, 3) := by decide +kernel
theorem d_Mo_open_63 : decode m_Mo_open.2.1 63 = .ok (.putfield 136, 3) := by decide +kernel
theorem d_Mo_open_66 : decode m_Mo_open.2.1 66 = .ok (.aload_n 0, 1) := by decide +kernel
theorem d_Mo_open_67 : decode m_Mo_open.2.1 67 = .ok (.aload_n 0, 1) := by decide +kernel
theorem d_Mo_open_68 : decode m_Mo_open.2.1 68 = .ok (.aload_n 0, 1) := by decide +kernel
theorem d_Mo_open_69 : decode m_Mo_open.2.1 69 = .ok (.getfield 124, 3) := by decide +kernel
theorem d_Mo_open_72 : decode m_Mo_open.2.1 72 = .ok (.invokevirtual 112, 3) := by decide +kernel
