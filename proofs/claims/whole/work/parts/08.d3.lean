theorem d_Pr_frameAt_4 : decode m_Pr_frameAt.2.1 4 = .ok (.getfield 53, 3) := by decide +kernel
theorem d_Pr_frameAt_7 : decode m_Pr_frameAt.2.1 7 = .ok (.if_icmp .ge 21, 3) := by decide +kernel
theorem d_Pr_frameAt_10 : decode m_Pr_frameAt.2.1 10 = .ok (.aload_n 0, 1) := by decide +kernel
theorem d_Pr_frameAt_11 : decode m_Pr_frameAt.2.1 11 = .ok (.aload_n 1, 1) := by decide +kernel
theorem d_Pr_frameAt_12 : decode m_Pr_frameAt.2.1 12 = .ok (.iload_n 3, 1) := by decide +kernel
theorem d_Pr_frameAt_13 : decode m_Pr_frameAt.2.1 13 = .ok (.invokevirtual 56, 3) := by decide +kernel
theorem d_Pr_frameAt_16 : decode m_Pr_frameAt.2.1 16 = .ok (.iload_n 2, 1) := by decide +kernel
theorem d_Pr_frameAt_17 : decode m_Pr_frameAt.2.1 17 = .ok (.if_icmp .ne 5, 3) := by decide +kernel
theorem d_Pr_frameAt_20 : decode m_Pr_frameAt.2.1 20 = .ok (.iload_n 3, 1) := by decide +kernel
theorem d_Pr_frameAt_21 : decode m_Pr_frameAt.2.1 21 = .ok (.ireturn, 1) := by decide +kernel
theorem d_Pr_frameAt_22 : decode m_Pr_frameAt.2.1 22 = .ok (.iinc 3 1, 3) := by decide +kernel
theorem d_Pr_frameAt_25 : decode m_Pr_frameAt.2.1 25 = .ok (.goto (-23), 3) := by decide +kernel
theorem d_Pr_frameAt_28 : decode m_Pr_frameAt.2.1 28 = .ok (.iconst (-1), 1) := by decide +kernel
theorem d_Pr_frameAt_29 : decode m_Pr_frameAt.2.1 29 = .ok (.ireturn, 1) := by decide +kernel
theorem d_Pr_takenCount_0 : decode m_Pr_takenCount.2.1 0 = .ok (.aload_n 0, 1) := by decide +kernel
theorem d_Pr_takenCount_1 : decode m_Pr_takenCount.2.1 1 = .ok (.aload_n 1, 1) := by decide +kernel
theorem d_Pr_takenCount_2 : decode m_Pr_takenCount.2.1 2 = .ok (.iload_n 2, 1) := by decide +kernel
theorem d_Pr_takenCount_3 : decode m_Pr_takenCount.2.1 3 = .ok (.invokevirtual 41, 3) := by decide +kernel
theorem d_Pr_takenCount_6 : decode m_Pr_takenCount.2.1 6 = .ok (.istore_n 3, 1) := by decide +kernel
theorem d_Pr_takenCount_7 : decode m_Pr_takenCount.2.1 7 = .ok (.iload_n 3, 1) := by decide +kernel
theorem d_Pr_takenCount_8 : decode m_Pr_takenCount.2.1 8 = .ok (.sipush 184, 3) := by decide +kernel
theorem d_Pr_takenCount_11 : decode m_Pr_takenCount.2.1 11 = .ok (.if_icmp .ne 15, 3) := by decide +kernel
theorem d_Pr_takenCount_14 : decode m_Pr_takenCount.2.1 14 = .ok (.aload_n 0, 1) := by decide +kernel
theorem d_Pr_takenCount_15 : decode m_Pr_takenCount.2.1 15 = .ok (.aload_n 1, 1) := by decide +kernel
theorem d_Pr_takenCount_16 : decode m_Pr_takenCount.2.1 16 = .ok (.iload_n 2, 1) := by decide +kernel
theorem d_Pr_takenCount_17 : decode m_Pr_takenCount.2.1 17 = .ok (.invokevirtual 61, 3) := by decide +kernel
theorem d_Pr_takenCount_20 : decode m_Pr_takenCount.2.1 20 = .ok (.getfield 65, 3) := by decide +kernel
theorem d_Pr_takenCount_23 : decode m_Pr_takenCount.2.1 23 = .ok (.goto 7, 3) := by decide +kernel
theorem d_Pr_takenCount_26 : decode m_Pr_takenCount.2.1 26 = .ok (.iload_n 3, 1) := by decide +kernel
theorem d_Pr_takenCount_27 : decode m_Pr_takenCount.2.1 27 = .ok (.invokestatic 68, 3) := by decide +kernel
theorem d_Pr_takenCount_30 : decode m_Pr_takenCount.2.1 30 = .ok (.ireturn, 1) := by decide +kernel
theorem d_Pr_takenType_0 : decode m_Pr_takenType.2.1 0 = .ok (.aload_n 0, 1) := by decide +kernel
theorem d_Pr_takenType_1 : decode m_Pr_takenType.2.1 1 = .ok (.aload_n 1, 1) := by decide +kernel
theorem d_Pr_takenType_2 : decode m_Pr_takenType.2.1 2 = .ok (.iload_n 2, 1) := by decide +kernel
theorem d_Pr_takenType_3 : decode m_Pr_takenType.2.1 3 = .ok (.invokevirtual 41, 3) := by decide +kernel
theorem d_Pr_takenType_6 : decode m_Pr_takenType.2.1 6 = .ok (.istore 4, 2) := by decide +kernel
theorem d_Pr_takenType_8 : decode m_Pr_takenType.2.1 8 = .ok (.iload 4, 2) := by decide +kernel
theorem d_Pr_takenType_10 : decode m_Pr_takenType.2.1 10 = .ok (.sipush 184, 3) := by decide +kernel
theorem d_Pr_takenType_13 : decode m_Pr_takenType.2.1 13 = .ok (.if_icmp .ne 17, 3) := by decide +kernel
theorem d_Pr_takenType_16 : decode m_Pr_takenType.2.1 16 = .ok (.aload_n 0, 1) := by decide +kernel
theorem d_Pr_takenType_17 : decode m_Pr_takenType.2.1 17 = .ok (.aload_n 0, 1) := by decide +kernel
theorem d_Pr_takenType_18 : decode m_Pr_takenType.2.1 18 = .ok (.aload_n 1, 1) := by decide +kernel
theorem d_Pr_takenType_19 : decode m_Pr_takenType.2.1 19 = .ok (.iload_n 2, 1) := by decide +kernel
theorem d_Pr_takenType_20 : decode m_Pr_takenType.2.1 20 = .ok (.invokevirtual 61, 3) := by decide +kernel
theorem d_Pr_takenType_23 : decode m_Pr_takenType.2.1 23 = .ok (.iload_n 3, 1) := by decide +kernel
theorem d_Pr_takenType_24 : decode m_Pr_takenType.2.1 24 = .ok (.invokevirtual 72, 3) := by decide +kernel
theorem d_Pr_takenType_27 : decode m_Pr_takenType.2.1 27 = .ok (.goto 9, 3) := by decide +kernel
theorem d_Pr_takenType_30 : decode m_Pr_takenType.2.1 30 = .ok (.iload 4, 2) := by decide +kernel
theorem d_Pr_takenType_32 : decode m_Pr_takenType.2.1 32 = .ok (.iload_n 3, 1) := by decide +kernel
theorem d_Pr_takenType_33 : decode m_Pr_takenType.2.1 33 = .ok (.invokestatic 75, 3) := by decide +kernel
theorem d_Pr_takenType_36 : decode m_Pr_takenType.2.1 36 = .ok (.ireturn, 1) := by decide +kernel
theorem d_Pr_putCount_0 : decode m_Pr_putCount.2.1 0 = .ok (.aload_n 0, 1) := by decide +kernel
theorem d_Pr_putCount_1 : decode m_Pr_putCount.2.1 1 = .ok (.aload_n 1, 1) := by decide +kernel
theorem d_Pr_putCount_2 : decode m_Pr_putCount.2.1 2 = .ok (.iload_n 2, 1) := by decide +kernel
theorem d_Pr_putCount_3 : decode m_Pr_putCount.2.1 3 = .ok (.invokevirtual 41, 3) := by decide +kernel
theorem d_Pr_putCount_6 : decode m_Pr_putCount.2.1 6 = .ok (.istore_n 3, 1) := by decide +kernel
theorem d_Pr_putCount_7 : decode m_Pr_putCount.2.1 7 = .ok (.iload_n 3, 1) := by decide +kernel
theorem d_Pr_putCount_8 : decode m_Pr_putCount.2.1 8 = .ok (.sipush 184, 3) := by decide +kernel
theorem d_Pr_putCount_11 : decode m_Pr_putCount.2.1 11 = .ok (.if_icmp .ne 21, 3) := by decide +kernel
theorem d_Pr_putCount_14 : decode m_Pr_putCount.2.1 14 = .ok (.aload_n 0, 1) := by decide +kernel
theorem d_Pr_putCount_15 : decode m_Pr_putCount.2.1 15 = .ok (.aload_n 1, 1) := by decide +kernel
theorem d_Pr_putCount_16 : decode m_Pr_putCount.2.1 16 = .ok (.iload_n 2, 1) := by decide +kernel
theorem d_Pr_putCount_17 : decode m_Pr_putCount.2.1 17 = .ok (.invokevirtual 61, 3) := by decide +kernel
theorem d_Pr_putCount_20 : decode m_Pr_putCount.2.1 20 = .ok (.getfield 79, 3) := by decide +kernel
theorem d_Pr_putCount_23 : decode m_Pr_putCount.2.1 23 = .ok (.ifCond .ne 7, 3) := by decide +kernel
theorem d_Pr_putCount_26 : decode m_Pr_putCount.2.1 26 = .ok (.iconst 0, 1) := by decide +kernel
theorem d_Pr_putCount_27 : decode m_Pr_putCount.2.1 27 = .ok (.goto 4, 3) := by decide +kernel
theorem d_Pr_putCount_30 : decode m_Pr_putCount.2.1 30 = .ok (.iconst 1, 1) := by decide +kernel
theorem d_Pr_putCount_31 : decode m_Pr_putCount.2.1 31 = .ok (.ireturn, 1) := by decide +kernel
theorem d_Pr_putCount_32 : decode m_Pr_putCount.2.1 32 = .ok (.iload_n 3, 1) := by decide +kernel
theorem d_Pr_putCount_33 : decode m_Pr_putCount.2.1 33 = .ok (.invokestatic 82, 3) := by decide +kernel
theorem d_Pr_putCount_36 : decode m_Pr_putCount.2.1 36 = .ok (.ireturn, 1) := by decide +kernel
theorem d_Rd_readsFile_0 : decode m_Rd_readsFile.2.1 0 = .ok (.aload_n 0, 1) := by decide +kernel
theorem d_Rd_readsFile_1 : decode m_Rd_readsFile.2.1 1 = .ok (.iconst 0, 1) := by decide +kernel
theorem d_Rd_readsFile_2 : decode m_Rd_readsFile.2.1 2 = .ok (.putfield 15, 3) := by decide +kernel
theorem d_Rd_readsFile_5 : decode m_Rd_readsFile.2.1 5 = .ok (.aload_n 0, 1) := by decide +kernel
theorem d_Rd_readsFile_6 : decode m_Rd_readsFile.2.1 6 = .ok (.aload_n 1, 1) := by decide +kernel
theorem d_Rd_readsFile_7 : decode m_Rd_readsFile.2.1 7 = .ok (.sipush 202, 3) := by decide +kernel
theorem d_Rd_readsFile_10 : decode m_Rd_readsFile.2.1 10 = .ok (.sipush 202, 3) := by decide +kernel
theorem d_Rd_readsFile_13 : decode m_Rd_readsFile.2.1 13 = .ok (.invokevirtual 19, 3) := by decide +kernel
theorem d_Rd_readsFile_16 : decode m_Rd_readsFile.2.1 16 = .ok (.ifCond .eq 21, 3) := by decide +kernel
theorem d_Rd_readsFile_19 : decode m_Rd_readsFile.2.1 19 = .ok (.aload_n 0, 1) := by decide +kernel
theorem d_Rd_readsFile_20 : decode m_Rd_readsFile.2.1 20 = .ok (.aload_n 1, 1) := by decide +kernel
theorem d_Rd_readsFile_21 : decode m_Rd_readsFile.2.1 21 = .ok (.invokevirtual 23, 3) := by decide +kernel
theorem d_Rd_readsFile_24 : decode m_Rd_readsFile.2.1 24 = .ok (.ifCond .eq 13, 3) := by decide +kernel
theorem d_Rd_readsFile_27 : decode m_Rd_readsFile.2.1 27 = .ok (.aload_n 0, 1) := by decide +kernel
theorem d_Rd_readsFile_28 : decode m_Rd_readsFile.2.1 28 = .ok (.aload_n 1, 1) := by decide +kernel
theorem d_Rd_readsFile_29 : decode m_Rd_readsFile.2.1 29 = .ok (.iconst 1, 1) := by decide +kernel
theorem d_Rd_readsFile_30 : decode m_Rd_readsFile.2.1 30 = .ok (.iconst 4, 1) := by decide +kernel
theorem d_Rd_readsFile_31 : decode m_Rd_readsFile.2.1 31 = .ok (.invokevirtual 19, 3) := by decide +kernel
theorem d_Rd_readsFile_34 : decode m_Rd_readsFile.2.1 34 = .ok (.ifCond .ne 5, 3) := by decide +kernel
theorem d_Rd_readsFile_37 : decode m_Rd_readsFile.2.1 37 = .ok (.iconst 0, 1) := by decide +kernel
theorem d_Rd_readsFile_38 : decode m_Rd_readsFile.2.1 38 = .ok (.ireturn, 1) := by decide +kernel
theorem d_Rd_readsFile_39 : decode m_Rd_readsFile.2.1 39 = .ok (.aload_n 1, 1) := by decide +kernel
theorem d_Rd_readsFile_40 : decode m_Rd_readsFile.2.1 40 = .ok (.aload_n 0, 1) := by decide +kernel
theorem d_Rd_readsFile_41 : decode m_Rd_readsFile.2.1 41 = .ok (.getfield 27, 3) := by decide +kernel
theorem d_Rd_readsFile_44 : decode m_Rd_readsFile.2.1 44 = .ok (.putfield 30, 3) := by decide +kernel
theorem d_Rd_readsFile_47 : decode m_Rd_readsFile.2.1 47 = .ok (.iconst 0, 1) := by decide +kernel
theorem d_Rd_readsFile_48 : decode m_Rd_readsFile.2.1 48 = .ok (.istore_n 2, 1) := by decide +kernel
theorem d_Rd_readsFile_49 : decode m_Rd_readsFile.2.1 49 = .ok (.iload_n 2, 1) := by decide +kernel
theorem d_Rd_readsFile_50 : decode m_Rd_readsFile.2.1 50 = .ok (.aload_n 1, 1) := by decide +kernel
theorem d_Rd_readsFile_51 : decode m_Rd_readsFile.2.1 51 = .ok (.getfield 30, 3) := by decide +kernel
theorem d_Rd_readsFile_54 : decode m_Rd_readsFile.2.1 54 = .ok (.if_icmp .ge 25, 3) := by decide +kernel
theorem d_Rd_readsFile_57 : decode m_Rd_readsFile.2.1 57 = .ok (.aload_n 0, 1) := by decide +kernel
theorem d_Rd_readsFile_58 : decode m_Rd_readsFile.2.1 58 = .ok (.aload_n 1, 1) := by decide +kernel
theorem d_Rd_readsFile_59 : decode m_Rd_readsFile.2.1 59 = .ok (.aload_n 1, 1) := by decide +kernel
theorem d_Rd_readsFile_60 : decode m_Rd_readsFile.2.1 60 = .ok (.getfield 35, 3) := by decide +kernel
theorem d_Rd_readsFile_63 : decode m_Rd_readsFile.2.1 63 = .ok (.iload_n 2, 1) := by decide +kernel
theorem d_Rd_readsFile_64 : decode m_Rd_readsFile.2.1 64 = .ok (.aaload, 1) := by decide +kernel
theorem d_Rd_readsFile_65 : decode m_Rd_readsFile.2.1 65 = .ok (.invokevirtual 39, 3) := by decide +kernel
theorem d_Rd_readsFile_68 : decode m_Rd_readsFile.2.1 68 = .ok (.ifCond .ne 5, 3) := by decide +kernel
theorem d_Rd_readsFile_71 : decode m_Rd_readsFile.2.1 71 = .ok (.iconst 0, 1) := by decide +kernel
theorem d_Rd_readsFile_72 : decode m_Rd_readsFile.2.1 72 = .ok (.ireturn, 1) := by decide +kernel
theorem d_Rd_readsFile_73 : decode m_Rd_readsFile.2.1 73 = .ok (.iinc 2 1, 3) := by decide +kernel
theorem d_Rd_readsFile_76 : decode m_Rd_readsFile.2.1 76 = .ok (.goto (-27), 3) := by decide +kernel
theorem d_Rd_readsFile_79 : decode m_Rd_readsFile.2.1 79 = .ok (.aload_n 0, 1) := by decide +kernel
theorem d_Rd_readsFile_80 : decode m_Rd_readsFile.2.1 80 = .ok (.getfield 15, 3) := by decide +kernel
theorem d_Rd_readsFile_83 : decode m_Rd_readsFile.2.1 83 = .ok (.aload_n 1, 1) := by decide +kernel
theorem d_Rd_readsFile_84 : decode m_Rd_readsFile.2.1 84 = .ok (.getfield 43, 3) := by decide +kernel
theorem d_Rd_readsFile_87 : decode m_Rd_readsFile.2.1 87 = .ok (.if_icmp .ne 7, 3) := by decide +kernel
theorem d_Rd_readsFile_90 : decode m_Rd_readsFile.2.1 90 = .ok (.iconst 1, 1) := by decide +kernel
theorem d_Rd_readsFile_91 : decode m_Rd_readsFile.2.1 91 = .ok (.goto 4, 3) := by decide +kernel
theorem d_Rd_readsFile_94 : decode m_Rd_readsFile.2.1 94 = .ok (.iconst 0, 1) := by decide +kernel
theorem d_Rd_readsFile_95 : decode m_Rd_readsFile.2.1 95 = .ok (.ireturn, 1) := by decide +kernel
theorem d_Rd_next_0 : decode m_Rd_next.2.1 0 = .ok (.aload_n 0, 1) := by decide +kernel
theorem d_Rd_next_1 : decode m_Rd_next.2.1 1 = .ok (.getfield 15, 3) := by decide +kernel
theorem d_Rd_next_4 : decode m_Rd_next.2.1 4 = .ok (.aload_n 1, 1) := by decide +kernel
theorem d_Rd_next_5 : decode m_Rd_next.2.1 5 = .ok (.getfield 43, 3) := by decide +kernel
theorem d_Rd_next_8 : decode m_Rd_next.2.1 8 = .ok (.if_icmp .ge 29, 3) := by decide +kernel
theorem d_Rd_next_11 : decode m_Rd_next.2.1 11 = .ok (.aload_n 1, 1) := by decide +kernel
theorem d_Rd_next_12 : decode m_Rd_next.2.1 12 = .ok (.getfield 46, 3) := by decide +kernel
theorem d_Rd_next_15 : decode m_Rd_next.2.1 15 = .ok (.aload_n 0, 1) := by decide +kernel
theorem d_Rd_next_16 : decode m_Rd_next.2.1 16 = .ok (.getfield 15, 3) := by decide +kernel
theorem d_Rd_next_19 : decode m_Rd_next.2.1 19 = .ok (.iaload, 1) := by decide +kernel
theorem d_Rd_next_20 : decode m_Rd_next.2.1 20 = .ok (.iload_n 2, 1) := by decide +kernel
theorem d_Rd_next_21 : decode m_Rd_next.2.1 21 = .ok (.if_icmp .lt 16, 3) := by decide +kernel
theorem d_Rd_next_24 : decode m_Rd_next.2.1 24 = .ok (.aload_n 1, 1) := by decide +kernel
theorem d_Rd_next_25 : decode m_Rd_next.2.1 25 = .ok (.getfield 46, 3) := by decide +kernel
theorem d_Rd_next_28 : decode m_Rd_next.2.1 28 = .ok (.aload_n 0, 1) := by decide +kernel
theorem d_Rd_next_29 : decode m_Rd_next.2.1 29 = .ok (.getfield 15, 3) := by decide +kernel
theorem d_Rd_next_32 : decode m_Rd_next.2.1 32 = .ok (.iaload, 1) := by decide +kernel
theorem d_Rd_next_33 : decode m_Rd_next.2.1 33 = .ok (.iload_n 3, 1) := by decide +kernel
theorem d_Rd_next_34 : decode m_Rd_next.2.1 34 = .ok (.if_icmp .le 5, 3) := by decide +kernel
theorem d_Rd_next_37 : decode m_Rd_next.2.1 37 = .ok (.iconst 0, 1) := by decide +kernel
theorem d_Rd_next_38 : decode m_Rd_next.2.1 38 = .ok (.ireturn, 1) := by decide +kernel
theorem d_Rd_next_39 : decode m_Rd_next.2.1 39 = .ok (.aload_n 0, 1) := by decide +kernel
theorem d_Rd_next_40 : decode m_Rd_next.2.1 40 = .ok (.aload_n 1, 1) := by decide +kernel
theorem d_Rd_next_41 : decode m_Rd_next.2.1 41 = .ok (.getfield 46, 3) := by decide +kernel
theorem d_Rd_next_44 : decode m_Rd_next.2.1 44 = .ok (.aload_n 0, 1) := by decide +kernel
theorem d_Rd_next_45 : decode m_Rd_next.2.1 45 = .ok (.getfield 15, 3) := by decide +kernel
theorem d_Rd_next_48 : decode m_Rd_next.2.1 48 = .ok (.iaload, 1) := by decide +kernel
theorem d_Rd_next_49 : decode m_Rd_next.2.1 49 = .ok (.putfield 27, 3) := by decide +kernel
theorem d_Rd_next_52 : decode m_Rd_next.2.1 52 = .ok (.aload_n 0, 1) := by decide +kernel
theorem d_Rd_next_53 : decode m_Rd_next.2.1 53 = .ok (.dup, 1) := by decide +kernel
theorem d_Rd_next_54 : decode m_Rd_next.2.1 54 = .ok (.getfield 15, 3) := by decide +kernel
theorem d_Rd_next_57 : decode m_Rd_next.2.1 57 = .ok (.iconst 1, 1) := by decide +kernel
theorem d_Rd_next_58 : decode m_Rd_next.2.1 58 = .ok (.iadd, 1) := by decide +kernel
theorem d_Rd_next_59 : decode m_Rd_next.2.1 59 = .ok (.putfield 15, 3) := by decide +kernel
theorem d_Rd_next_62 : decode m_Rd_next.2.1 62 = .ok (.iconst 1, 1) := by decide +kernel
theorem d_Rd_next_63 : decode m_Rd_next.2.1 63 = .ok (.ireturn, 1) := by decide +kernel
theorem d_Rd_nextOnes_0 : decode m_Rd_nextOnes.2.1 0 = .ok (.iconst 0, 1) := by decide +kernel
theorem d_Rd_nextOnes_1 : decode m_Rd_nextOnes.2.1 1 = .ok (.istore 5, 2) := by decide +kernel
theorem d_Rd_nextOnes_3 : decode m_Rd_nextOnes.2.1 3 = .ok (.iload 5, 2) := by decide +kernel
theorem d_Rd_nextOnes_5 : decode m_Rd_nextOnes.2.1 5 = .ok (.iload_n 2, 1) := by decide +kernel
theorem d_Rd_nextOnes_6 : decode m_Rd_nextOnes.2.1 6 = .ok (.if_icmp .ge 22, 3) := by decide +kernel
theorem d_Rd_nextOnes_9 : decode m_Rd_nextOnes.2.1 9 = .ok (.aload_n 0, 1) := by decide +kernel
theorem d_Rd_nextOnes_10 : decode m_Rd_nextOnes.2.1 10 = .ok (.aload_n 1, 1) := by decide +kernel
theorem d_Rd_nextOnes_11 : decode m_Rd_nextOnes.2.1 11 = .ok (.iload_n 3, 1) := by decide +kernel
theorem d_Rd_nextOnes_12 : decode m_Rd_nextOnes.2.1 12 = .ok (.iload 4, 2) := by decide +kernel
theorem d_Rd_nextOnes_14 : decode m_Rd_nextOnes.2.1 14 = .ok (.invokevirtual 19, 3) := by decide +kernel
theorem d_Rd_nextOnes_17 : decode m_Rd_nextOnes.2.1 17 = .ok (.ifCond .ne 5, 3) := by decide +kernel
theorem d_Rd_nextOnes_20 : decode m_Rd_nextOnes.2.1 20 = .ok (.iconst 0, 1) := by decide +kernel
theorem d_Rd_nextOnes_21 : decode m_Rd_nextOnes.2.1 21 = .ok (.ireturn, 1) := by decide +kernel
theorem d_Rd_nextOnes_22 : decode m_Rd_nextOnes.2.1 22 = .ok (.iinc 5 1, 3) := by decide +kernel
theorem d_Rd_nextOnes_25 : decode m_Rd_nextOnes.2.1 25 = .ok (.goto (-22), 3) := by decide +kernel
theorem d_Rd_nextOnes_28 : decode m_Rd_nextOnes.2.1 28 = .ok (.iconst 1, 1) := by decide +kernel
theorem d_Rd_nextOnes_29 : decode m_Rd_nextOnes.2.1 29 = .ok (.ireturn, 1) := by decide +kernel
theorem d_Rd_readsConstants_0 : decode m_Rd_readsConstants.2.1 0 = .ok (.aload_n 0, 1) := by decide +kernel
theorem d_Rd_readsConstants_1 : decode m_Rd_readsConstants.2.1 1 = .ok (.aload_n 1, 1) := by decide +kernel
theorem d_Rd_readsConstants_2 : decode m_Rd_readsConstants.2.1 2 = .ok (.iconst 0, 1) := by decide +kernel
theorem d_Rd_readsConstants_3 : decode m_Rd_readsConstants.2.1 3 = .ok (.iconst 4, 1) := by decide +kernel
theorem d_Rd_readsConstants_4 : decode m_Rd_readsConstants.2.1 4 = .ok (.invokevirtual 19, 3) := by decide +kernel
theorem d_Rd_readsConstants_7 : decode m_Rd_readsConstants.2.1 7 = .ok (.ifCond .ne 5, 3) := by decide +kernel
theorem d_Rd_readsConstants_10 : decode m_Rd_readsConstants.2.1 10 = .ok (.iconst 0, 1) := by decide +kernel
theorem d_Rd_readsConstants_11 : decode m_Rd_readsConstants.2.1 11 = .ok (.ireturn, 1) := by decide +kernel
theorem d_Rd_readsConstants_12 : decode m_Rd_readsConstants.2.1 12 = .ok (.aload_n 1, 1) := by decide +kernel
theorem d_Rd_readsConstants_13 : decode m_Rd_readsConstants.2.1 13 = .ok (.aload_n 0, 1) := by decide +kernel
theorem d_Rd_readsConstants_14 : decode m_Rd_readsConstants.2.1 14 = .ok (.getfield 27, 3) := by decide +kernel
theorem d_Rd_readsConstants_17 : decode m_Rd_readsConstants.2.1 17 = .ok (.putfield 50, 3) := by decide +kernel
theorem d_Rd_readsConstants_20 : decode m_Rd_readsConstants.2.1 20 = .ok (.aload_n 1, 1) := by decide +kernel
theorem d_Rd_readsConstants_21 : decode m_Rd_readsConstants.2.1 21 = .ok (.aload_n 0, 1) := by decide +kernel
theorem d_Rd_readsConstants_22 : decode m_Rd_readsConstants.2.1 22 = .ok (.getfield 15, 3) := by decide +kernel
theorem d_Rd_readsConstants_25 : decode m_Rd_readsConstants.2.1 25 = .ok (.putfield 53, 3) := by decide +kernel
theorem d_Rd_readsConstants_28 : decode m_Rd_readsConstants.2.1 28 = .ok (.aload_n 0, 1) := by decide +kernel
theorem d_Rd_readsConstants_29 : decode m_Rd_readsConstants.2.1 29 = .ok (.aload_n 1, 1) := by decide +kernel
theorem d_Rd_readsConstants_30 : decode m_Rd_readsConstants.2.1 30 = .ok (.iconst 4, 1) := by decide +kernel
theorem d_Rd_readsConstants_31 : decode m_Rd_readsConstants.2.1 31 = .ok (.aload_n 1, 1) := by decide +kernel
theorem d_Rd_readsConstants_32 : decode m_Rd_readsConstants.2.1 32 = .ok (.getfield 50, 3) := by decide +kernel
theorem d_Rd_readsConstants_35 : decode m_Rd_readsConstants.2.1 35 = .ok (.imul, 1) := by decide +kernel
theorem d_Rd_readsConstants_36 : decode m_Rd_readsConstants.2.1 36 = .ok (.iconst 0, 1) := by decide +kernel
theorem d_Rd_readsConstants_37 : decode m_Rd_readsConstants.2.1 37 = .ok (.sipush 255, 3) := by decide +kernel
theorem d_Rd_readsConstants_40 : decode m_Rd_readsConstants.2.1 40 = .ok (.invokevirtual 56, 3) := by decide +kernel
theorem d_Rd_readsConstants_43 : decode m_Rd_readsConstants.2.1 43 = .ok (.ireturn, 1) := by decide +kernel
theorem d_Rd_readsMethod_0 : decode m_Rd_readsMethod.2.1 0 = .ok (.aload_n 0, 1) := by decide +kernel
theorem d_Rd_readsMethod_1 : decode m_Rd_readsMethod.2.1 1 = .ok (.aload_n 1, 1) := by decide +kernel
theorem d_Rd_readsMethod_2 : decode m_Rd_readsMethod.2.1 2 = .ok (.aload_n 2, 1) := by decide +kernel
theorem d_Rd_readsMethod_3 : decode m_Rd_readsMethod.2.1 3 = .ok (.invokevirtual 60, 3) := by decide +kernel
theorem d_Rd_readsMethod_6 : decode m_Rd_readsMethod.2.1 6 = .ok (.ifCond .eq 43, 3) := by decide +kernel
theorem d_Rd_readsMethod_9 : decode m_Rd_readsMethod.2.1 9 = .ok (.aload_n 0, 1) := by decide +kernel
theorem d_Rd_readsMethod_10 : decode m_Rd_readsMethod.2.1 10 = .ok (.aload_n 1, 1) := by decide +kernel
theorem d_Rd_readsMethod_11 : decode m_Rd_readsMethod.2.1 11 = .ok (.aload_n 2, 1) := by decide +kernel
theorem d_Rd_readsMethod_12 : decode m_Rd_readsMethod.2.1 12 = .ok (.invokevirtual 63, 3) := by decide +kernel
theorem d_Rd_readsMethod_15 : decode m_Rd_readsMethod.2.1 15 = .ok (.ifCond .eq 34, 3) := by decide +kernel
theorem d_Rd_readsMethod_18 : decode m_Rd_readsMethod.2.1 18 = .ok (.aload_n 0, 1) := by decide +kernel
theorem d_Rd_readsMethod_19 : decode m_Rd_readsMethod.2.1 19 = .ok (.aload_n 1, 1) := by decide +kernel
theorem d_Rd_readsMethod_20 : decode m_Rd_readsMethod.2.1 20 = .ok (.aload_n 2, 1) := by decide +kernel
theorem d_Rd_readsMethod_21 : decode m_Rd_readsMethod.2.1 21 = .ok (.invokevirtual 66, 3) := by decide +kernel
theorem d_Rd_readsMethod_24 : decode m_Rd_readsMethod.2.1 24 = .ok (.ifCond .eq 25, 3) := by decide +kernel
theorem d_Rd_readsMethod_27 : decode m_Rd_readsMethod.2.1 27 = .ok (.aload_n 0, 1) := by decide +kernel
theorem d_Rd_readsMethod_28 : decode m_Rd_readsMethod.2.1 28 = .ok (.aload_n 1, 1) := by decide +kernel
theorem d_Rd_readsMethod_29 : decode m_Rd_readsMethod.2.1 29 = .ok (.aload_n 2, 1) := by decide +kernel
theorem d_Rd_readsMethod_30 : decode m_Rd_readsMethod.2.1 30 = .ok (.invokevirtual 69, 3) := by decide +kernel
theorem d_Rd_readsMethod_33 : decode m_Rd_readsMethod.2.1 33 = .ok (.ifCond .eq 16, 3) := by decide +kernel
theorem d_Rd_readsMethod_36 : decode m_Rd_readsMethod.2.1 36 = .ok (.aload_n 0, 1) := by decide +kernel
theorem d_Rd_readsMethod_37 : decode m_Rd_readsMethod.2.1 37 = .ok (.aload_n 1, 1) := by decide +kernel
theorem d_Rd_readsMethod_38 : decode m_Rd_readsMethod.2.1 38 = .ok (.aload_n 2, 1) := by decide +kernel
theorem d_Rd_readsMethod_39 : decode m_Rd_readsMethod.2.1 39 = .ok (.invokevirtual 72, 3) := by decide +kernel
theorem d_Rd_readsMethod_42 : decode m_Rd_readsMethod.2.1 42 = .ok (.ifCond .eq 7, 3) := by decide +kernel
theorem d_Rd_readsMethod_45 : decode m_Rd_readsMethod.2.1 45 = .ok (.iconst 1, 1) := by decide +kernel
theorem d_Rd_readsMethod_46 : decode m_Rd_readsMethod.2.1 46 = .ok (.goto 4, 3) := by decide +kernel
theorem d_Rd_readsMethod_49 : decode m_Rd_readsMethod.2.1 49 = .ok (.iconst 0, 1) := by decide +kernel
theorem d_Rd_readsMethod_50 : decode m_Rd_readsMethod.2.1 50 = .ok (.ireturn, 1) := by decide +kernel
theorem d_Rd_readsHead_0 : decode m_Rd_readsHead.2.1 0 = .ok (.aload_n 0, 1) := by decide +kernel
theorem d_Rd_readsHead_1 : decode m_Rd_readsHead.2.1 1 = .ok (.aload_n 1, 1) := by decide +kernel
theorem d_Rd_readsHead_2 : decode m_Rd_readsHead.2.1 2 = .ok (.iconst 0, 1) := by decide +kernel
theorem d_Rd_readsHead_3 : decode m_Rd_readsHead.2.1 3 = .ok (.iconst 3, 1) := by decide +kernel
theorem d_Rd_readsHead_4 : decode m_Rd_readsHead.2.1 4 = .ok (.invokevirtual 19, 3) := by decide +kernel
theorem d_Rd_readsHead_7 : decode m_Rd_readsHead.2.1 7 = .ok (.ifCond .ne 5, 3) := by decide +kernel
theorem d_Rd_readsHead_10 : decode m_Rd_readsHead.2.1 10 = .ok (.iconst 0, 1) := by decide +kernel
theorem d_Rd_readsHead_11 : decode m_Rd_readsHead.2.1 11 = .ok (.ireturn, 1) := by decide +kernel
theorem d_Rd_readsHead_12 : decode m_Rd_readsHead.2.1 12 = .ok (.aload_n 2, 1) := by decide +kernel
theorem d_Rd_readsHead_13 : decode m_Rd_readsHead.2.1 13 = .ok (.aload_n 0, 1) := by decide +kernel
theorem d_Rd_readsHead_14 : decode m_Rd_readsHead.2.1 14 = .ok (.getfield 27, 3) := by decide +kernel
theorem d_Rd_readsHead_17 : decode m_Rd_readsHead.2.1 17 = .ok (.putfield 75, 3) := by decide +kernel
theorem d_Rd_readsHead_20 : decode m_Rd_readsHead.2.1 20 = .ok (.aload_n 2, 1) := by decide +kernel
theorem d_Rd_readsHead_21 : decode m_Rd_readsHead.2.1 21 = .ok (.aload_n 0, 1) := by decide +kernel
theorem d_Rd_readsHead_22 : decode m_Rd_readsHead.2.1 22 = .ok (.getfield 15, 3) := by decide +kernel
theorem d_Rd_readsHead_25 : decode m_Rd_readsHead.2.1 25 = .ok (.putfield 80, 3) := by decide +kernel
theorem d_Rd_readsHead_28 : decode m_Rd_readsHead.2.1 28 = .ok (.aload_n 0, 1) := by decide +kernel
theorem d_Rd_readsHead_29 : decode m_Rd_readsHead.2.1 29 = .ok (.aload_n 1, 1) := by decide +kernel
theorem d_Rd_readsHead_30 : decode m_Rd_readsHead.2.1 30 = .ok (.aload_n 2, 1) := by decide +kernel
theorem d_Rd_readsHead_31 : decode m_Rd_readsHead.2.1 31 = .ok (.getfield 75, 3) := by decide +kernel
theorem d_Rd_readsHead_34 : decode m_Rd_readsHead.2.1 34 = .ok (.iconst 1, 1) := by decide +kernel
theorem d_Rd_readsHead_35 : decode m_Rd_readsHead.2.1 35 = .ok (.iconst 2, 1) := by decide +kernel
theorem d_Rd_readsHead_36 : decode m_Rd_readsHead.2.1 36 = .ok (.invokevirtual 56, 3) := by decide +kernel
theorem d_Rd_readsHead_39 : decode m_Rd_readsHead.2.1 39 = .ok (.ifCond .eq 13, 3) := by decide +kernel
theorem d_Rd_readsHead_42 : decode m_Rd_readsHead.2.1 42 = .ok (.aload_n 0, 1) := by decide +kernel
theorem d_Rd_readsHead_43 : decode m_Rd_readsHead.2.1 43 = .ok (.aload_n 1, 1) := by decide +kernel
theorem d_Rd_readsHead_44 : decode m_Rd_readsHead.2.1 44 = .ok (.iconst 0, 1) := by decide +kernel
theorem d_Rd_readsHead_45 : decode m_Rd_readsHead.2.1 45 = .ok (.iconst 2, 1) := by decide +kernel
theorem d_Rd_readsHead_46 : decode m_Rd_readsHead.2.1 46 = .ok (.invokevirtual 19, 3) := by decide +kernel
theorem d_Rd_readsHead_49 : decode m_Rd_readsHead.2.1 49 = .ok (.ifCond .ne 5, 3) := by decide +kernel
theorem d_Rd_readsHead_52 : decode m_Rd_readsHead.2.1 52 = .ok (.iconst 0, 1) := by decide +kernel
theorem d_Rd_readsHead_53 : decode m_Rd_readsHead.2.1 53 = .ok (.ireturn, 1) := by decide +kernel
theorem d_Rd_readsHead_54 : decode m_Rd_readsHead.2.1 54 = .ok (.aload_n 2, 1) := by decide +kernel
theorem d_Rd_readsHead_55 : decode m_Rd_readsHead.2.1 55 = .ok (.aload_n 0, 1) := by decide +kernel
theorem d_Rd_readsHead_56 : decode m_Rd_readsHead.2.1 56 = .ok (.getfield 27, 3) := by decide +kernel
theorem d_Rd_readsHead_59 : decode m_Rd_readsHead.2.1 59 = .ok (.putfield 83, 3) := by decide +kernel
theorem d_Rd_readsHead_62 : decode m_Rd_readsHead.2.1 62 = .ok (.aload_n 0, 1) := by decide +kernel
theorem d_Rd_readsHead_63 : decode m_Rd_readsHead.2.1 63 = .ok (.aload_n 1, 1) := by decide +kernel
theorem d_Rd_readsHead_64 : decode m_Rd_readsHead.2.1 64 = .ok (.iconst 0, 1) := by decide +kernel
theorem d_Rd_readsHead_65 : decode m_Rd_readsHead.2.1 65 = .ok (.bipush 6, 2) := by decide +kernel
theorem d_Rd_readsHead_67 : decode m_Rd_readsHead.2.1 67 = .ok (.invokevirtual 19, 3) := by decide +kernel
theorem d_Rd_readsHead_70 : decode m_Rd_readsHead.2.1 70 = .ok (.ifCond .ne 5, 3) := by decide +kernel
theorem d_Rd_readsHead_73 : decode m_Rd_readsHead.2.1 73 = .ok (.iconst 0, 1) := by decide +kernel
theorem d_Rd_readsHead_74 : decode m_Rd_readsHead.2.1 74 = .ok (.ireturn, 1) := by decide +kernel
theorem d_Rd_readsHead_75 : decode m_Rd_readsHead.2.1 75 = .ok (.aload_n 2, 1) := by decide +kernel
theorem d_Rd_readsHead_76 : decode m_Rd_readsHead.2.1 76 = .ok (.aload_n 0, 1) := by decide +kernel
theorem d_Rd_readsHead_77 : decode m_Rd_readsHead.2.1 77 = .ok (.getfield 27, 3) := by decide +kernel
theorem d_Rd_readsHead_80 : decode m_Rd_readsHead.2.1 80 = .ok (.putfield 86, 3) := by decide +kernel
theorem d_Rd_readsHead_83 : decode m_Rd_readsHead.2.1 83 = .ok (.aload_n 0, 1) := by decide +kernel
theorem d_Rd_readsHead_84 : decode m_Rd_readsHead.2.1 84 = .ok (.aload_n 1, 1) := by decide +kernel
theorem d_Rd_readsHead_85 : decode m_Rd_readsHead.2.1 85 = .ok (.aload_n 2, 1) := by decide +kernel
theorem d_Rd_readsHead_86 : decode m_Rd_readsHead.2.1 86 = .ok (.getfield 75, 3) := by decide +kernel
theorem d_Rd_readsHead_89 : decode m_Rd_readsHead.2.1 89 = .ok (.bipush 6, 2) := by decide +kernel
theorem d_Rd_readsHead_91 : decode m_Rd_readsHead.2.1 91 = .ok (.invokevirtual 19, 3) := by decide +kernel
theorem d_Rd_readsHead_94 : decode m_Rd_readsHead.2.1 94 = .ok (.ifCond .ne 5, 3) := by decide +kernel
theorem d_Rd_readsHead_97 : decode m_Rd_readsHead.2.1 97 = .ok (.iconst 0, 1) := by decide +kernel
theorem d_Rd_readsHead_98 : decode m_Rd_readsHead.2.1 98 = .ok (.ireturn, 1) := by decide +kernel
theorem d_Rd_readsHead_99 : decode m_Rd_readsHead.2.1 99 = .ok (.aload_n 2, 1) := by decide +kernel
theorem d_Rd_readsHead_100 : decode m_Rd_readsHead.2.1 100 = .ok (.aload_n 0, 1) := by decide +kernel
theorem d_Rd_readsHead_101 : decode m_Rd_readsHead.2.1 101 = .ok (.getfield 27, 3) := by decide +kernel
theorem d_Rd_readsHead_104 : decode m_Rd_readsHead.2.1 104 = .ok (.putfield 89, 3) := by decide +kernel
theorem d_Rd_readsHead_107 : decode m_Rd_readsHead.2.1 107 = .ok (.aload_n 0, 1) := by decide +kernel
theorem d_Rd_readsHead_108 : decode m_Rd_readsHead.2.1 108 = .ok (.aload_n 1, 1) := by decide +kernel
theorem d_Rd_readsHead_109 : decode m_Rd_readsHead.2.1 109 = .ok (.iconst 1, 1) := by decide +kernel
theorem d_Rd_readsHead_110 : decode m_Rd_readsHead.2.1 110 = .ok (.bipush 60, 2) := by decide +kernel
theorem d_Rd_readsHead_112 : decode m_Rd_readsHead.2.1 112 = .ok (.invokevirtual 19, 3) := by decide +kernel
theorem d_Rd_readsHead_115 : decode m_Rd_readsHead.2.1 115 = .ok (.ifCond .ne 5, 3) := by decide +kernel
theorem d_Rd_readsHead_118 : decode m_Rd_readsHead.2.1 118 = .ok (.iconst 0, 1) := by decide +kernel
theorem d_Rd_readsHead_119 : decode m_Rd_readsHead.2.1 119 = .ok (.ireturn, 1) := by decide +kernel
theorem d_Rd_readsHead_120 : decode m_Rd_readsHead.2.1 120 = .ok (.aload_n 2, 1) := by decide +kernel
theorem d_Rd_readsHead_121 : decode m_Rd_readsHead.2.1 121 = .ok (.aload_n 0, 1) := by decide +kernel
theorem d_Rd_readsHead_122 : decode m_Rd_readsHead.2.1 122 = .ok (.getfield 27, 3) := by decide +kernel
theorem d_Rd_readsHead_125 : decode m_Rd_readsHead.2.1 125 = .ok (.putfield 92, 3) := by decide +kernel
theorem d_Rd_readsHead_128 : decode m_Rd_readsHead.2.1 128 = .ok (.aload_n 2, 1) := by decide +kernel
theorem d_Rd_readsHead_129 : decode m_Rd_readsHead.2.1 129 = .ok (.aload_n 0, 1) := by decide +kernel
theorem d_Rd_readsHead_130 : decode m_Rd_readsHead.2.1 130 = .ok (.getfield 15, 3) := by decide +kernel
theorem d_Rd_readsHead_133 : decode m_Rd_readsHead.2.1 133 = .ok (.putfield 95, 3) := by decide +kernel
theorem d_Rd_readsHead_136 : decode m_Rd_readsHead.2.1 136 = .ok (.iconst 1, 1) := by decide +kernel
theorem d_Rd_readsHead_137 : decode m_Rd_readsHead.2.1 137 = .ok (.ireturn, 1) := by decide +kernel
theorem d_Rd_readsCode_0 : decode m_Rd_readsCode.2.1 0 = .ok (.iconst 0, 1) := by decide +kernel
theorem d_Rd_readsCode_1 : decode m_Rd_readsCode.2.1 1 = .ok (.istore_n 3, 1) := by decide +kernel
theorem d_Rd_readsCode_2 : decode m_Rd_readsCode.2.1 2 = .ok (.iload_n 3, 1) := by decide +kernel
theorem d_Rd_readsCode_3 : decode m_Rd_readsCode.2.1 3 = .ok (.bipush 60, 2) := by decide +kernel
theorem d_Rd_readsCode_5 : decode m_Rd_readsCode.2.1 5 = .ok (.if_icmp .ge 16, 3) := by decide +kernel
theorem d_Rd_readsCode_8 : decode m_Rd_readsCode.2.1 8 = .ok (.aload_n 0, 1) := by decide +kernel
theorem d_Rd_readsCode_9 : decode m_Rd_readsCode.2.1 9 = .ok (.getfield 9, 3) := by decide +kernel
theorem d_Rd_readsCode_12 : decode m_Rd_readsCode.2.1 12 = .ok (.iload_n 3, 1) := by decide +kernel
theorem d_Rd_readsCode_13 : decode m_Rd_readsCode.2.1 13 = .ok (.iconst 0, 1) := by decide +kernel
theorem d_Rd_readsCode_14 : decode m_Rd_readsCode.2.1 14 = .ok (.bastore, 1) := by decide +kernel
theorem d_Rd_readsCode_15 : decode m_Rd_readsCode.2.1 15 = .ok (.iinc 3 1, 3) := by decide +kernel
theorem d_Rd_readsCode_18 : decode m_Rd_readsCode.2.1 18 = .ok (.goto (-16), 3) := by decide +kernel
theorem d_Rd_readsCode_21 : decode m_Rd_readsCode.2.1 21 = .ok (.aload_n 2, 1) := by decide +kernel
theorem d_Rd_readsCode_22 : decode m_Rd_readsCode.2.1 22 = .ok (.getfield 95, 3) := by decide +kernel
theorem d_Rd_readsCode_25 : decode m_Rd_readsCode.2.1 25 = .ok (.aload_n 2, 1) := by decide +kernel
theorem d_Rd_readsCode_26 : decode m_Rd_readsCode.2.1 26 = .ok (.getfield 92, 3) := by decide +kernel
theorem d_Rd_readsCode_29 : decode m_Rd_readsCode.2.1 29 = .ok (.iadd, 1) := by decide +kernel
theorem d_Rd_readsCode_30 : decode m_Rd_readsCode.2.1 30 = .ok (.istore_n 3, 1) := by decide +kernel
theorem d_Rd_readsCode_31 : decode m_Rd_readsCode.2.1 31 = .ok (.iconst 0, 1) := by decide +kernel
theorem d_Rd_readsCode_32 : decode m_Rd_readsCode.2.1 32 = .ok (.istore 4, 2) := by decide +kernel
theorem d_Rd_readsCode_34 : decode m_Rd_readsCode.2.1 34 = .ok (.iload 4, 2) := by decide +kernel
theorem d_Rd_readsCode_36 : decode m_Rd_readsCode.2.1 36 = .ok (.bipush 60, 2) := by decide +kernel
theorem d_Rd_readsCode_38 : decode m_Rd_readsCode.2.1 38 = .ok (.if_icmp .ge 44, 3) := by decide +kernel
theorem d_Rd_readsCode_41 : decode m_Rd_readsCode.2.1 41 = .ok (.aload_n 0, 1) := by decide +kernel
theorem d_Rd_readsCode_42 : decode m_Rd_readsCode.2.1 42 = .ok (.getfield 15, 3) := by decide +kernel
theorem d_Rd_readsCode_45 : decode m_Rd_readsCode.2.1 45 = .ok (.iload_n 3, 1) := by decide +kernel
theorem d_Rd_readsCode_46 : decode m_Rd_readsCode.2.1 46 = .ok (.if_icmp .ge 36, 3) := by decide +kernel
theorem d_Rd_readsCode_49 : decode m_Rd_readsCode.2.1 49 = .ok (.aload_n 0, 1) := by decide +kernel
theorem d_Rd_readsCode_50 : decode m_Rd_readsCode.2.1 50 = .ok (.getfield 9, 3) := by decide +kernel
theorem d_Rd_readsCode_53 : decode m_Rd_readsCode.2.1 53 = .ok (.aload_n 0, 1) := by decide +kernel
theorem d_Rd_readsCode_54 : decode m_Rd_readsCode.2.1 54 = .ok (.getfield 15, 3) := by decide +kernel
theorem d_Rd_readsCode_57 : decode m_Rd_readsCode.2.1 57 = .ok (.aload_n 2, 1) := by decide +kernel
theorem d_Rd_readsCode_58 : decode m_Rd_readsCode.2.1 58 = .ok (.getfield 95, 3) := by decide +kernel
theorem d_Rd_readsCode_61 : decode m_Rd_readsCode.2.1 61 = .ok (.isub, 1) := by decide +kernel
theorem d_Rd_readsCode_62 : decode m_Rd_readsCode.2.1 62 = .ok (.iconst 1, 1) := by decide +kernel
theorem d_Rd_readsCode_63 : decode m_Rd_readsCode.2.1 63 = .ok (.bastore, 1) := by decide +kernel
theorem d_Rd_readsCode_64 : decode m_Rd_readsCode.2.1 64 = .ok (.aload_n 0, 1) := by decide +kernel
theorem d_Rd_readsCode_65 : decode m_Rd_readsCode.2.1 65 = .ok (.aload_n 1, 1) := by decide +kernel
theorem d_Rd_readsCode_66 : decode m_Rd_readsCode.2.1 66 = .ok (.aload_n 2, 1) := by decide +kernel
theorem d_Rd_readsCode_67 : decode m_Rd_readsCode.2.1 67 = .ok (.iload_n 3, 1) := by decide +kernel
theorem d_Rd_readsCode_68 : decode m_Rd_readsCode.2.1 68 = .ok (.invokevirtual 98, 3) := by decide +kernel
theorem d_Rd_readsCode_71 : decode m_Rd_readsCode.2.1 71 = .ok (.ifCond .ne 5, 3) := by decide +kernel
theorem d_Rd_readsCode_74 : decode m_Rd_readsCode.2.1 74 = .ok (.iconst 0, 1) := by decide +kernel
theorem d_Rd_readsCode_75 : decode m_Rd_readsCode.2.1 75 = .ok (.ireturn, 1) := by decide +kernel
theorem d_Rd_readsCode_76 : decode m_Rd_readsCode.2.1 76 = .ok (.iinc 4 1, 3) := by decide +kernel
theorem d_Rd_readsCode_79 : decode m_Rd_readsCode.2.1 79 = .ok (.goto (-45), 3) := by decide +kernel
theorem d_Rd_readsCode_82 : decode m_Rd_readsCode.2.1 82 = .ok (.iconst 1, 1) := by decide +kernel
theorem d_Rd_readsCode_83 : decode m_Rd_readsCode.2.1 83 = .ok (.ireturn, 1) := by decide +kernel
theorem d_Rd_readsInstruction_0 : decode m_Rd_readsInstruction.2.1 0 = .ok (.aload_n 0, 1) := by decide +kernel
theorem d_Rd_readsInstruction_1 : decode m_Rd_readsInstruction.2.1 1 = .ok (.getfield 15, 3) := by decide +kernel
theorem d_Rd_readsInstruction_4 : decode m_Rd_readsInstruction.2.1 4 = .ok (.aload_n 1, 1) := by decide +kernel
theorem d_Rd_readsInstruction_5 : decode m_Rd_readsInstruction.2.1 5 = .ok (.getfield 43, 3) := by decide +kernel
theorem d_Rd_readsInstruction_8 : decode m_Rd_readsInstruction.2.1 8 = .ok (.if_icmp .ge 18, 3) := by decide +kernel
theorem d_Rd_readsInstruction_11 : decode m_Rd_readsInstruction.2.1 11 = .ok (.aload_n 1, 1) := by decide +kernel
theorem d_Rd_readsInstruction_12 : decode m_Rd_readsInstruction.2.1 12 = .ok (.getfield 46, 3) := by decide +kernel
theorem d_Rd_readsInstruction_15 : decode m_Rd_readsInstruction.2.1 15 = .ok (.aload_n 0, 1) := by decide +kernel
theorem d_Rd_readsInstruction_16 : decode m_Rd_readsInstruction.2.1 16 = .ok (.getfield 15, 3) := by decide +kernel
theorem d_Rd_readsInstruction_19 : decode m_Rd_readsInstruction.2.1 19 = .ok (.iaload, 1) := by decide +kernel
theorem d_Rd_readsInstruction_20 : decode m_Rd_readsInstruction.2.1 20 = .ok (.invokestatic 102, 3) := by decide +kernel
theorem d_Rd_readsInstruction_23 : decode m_Rd_readsInstruction.2.1 23 = .ok (.ifCond .ne 5, 3) := by decide +kernel
theorem d_Rd_readsInstruction_26 : decode m_Rd_readsInstruction.2.1 26 = .ok (.iconst 0, 1) := by decide +kernel
theorem d_Rd_readsInstruction_27 : decode m_Rd_readsInstruction.2.1 27 = .ok (.ireturn, 1) := by decide +kernel
theorem d_Rd_readsInstruction_28 : decode m_Rd_readsInstruction.2.1 28 = .ok (.aload_n 1, 1) := by decide +kernel
theorem d_Rd_readsInstruction_29 : decode m_Rd_readsInstruction.2.1 29 = .ok (.getfield 46, 3) := by decide +kernel
theorem d_Rd_readsInstruction_32 : decode m_Rd_readsInstruction.2.1 32 = .ok (.aload_n 0, 1) := by decide +kernel
theorem d_Rd_readsInstruction_33 : decode m_Rd_readsInstruction.2.1 33 = .ok (.getfield 15, 3) := by decide +kernel
theorem d_Rd_readsInstruction_36 : decode m_Rd_readsInstruction.2.1 36 = .ok (.iaload, 1) := by decide +kernel
theorem d_Rd_readsInstruction_37 : decode m_Rd_readsInstruction.2.1 37 = .ok (.istore 4, 2) := by decide +kernel
theorem d_Rd_readsInstruction_39 : decode m_Rd_readsInstruction.2.1 39 = .ok (.aload_n 0, 1) := by decide +kernel
theorem d_Rd_readsInstruction_40 : decode m_Rd_readsInstruction.2.1 40 = .ok (.dup, 1) := by decide +kernel
theorem d_Rd_readsInstruction_41 : decode m_Rd_readsInstruction.2.1 41 = .ok (.getfield 15, 3) := by decide +kernel
theorem d_Rd_readsInstruction_44 : decode m_Rd_readsInstruction.2.1 44 = .ok (.iconst 1, 1) := by decide +kernel
theorem d_Rd_readsInstruction_45 : decode m_Rd_readsInstruction.2.1 45 = .ok (.iadd, 1) := by decide +kernel
theorem d_Rd_readsInstruction_46 : decode m_Rd_readsInstruction.2.1 46 = .ok (.putfield 15, 3) := by decide +kernel
theorem d_Rd_readsInstruction_49 : decode m_Rd_readsInstruction.2.1 49 = .ok (.iconst 1, 1) := by decide +kernel
theorem d_Rd_readsInstruction_50 : decode m_Rd_readsInstruction.2.1 50 = .ok (.istore 5, 2) := by decide +kernel
theorem d_Rd_readsInstruction_52 : decode m_Rd_readsInstruction.2.1 52 = .ok (.iload 5, 2) := by decide +kernel
theorem d_Rd_readsInstruction_54 : decode m_Rd_readsInstruction.2.1 54 = .ok (.iload 4, 2) := by decide +kernel
theorem d_Rd_readsInstruction_56 : decode m_Rd_readsInstruction.2.1 56 = .ok (.invokestatic 102, 3) := by decide +kernel
theorem d_Rd_readsInstruction_59 : decode m_Rd_readsInstruction.2.1 59 = .ok (.if_icmp .ge 38, 3) := by decide +kernel
theorem d_Rd_readsInstruction_62 : decode m_Rd_readsInstruction.2.1 62 = .ok (.aload_n 0, 1) := by decide +kernel
theorem d_Rd_readsInstruction_63 : decode m_Rd_readsInstruction.2.1 63 = .ok (.getfield 15, 3) := by decide +kernel
theorem d_Rd_readsInstruction_66 : decode m_Rd_readsInstruction.2.1 66 = .ok (.iload_n 3, 1) := by decide +kernel
theorem d_Rd_readsInstruction_67 : decode m_Rd_readsInstruction.2.1 67 = .ok (.if_icmp .ge 22, 3) := by decide +kernel
theorem d_Rd_readsInstruction_70 : decode m_Rd_readsInstruction.2.1 70 = .ok (.aload_n 0, 1) := by decide +kernel
theorem d_Rd_readsInstruction_71 : decode m_Rd_readsInstruction.2.1 71 = .ok (.aload_n 1, 1) := by decide +kernel
theorem d_Rd_readsInstruction_72 : decode m_Rd_readsInstruction.2.1 72 = .ok (.iconst 0, 1) := by decide +kernel
theorem d_Rd_readsInstruction_73 : decode m_Rd_readsInstruction.2.1 73 = .ok (.aload_n 0, 1) := by decide +kernel
theorem d_Rd_readsInstruction_74 : decode m_Rd_readsInstruction.2.1 74 = .ok (.aload_n 1, 1) := by decide +kernel
theorem d_Rd_readsInstruction_75 : decode m_Rd_readsInstruction.2.1 75 = .ok (.aload_n 2, 1) := by decide +kernel
theorem d_Rd_readsInstruction_76 : decode m_Rd_readsInstruction.2.1 76 = .ok (.iload 4, 2) := by decide +kernel
theorem d_Rd_readsInstruction_78 : decode m_Rd_readsInstruction.2.1 78 = .ok (.iload 5, 2) := by decide +kernel
theorem d_Rd_readsInstruction_80 : decode m_Rd_readsInstruction.2.1 80 = .ok (.invokevirtual 108, 3) := by decide +kernel
theorem d_Rd_readsInstruction_83 : decode m_Rd_readsInstruction.2.1 83 = .ok (.invokevirtual 19, 3) := by decide +kernel
theorem d_Rd_readsInstruction_86 : decode m_Rd_readsInstruction.2.1 86 = .ok (.ifCond .ne 5, 3) := by decide +kernel
theorem d_Rd_readsInstruction_89 : decode m_Rd_readsInstruction.2.1 89 = .ok (.iconst 0, 1) := by decide +kernel
theorem d_Rd_readsInstruction_90 : decode m_Rd_readsInstruction.2.1 90 = .ok (.ireturn, 1) := by decide +kernel
theorem d_Rd_readsInstruction_91 : decode m_Rd_readsInstruction.2.1 91 = .ok (.iinc 5 1, 3) := by decide +kernel
theorem d_Rd_readsInstruction_94 : decode m_Rd_readsInstruction.2.1 94 = .ok (.goto (-42), 3) := by decide +kernel
theorem d_Rd_readsInstruction_97 : decode m_Rd_readsInstruction.2.1 97 = .ok (.iconst 1, 1) := by decide +kernel
theorem d_Rd_readsInstruction_98 : decode m_Rd_readsInstruction.2.1 98 = .ok (.ireturn, 1) := by decide +kernel
theorem d_Rd_highestOperand_0 : decode m_Rd_highestOperand.2.1 0 = .ok (.iload 4, 2) := by decide +kernel
theorem d_Rd_highestOperand_2 : decode m_Rd_highestOperand.2.1 2 = .ok (.iconst 1, 1) := by decide +kernel
theorem d_Rd_highestOperand_3 : decode m_Rd_highestOperand.2.1 3 = .ok (.if_icmp .ne 17, 3) := by decide +kernel
theorem d_Rd_highestOperand_6 : decode m_Rd_highestOperand.2.1 6 = .ok (.iload_n 3, 1) := by decide +kernel
theorem d_Rd_highestOperand_7 : decode m_Rd_highestOperand.2.1 7 = .ok (.invokestatic 112, 3) := by decide +kernel
theorem d_Rd_highestOperand_10 : decode m_Rd_highestOperand.2.1 10 = .ok (.ifCond .eq 10, 3) := by decide +kernel
theorem d_Rd_highestOperand_13 : decode m_Rd_highestOperand.2.1 13 = .ok (.aload_n 2, 1) := by decide +kernel
theorem d_Rd_highestOperand_14 : decode m_Rd_highestOperand.2.1 14 = .ok (.getfield 89, 3) := by decide +kernel
theorem d_Rd_highestOperand_17 : decode m_Rd_highestOperand.2.1 17 = .ok (.iconst 1, 1) := by decide +kernel
theorem d_Rd_highestOperand_18 : decode m_Rd_highestOperand.2.1 18 = .ok (.isub, 1) := by decide +kernel
theorem d_Rd_highestOperand_19 : decode m_Rd_highestOperand.2.1 19 = .ok (.ireturn, 1) := by decide +kernel
theorem d_Rd_highestOperand_20 : decode m_Rd_highestOperand.2.1 20 = .ok (.iload_n 3, 1) := by decide +kernel
theorem d_Rd_highestOperand_21 : decode m_Rd_highestOperand.2.1 21 = .ok (.bipush 18, 2) := by decide +kernel
theorem d_Rd_highestOperand_23 : decode m_Rd_highestOperand.2.1 23 = .ok (.if_icmp .ne 10, 3) := by decide +kernel
theorem d_Rd_highestOperand_26 : decode m_Rd_highestOperand.2.1 26 = .ok (.aload_n 1, 1) := by decide +kernel
theorem d_Rd_highestOperand_27 : decode m_Rd_highestOperand.2.1 27 = .ok (.getfield 50, 3) := by decide +kernel
theorem d_Rd_highestOperand_30 : decode m_Rd_highestOperand.2.1 30 = .ok (.iconst 1, 1) := by decide +kernel
theorem d_Rd_highestOperand_31 : decode m_Rd_highestOperand.2.1 31 = .ok (.isub, 1) := by decide +kernel
theorem d_Rd_highestOperand_32 : decode m_Rd_highestOperand.2.1 32 = .ok (.ireturn, 1) := by decide +kernel
theorem d_Rd_highestOperand_33 : decode m_Rd_highestOperand.2.1 33 = .ok (.iload_n 3, 1) := by decide +kernel
theorem d_Rd_highestOperand_34 : decode m_Rd_highestOperand.2.1 34 = .ok (.sipush 184, 3) := by decide +kernel
theorem d_Rd_highestOperand_37 : decode m_Rd_highestOperand.2.1 37 = .ok (.if_icmp .ne 12, 3) := by decide +kernel
theorem d_Rd_highestOperand_40 : decode m_Rd_highestOperand.2.1 40 = .ok (.aload_n 1, 1) := by decide +kernel
theorem d_Rd_highestOperand_41 : decode m_Rd_highestOperand.2.1 41 = .ok (.getfield 30, 3) := by decide +kernel
theorem d_Rd_highestOperand_44 : decode m_Rd_highestOperand.2.1 44 = .ok (.iconst 1, 1) := by decide +kernel
theorem d_Rd_highestOperand_45 : decode m_Rd_highestOperand.2.1 45 = .ok (.isub, 1) := by decide +kernel
theorem d_Rd_highestOperand_46 : decode m_Rd_highestOperand.2.1 46 = .ok (.goto 6, 3) := by decide +kernel
theorem d_Rd_highestOperand_49 : decode m_Rd_highestOperand.2.1 49 = .ok (.sipush 255, 3) := by decide +kernel
theorem d_Rd_highestOperand_52 : decode m_Rd_highestOperand.2.1 52 = .ok (.ireturn, 1) := by decide +kernel
theorem d_Rd_readsFrames_0 : decode m_Rd_readsFrames.2.1 0 = .ok (.aload_n 0, 1) := by decide +kernel
theorem d_Rd_readsFrames_1 : decode m_Rd_readsFrames.2.1 1 = .ok (.aload_n 1, 1) := by decide +kernel
theorem d_Rd_readsFrames_2 : decode m_Rd_readsFrames.2.1 2 = .ok (.iconst 0, 1) := by decide +kernel
theorem d_Rd_readsFrames_3 : decode m_Rd_readsFrames.2.1 3 = .ok (.bipush 8, 2) := by decide +kernel
theorem d_Rd_readsFrames_5 : decode m_Rd_readsFrames.2.1 5 = .ok (.invokevirtual 19, 3) := by decide +kernel
theorem d_Rd_readsFrames_8 : decode m_Rd_readsFrames.2.1 8 = .ok (.ifCond .ne 5, 3) := by decide +kernel
theorem d_Rd_readsFrames_11 : decode m_Rd_readsFrames.2.1 11 = .ok (.iconst 0, 1) := by decide +kernel
theorem d_Rd_readsFrames_12 : decode m_Rd_readsFrames.2.1 12 = .ok (.ireturn, 1) := by decide +kernel
theorem d_Rd_readsFrames_13 : decode m_Rd_readsFrames.2.1 13 = .ok (.aload_n 2, 1) := by decide +kernel
theorem d_Rd_readsFrames_14 : decode m_Rd_readsFrames.2.1 14 = .ok (.aload_n 0, 1) := by decide +kernel
theorem d_Rd_readsFrames_15 : decode m_Rd_readsFrames.2.1 15 = .ok (.getfield 27, 3) := by decide +kernel
theorem d_Rd_readsFrames_18 : decode m_Rd_readsFrames.2.1 18 = .ok (.putfield 116, 3) := by decide +kernel
theorem d_Rd_readsFrames_21 : decode m_Rd_readsFrames.2.1 21 = .ok (.iconst 0, 1) := by decide +kernel
theorem d_Rd_readsFrames_22 : decode m_Rd_readsFrames.2.1 22 = .ok (.istore_n 3, 1) := by decide +kernel
theorem d_Rd_readsFrames_23 : decode m_Rd_readsFrames.2.1 23 = .ok (.iconst 0, 1) := by decide +kernel
theorem d_Rd_readsFrames_24 : decode m_Rd_readsFrames.2.1 24 = .ok (.istore 4, 2) := by decide +kernel
theorem d_Rd_readsFrames_26 : decode m_Rd_readsFrames.2.1 26 = .ok (.iload 4, 2) := by decide +kernel
theorem d_Rd_readsFrames_28 : decode m_Rd_readsFrames.2.1 28 = .ok (.aload_n 2, 1) := by decide +kernel
theorem d_Rd_readsFrames_29 : decode m_Rd_readsFrames.2.1 29 = .ok (.getfield 116, 3) := by decide +kernel
theorem d_Rd_readsFrames_32 : decode m_Rd_readsFrames.2.1 32 = .ok (.if_icmp .ge 87, 3) := by decide +kernel
theorem d_Rd_readsFrames_35 : decode m_Rd_readsFrames.2.1 35 = .ok (.aload_n 2, 1) := by decide +kernel
theorem d_Rd_readsFrames_36 : decode m_Rd_readsFrames.2.1 36 = .ok (.getfield 119, 3) := by decide +kernel
theorem d_Rd_readsFrames_39 : decode m_Rd_readsFrames.2.1 39 = .ok (.iload 4, 2) := by decide +kernel
theorem d_Rd_readsFrames_41 : decode m_Rd_readsFrames.2.1 41 = .ok (.aload_n 0, 1) := by decide +kernel
theorem d_Rd_readsFrames_42 : decode m_Rd_readsFrames.2.1 42 = .ok (.getfield 15, 3) := by decide +kernel
theorem d_Rd_readsFrames_45 : decode m_Rd_readsFrames.2.1 45 = .ok (.iastore, 1) := by decide +kernel
theorem d_Rd_readsFrames_46 : decode m_Rd_readsFrames.2.1 46 = .ok (.aload_n 0, 1) := by decide +kernel
theorem d_Rd_readsFrames_47 : decode m_Rd_readsFrames.2.1 47 = .ok (.aload_n 1, 1) := by decide +kernel
theorem d_Rd_readsFrames_48 : decode m_Rd_readsFrames.2.1 48 = .ok (.iload_n 3, 1) := by decide +kernel
theorem d_Rd_readsFrames_49 : decode m_Rd_readsFrames.2.1 49 = .ok (.aload_n 2, 1) := by decide +kernel
theorem d_Rd_readsFrames_50 : decode m_Rd_readsFrames.2.1 50 = .ok (.getfield 92, 3) := by decide +kernel
theorem d_Rd_readsFrames_53 : decode m_Rd_readsFrames.2.1 53 = .ok (.iconst 1, 1) := by decide +kernel
theorem d_Rd_readsFrames_54 : decode m_Rd_readsFrames.2.1 54 = .ok (.isub, 1) := by decide +kernel
theorem d_Rd_readsFrames_55 : decode m_Rd_readsFrames.2.1 55 = .ok (.invokevirtual 19, 3) := by decide +kernel
theorem d_Rd_readsFrames_58 : decode m_Rd_readsFrames.2.1 58 = .ok (.ifCond .ne 5, 3) := by decide +kernel
theorem d_Rd_readsFrames_61 : decode m_Rd_readsFrames.2.1 61 = .ok (.iconst 0, 1) := by decide +kernel
theorem d_Rd_readsFrames_62 : decode m_Rd_readsFrames.2.1 62 = .ok (.ireturn, 1) := by decide +kernel
theorem d_Rd_readsFrames_63 : decode m_Rd_readsFrames.2.1 63 = .ok (.aload_n 0, 1) := by decide +kernel
theorem d_Rd_readsFrames_64 : decode m_Rd_readsFrames.2.1 64 = .ok (.getfield 27, 3) := by decide +kernel
theorem d_Rd_readsFrames_67 : decode m_Rd_readsFrames.2.1 67 = .ok (.iconst 1, 1) := by decide +kernel
theorem d_Rd_readsFrames_68 : decode m_Rd_readsFrames.2.1 68 = .ok (.iadd, 1) := by decide +kernel
theorem d_Rd_readsFrames_69 : decode m_Rd_readsFrames.2.1 69 = .ok (.istore_n 3, 1) := by decide +kernel
theorem d_Rd_readsFrames_70 : decode m_Rd_readsFrames.2.1 70 = .ok (.aload_n 0, 1) := by decide +kernel
theorem d_Rd_readsFrames_71 : decode m_Rd_readsFrames.2.1 71 = .ok (.aload_n 1, 1) := by decide +kernel
theorem d_Rd_readsFrames_72 : decode m_Rd_readsFrames.2.1 72 = .ok (.aload_n 2, 1) := by decide +kernel
theorem d_Rd_readsFrames_73 : decode m_Rd_readsFrames.2.1 73 = .ok (.getfield 89, 3) := by decide +kernel
theorem d_Rd_readsFrames_76 : decode m_Rd_readsFrames.2.1 76 = .ok (.iconst 0, 1) := by decide +kernel
theorem d_Rd_readsFrames_77 : decode m_Rd_readsFrames.2.1 77 = .ok (.iconst 3, 1) := by decide +kernel
theorem d_Rd_readsFrames_78 : decode m_Rd_readsFrames.2.1 78 = .ok (.invokevirtual 56, 3) := by decide +kernel
theorem d_Rd_readsFrames_81 : decode m_Rd_readsFrames.2.1 81 = .ok (.ifCond .eq 30, 3) := by decide +kernel
theorem d_Rd_readsFrames_84 : decode m_Rd_readsFrames.2.1 84 = .ok (.aload_n 0, 1) := by decide +kernel
theorem d_Rd_readsFrames_85 : decode m_Rd_readsFrames.2.1 85 = .ok (.aload_n 1, 1) := by decide +kernel
theorem d_Rd_readsFrames_86 : decode m_Rd_readsFrames.2.1 86 = .ok (.iconst 0, 1) := by decide +kernel
theorem d_Rd_readsFrames_87 : decode m_Rd_readsFrames.2.1 87 = .ok (.aload_n 2, 1) := by decide +kernel
theorem d_Rd_readsFrames_88 : decode m_Rd_readsFrames.2.1 88 = .ok (.getfield 86, 3) := by decide +kernel
theorem d_Rd_readsFrames_91 : decode m_Rd_readsFrames.2.1 91 = .ok (.invokevirtual 19, 3) := by decide +kernel
theorem d_Rd_readsFrames_94 : decode m_Rd_readsFrames.2.1 94 = .ok (.ifCond .eq 17, 3) := by decide +kernel
theorem d_Rd_readsFrames_97 : decode m_Rd_readsFrames.2.1 97 = .ok (.aload_n 0, 1) := by decide +kernel
theorem d_Rd_readsFrames_98 : decode m_Rd_readsFrames.2.1 98 = .ok (.aload_n 1, 1) := by decide +kernel
theorem d_Rd_readsFrames_99 : decode m_Rd_readsFrames.2.1 99 = .ok (.aload_n 0, 1) := by decide +kernel
theorem d_Rd_readsFrames_100 : decode m_Rd_readsFrames.2.1 100 = .ok (.getfield 27, 3) := by decide +kernel
theorem d_Rd_readsFrames_103 : decode m_Rd_readsFrames.2.1 103 = .ok (.iconst 1, 1) := by decide +kernel
theorem d_Rd_readsFrames_104 : decode m_Rd_readsFrames.2.1 104 = .ok (.iconst 3, 1) := by decide +kernel
theorem d_Rd_readsFrames_105 : decode m_Rd_readsFrames.2.1 105 = .ok (.invokevirtual 56, 3) := by decide +kernel
theorem d_Rd_readsFrames_108 : decode m_Rd_readsFrames.2.1 108 = .ok (.ifCond .ne 5, 3) := by decide +kernel
theorem d_Rd_readsFrames_111 : decode m_Rd_readsFrames.2.1 111 = .ok (.iconst 0, 1) := by decide +kernel
theorem d_Rd_readsFrames_112 : decode m_Rd_readsFrames.2.1 112 = .ok (.ireturn, 1) := by decide +kernel
theorem d_Rd_readsFrames_113 : decode m_Rd_readsFrames.2.1 113 = .ok (.iinc 4 1, 3) := by decide +kernel
theorem d_Rd_readsFrames_116 : decode m_Rd_readsFrames.2.1 116 = .ok (.goto (-90), 3) := by decide +kernel
theorem d_Rd_readsFrames_119 : decode m_Rd_readsFrames.2.1 119 = .ok (.iconst 1, 1) := by decide +kernel
theorem d_Rd_readsFrames_120 : decode m_Rd_readsFrames.2.1 120 = .ok (.ireturn, 1) := by decide +kernel
theorem d_Rd_targetsBegin_0 : decode m_Rd_targetsBegin.2.1 0 = .ok (.iconst 0, 1) := by decide +kernel
theorem d_Rd_targetsBegin_1 : decode m_Rd_targetsBegin.2.1 1 = .ok (.istore_n 3, 1) := by decide +kernel
theorem d_Rd_targetsBegin_2 : decode m_Rd_targetsBegin.2.1 2 = .ok (.iload_n 3, 1) := by decide +kernel
theorem d_Rd_targetsBegin_3 : decode m_Rd_targetsBegin.2.1 3 = .ok (.aload_n 2, 1) := by decide +kernel
theorem d_Rd_targetsBegin_4 : decode m_Rd_targetsBegin.2.1 4 = .ok (.getfield 92, 3) := by decide +kernel
theorem d_Rd_targetsBegin_7 : decode m_Rd_targetsBegin.2.1 7 = .ok (.if_icmp .ge 46, 3) := by decide +kernel
theorem d_Rd_targetsBegin_10 : decode m_Rd_targetsBegin.2.1 10 = .ok (.aload_n 0, 1) := by decide +kernel
theorem d_Rd_targetsBegin_11 : decode m_Rd_targetsBegin.2.1 11 = .ok (.getfield 9, 3) := by decide +kernel
theorem d_Rd_targetsBegin_14 : decode m_Rd_targetsBegin.2.1 14 = .ok (.iload_n 3, 1) := by decide +kernel
theorem d_Rd_targetsBegin_15 : decode m_Rd_targetsBegin.2.1 15 = .ok (.baload, 1) := by decide +kernel
theorem d_Rd_targetsBegin_16 : decode m_Rd_targetsBegin.2.1 16 = .ok (.ifCond .eq 31, 3) := by decide +kernel
theorem d_Rd_targetsBegin_19 : decode m_Rd_targetsBegin.2.1 19 = .ok (.aload_n 1, 1) := by decide +kernel
theorem d_Rd_targetsBegin_20 : decode m_Rd_targetsBegin.2.1 20 = .ok (.aload_n 2, 1) := by decide +kernel
theorem d_Rd_targetsBegin_21 : decode m_Rd_targetsBegin.2.1 21 = .ok (.iload_n 3, 1) := by decide +kernel
theorem d_Rd_targetsBegin_22 : decode m_Rd_targetsBegin.2.1 22 = .ok (.invokevirtual 122, 3) := by decide +kernel
theorem d_Rd_targetsBegin_25 : decode m_Rd_targetsBegin.2.1 25 = .ok (.invokestatic 126, 3) := by decide +kernel
theorem d_Rd_targetsBegin_28 : decode m_Rd_targetsBegin.2.1 28 = .ok (.ifCond .eq 19, 3) := by decide +kernel
theorem d_Rd_targetsBegin_31 : decode m_Rd_targetsBegin.2.1 31 = .ok (.aload_n 0, 1) := by decide +kernel
theorem d_Rd_targetsBegin_32 : decode m_Rd_targetsBegin.2.1 32 = .ok (.aload_n 2, 1) := by decide +kernel
theorem d_Rd_targetsBegin_33 : decode m_Rd_targetsBegin.2.1 33 = .ok (.aload_n 1, 1) := by decide +kernel
theorem d_Rd_targetsBegin_34 : decode m_Rd_targetsBegin.2.1 34 = .ok (.aload_n 2, 1) := by decide +kernel
theorem d_Rd_targetsBegin_35 : decode m_Rd_targetsBegin.2.1 35 = .ok (.iload_n 3, 1) := by decide +kernel
theorem d_Rd_targetsBegin_36 : decode m_Rd_targetsBegin.2.1 36 = .ok (.invokevirtual 129, 3) := by decide +kernel
theorem d_Rd_targetsBegin_39 : decode m_Rd_targetsBegin.2.1 39 = .ok (.invokevirtual 132, 3) := by decide +kernel
theorem d_Rd_targetsBegin_42 : decode m_Rd_targetsBegin.2.1 42 = .ok (.ifCond .ne 5, 3) := by decide +kernel
theorem d_Rd_targetsBegin_45 : decode m_Rd_targetsBegin.2.1 45 = .ok (.iconst 0, 1) := by decide +kernel
theorem d_Rd_targetsBegin_46 : decode m_Rd_targetsBegin.2.1 46 = .ok (.ireturn, 1) := by decide +kernel
theorem d_Rd_targetsBegin_47 : decode m_Rd_targetsBegin.2.1 47 = .ok (.iinc 3 1, 3) := by decide +kernel
theorem d_Rd_targetsBegin_50 : decode m_Rd_targetsBegin.2.1 50 = .ok (.goto (-48), 3) := by decide +kernel
theorem d_Rd_targetsBegin_53 : decode m_Rd_targetsBegin.2.1 53 = .ok (.iconst 1, 1) := by decide +kernel
theorem d_Rd_targetsBegin_54 : decode m_Rd_targetsBegin.2.1 54 = .ok (.ireturn, 1) := by decide +kernel
theorem d_Rd_framesBegin_0 : decode m_Rd_framesBegin.2.1 0 = .ok (.iconst 0, 1) := by decide +kernel
theorem d_Rd_framesBegin_1 : decode m_Rd_framesBegin.2.1 1 = .ok (.istore_n 3, 1) := by decide +kernel
theorem d_Rd_framesBegin_2 : decode m_Rd_framesBegin.2.1 2 = .ok (.iload_n 3, 1) := by decide +kernel
theorem d_Rd_framesBegin_3 : decode m_Rd_framesBegin.2.1 3 = .ok (.aload_n 2, 1) := by decide +kernel
theorem d_Rd_framesBegin_4 : decode m_Rd_framesBegin.2.1 4 = .ok (.getfield 116, 3) := by decide +kernel
theorem d_Rd_framesBegin_7 : decode m_Rd_framesBegin.2.1 7 = .ok (.if_icmp .ge 25, 3) := by decide +kernel
theorem d_Rd_framesBegin_10 : decode m_Rd_framesBegin.2.1 10 = .ok (.aload_n 0, 1) := by decide +kernel
theorem d_Rd_framesBegin_11 : decode m_Rd_framesBegin.2.1 11 = .ok (.aload_n 2, 1) := by decide +kernel
theorem d_Rd_framesBegin_12 : decode m_Rd_framesBegin.2.1 12 = .ok (.aload_n 1, 1) := by decide +kernel
theorem d_Rd_framesBegin_13 : decode m_Rd_framesBegin.2.1 13 = .ok (.aload_n 2, 1) := by decide +kernel
theorem d_Rd_framesBegin_14 : decode m_Rd_framesBegin.2.1 14 = .ok (.iload_n 3, 1) := by decide +kernel
theorem d_Rd_framesBegin_15 : decode m_Rd_framesBegin.2.1 15 = .ok (.invokevirtual 136, 3) := by decide +kernel
theorem d_Rd_framesBegin_18 : decode m_Rd_framesBegin.2.1 18 = .ok (.invokevirtual 132, 3) := by decide +kernel
theorem d_Rd_framesBegin_21 : decode m_Rd_framesBegin.2.1 21 = .ok (.ifCond .ne 5, 3) := by decide +kernel
theorem d_Rd_framesBegin_24 : decode m_Rd_framesBegin.2.1 24 = .ok (.iconst 0, 1) := by decide +kernel
theorem d_Rd_framesBegin_25 : decode m_Rd_framesBegin.2.1 25 = .ok (.ireturn, 1) := by decide +kernel
theorem d_Rd_framesBegin_26 : decode m_Rd_framesBegin.2.1 26 = .ok (.iinc 3 1, 3) := by decide +kernel
theorem d_Rd_framesBegin_29 : decode m_Rd_framesBegin.2.1 29 = .ok (.goto (-27), 3) := by decide +kernel
theorem d_Rd_framesBegin_32 : decode m_Rd_framesBegin.2.1 32 = .ok (.iconst 1, 1) := by decide +kernel
theorem d_Rd_framesBegin_33 : decode m_Rd_framesBegin.2.1 33 = .ok (.ireturn, 1) := by decide +kernel
theorem d_Rd_beginsAt_0 : decode m_Rd_beginsAt.2.1 0 = .ok (.iload_n 2, 1) := by decide +kernel
theorem d_Rd_beginsAt_1 : decode m_Rd_beginsAt.2.1 1 = .ok (.ifCond .lt 24, 3) := by decide +kernel
theorem d_Rd_beginsAt_4 : decode m_Rd_beginsAt.2.1 4 = .ok (.iload_n 2, 1) := by decide +kernel
theorem d_Rd_beginsAt_5 : decode m_Rd_beginsAt.2.1 5 = .ok (.aload_n 1, 1) := by decide +kernel
theorem d_Rd_beginsAt_6 : decode m_Rd_beginsAt.2.1 6 = .ok (.getfield 92, 3) := by decide +kernel
theorem d_Rd_beginsAt_9 : decode m_Rd_beginsAt.2.1 9 = .ok (.if_icmp .ge 16, 3) := by decide +kernel
theorem d_Rd_beginsAt_12 : decode m_Rd_beginsAt.2.1 12 = .ok (.aload_n 0, 1) := by decide +kernel
theorem d_Rd_beginsAt_13 : decode m_Rd_beginsAt.2.1 13 = .ok (.getfield 9, 3) := by decide +kernel
theorem d_Rd_beginsAt_16 : decode m_Rd_beginsAt.2.1 16 = .ok (.iload_n 2, 1) := by decide +kernel
theorem d_Rd_beginsAt_17 : decode m_Rd_beginsAt.2.1 17 = .ok (.baload, 1) := by decide +kernel
theorem d_Rd_beginsAt_18 : decode m_Rd_beginsAt.2.1 18 = .ok (.ifCond .eq 7, 3) := by decide +kernel
theorem d_Rd_beginsAt_21 : decode m_Rd_beginsAt.2.1 21 = .ok (.iconst 1, 1) := by decide +kernel
theorem d_Rd_beginsAt_22 : decode m_Rd_beginsAt.2.1 22 = .ok (.goto 4, 3) := by decide +kernel
theorem d_Rd_beginsAt_25 : decode m_Rd_beginsAt.2.1 25 = .ok (.iconst 0, 1) := by decide +kernel
theorem d_Rd_beginsAt_26 : decode m_Rd_beginsAt.2.1 26 = .ok (.ireturn, 1) := by decide +kernel
theorem d_St_makeEmpty_0 : decode m_St_makeEmpty.2.1 0 = .ok (.iconst 0, 1) := by decide +kernel
theorem d_St_makeEmpty_1 : decode m_St_makeEmpty.2.1 1 = .ok (.istore_n 1, 1) := by decide +kernel
theorem d_St_makeEmpty_2 : decode m_St_makeEmpty.2.1 2 = .ok (.iload_n 1, 1) := by decide +kernel
theorem d_St_makeEmpty_3 : decode m_St_makeEmpty.2.1 3 = .ok (.bipush 6, 2) := by decide +kernel
theorem d_St_makeEmpty_5 : decode m_St_makeEmpty.2.1 5 = .ok (.if_icmp .ge 16, 3) := by decide +kernel
theorem d_St_makeEmpty_8 : decode m_St_makeEmpty.2.1 8 = .ok (.aload_n 0, 1) := by decide +kernel
theorem d_St_makeEmpty_9 : decode m_St_makeEmpty.2.1 9 = .ok (.iload_n 1, 1) := by decide +kernel
theorem d_St_makeEmpty_10 : decode m_St_makeEmpty.2.1 10 = .ok (.iconst 0, 1) := by decide +kernel
theorem d_St_makeEmpty_11 : decode m_St_makeEmpty.2.1 11 = .ok (.iconst 0, 1) := by decide +kernel
theorem d_St_makeEmpty_12 : decode m_St_makeEmpty.2.1 12 = .ok (.invokevirtual 24, 3) := by decide +kernel
theorem d_St_makeEmpty_15 : decode m_St_makeEmpty.2.1 15 = .ok (.iinc 1 1, 3) := by decide +kernel
theorem d_St_makeEmpty_18 : decode m_St_makeEmpty.2.1 18 = .ok (.goto (-16), 3) := by decide +kernel
theorem d_St_makeEmpty_21 : decode m_St_makeEmpty.2.1 21 = .ok (.aload_n 0, 1) := by decide +kernel
theorem d_St_makeEmpty_22 : decode m_St_makeEmpty.2.1 22 = .ok (.iconst 0, 1) := by decide +kernel
theorem d_St_makeEmpty_23 : decode m_St_makeEmpty.2.1 23 = .ok (.putfield 28, 3) := by decide +kernel
theorem d_St_makeEmpty_26 : decode m_St_makeEmpty.2.1 26 = .ok (.return_, 1) := by decide +kernel
theorem d_St_setPlace_0 : decode m_St_setPlace.2.1 0 = .ok (.aload_n 0, 1) := by decide +kernel
theorem d_St_setPlace_1 : decode m_St_setPlace.2.1 1 = .ok (.getfield 9, 3) := by decide +kernel
theorem d_St_setPlace_4 : decode m_St_setPlace.2.1 4 = .ok (.iload_n 1, 1) := by decide +kernel
theorem d_St_setPlace_5 : decode m_St_setPlace.2.1 5 = .ok (.iload_n 2, 1) := by decide +kernel
theorem d_St_setPlace_6 : decode m_St_setPlace.2.1 6 = .ok (.iastore, 1) := by decide +kernel
theorem d_St_setPlace_7 : decode m_St_setPlace.2.1 7 = .ok (.aload_n 0, 1) := by decide +kernel
theorem d_St_setPlace_8 : decode m_St_setPlace.2.1 8 = .ok (.getfield 15, 3) := by decide +kernel
theorem d_St_setPlace_11 : decode m_St_setPlace.2.1 11 = .ok (.iload_n 1, 1) := by decide +kernel
theorem d_St_setPlace_12 : decode m_St_setPlace.2.1 12 = .ok (.iload_n 3, 1) := by decide +kernel
theorem d_St_setPlace_13 : decode m_St_setPlace.2.1 13 = .ok (.iastore, 1) := by decide +kernel
theorem d_St_setPlace_14 : decode m_St_setPlace.2.1 14 = .ok (.return_, 1) := by decide +kernel
theorem d_St_put_0 : decode m_St_put.2.1 0 = .ok (.aload_n 0, 1) := by decide +kernel
theorem d_St_put_1 : decode m_St_put.2.1 1 = .ok (.getfield 18, 3) := by decide +kernel
theorem d_St_put_4 : decode m_St_put.2.1 4 = .ok (.aload_n 0, 1) := by decide +kernel
theorem d_St_put_5 : decode m_St_put.2.1 5 = .ok (.getfield 28, 3) := by decide +kernel
theorem d_St_put_8 : decode m_St_put.2.1 8 = .ok (.iload_n 1, 1) := by decide +kernel
theorem d_St_put_9 : decode m_St_put.2.1 9 = .ok (.iastore, 1) := by decide +kernel
theorem d_St_put_10 : decode m_St_put.2.1 10 = .ok (.aload_n 0, 1) := by decide +kernel
theorem d_St_put_11 : decode m_St_put.2.1 11 = .ok (.getfield 21, 3) := by decide +kernel
theorem d_St_put_14 : decode m_St_put.2.1 14 = .ok (.aload_n 0, 1) := by decide +kernel
theorem d_St_put_15 : decode m_St_put.2.1 15 = .ok (.getfield 28, 3) := by decide +kernel
theorem d_St_put_18 : decode m_St_put.2.1 18 = .ok (.iload_n 2, 1) := by decide +kernel
theorem d_St_put_19 : decode m_St_put.2.1 19 = .ok (.iastore, 1) := by decide +kernel
theorem d_St_put_20 : decode m_St_put.2.1 20 = .ok (.aload_n 0, 1) := by decide +kernel
theorem d_St_put_21 : decode m_St_put.2.1 21 = .ok (.dup, 1) := by decide +kernel
theorem d_St_put_22 : decode m_St_put.2.1 22 = .ok (.getfield 28, 3) := by decide +kernel
theorem d_St_put_25 : decode m_St_put.2.1 25 = .ok (.iconst 1, 1) := by decide +kernel
theorem d_St_put_26 : decode m_St_put.2.1 26 = .ok (.iadd, 1) := by decide +kernel
theorem d_St_put_27 : decode m_St_put.2.1 27 = .ok (.putfield 28, 3) := by decide +kernel
theorem d_St_put_30 : decode m_St_put.2.1 30 = .ok (.return_, 1) := by decide +kernel
theorem d_St_take_0 : decode m_St_take.2.1 0 = .ok (.aload_n 0, 1) := by decide +kernel
theorem d_St_take_1 : decode m_St_take.2.1 1 = .ok (.dup, 1) := by decide +kernel
theorem d_St_take_2 : decode m_St_take.2.1 2 = .ok (.getfield 28, 3) := by decide +kernel
theorem d_St_take_5 : decode m_St_take.2.1 5 = .ok (.iconst 1, 1) := by decide +kernel
theorem d_St_take_6 : decode m_St_take.2.1 6 = .ok (.isub, 1) := by decide +kernel
theorem d_St_take_7 : decode m_St_take.2.1 7 = .ok (.putfield 28, 3) := by decide +kernel
theorem d_St_take_10 : decode m_St_take.2.1 10 = .ok (.aload_n 0, 1) := by decide +kernel
theorem d_St_take_11 : decode m_St_take.2.1 11 = .ok (.getfield 21, 3) := by decide +kernel
theorem d_St_take_14 : decode m_St_take.2.1 14 = .ok (.aload_n 0, 1) := by decide +kernel
theorem d_St_take_15 : decode m_St_take.2.1 15 = .ok (.getfield 28, 3) := by decide +kernel
theorem d_St_take_18 : decode m_St_take.2.1 18 = .ok (.iaload, 1) := by decide +kernel
theorem d_St_take_19 : decode m_St_take.2.1 19 = .ok (.ireturn, 1) := by decide +kernel
theorem d_St_kindTaken_0 : decode m_St_kindTaken.2.1 0 = .ok (.aload_n 0, 1) := by decide +kernel
theorem d_St_kindTaken_1 : decode m_St_kindTaken.2.1 1 = .ok (.getfield 18, 3) := by decide +kernel
theorem d_St_kindTaken_4 : decode m_St_kindTaken.2.1 4 = .ok (.aload_n 0, 1) := by decide +kernel
theorem d_St_kindTaken_5 : decode m_St_kindTaken.2.1 5 = .ok (.getfield 28, 3) := by decide +kernel
theorem d_St_kindTaken_8 : decode m_St_kindTaken.2.1 8 = .ok (.iaload, 1) := by decide +kernel
theorem d_St_kindTaken_9 : decode m_St_kindTaken.2.1 9 = .ok (.ireturn, 1) := by decide +kernel
theorem d_St_kindBelow_0 : decode m_St_kindBelow.2.1 0 = .ok (.aload_n 0, 1) := by decide +kernel
theorem d_St_kindBelow_1 : decode m_St_kindBelow.2.1 1 = .ok (.getfield 18, 3) := by decide +kernel
theorem d_St_kindBelow_4 : decode m_St_kindBelow.2.1 4 = .ok (.aload_n 0, 1) := by decide +kernel
theorem d_St_kindBelow_5 : decode m_St_kindBelow.2.1 5 = .ok (.getfield 28, 3) := by decide +kernel
theorem d_St_kindBelow_8 : decode m_St_kindBelow.2.1 8 = .ok (.iconst 1, 1) := by decide +kernel
theorem d_St_kindBelow_9 : decode m_St_kindBelow.2.1 9 = .ok (.isub, 1) := by decide +kernel
theorem d_St_kindBelow_10 : decode m_St_kindBelow.2.1 10 = .ok (.iload_n 1, 1) := by decide +kernel
theorem d_St_kindBelow_11 : decode m_St_kindBelow.2.1 11 = .ok (.isub, 1) := by decide +kernel
theorem d_St_kindBelow_12 : decode m_St_kindBelow.2.1 12 = .ok (.iaload, 1) := by decide +kernel
theorem d_St_kindBelow_13 : decode m_St_kindBelow.2.1 13 = .ok (.ireturn, 1) := by decide +kernel
theorem d_St_valueBelow_0 : decode m_St_valueBelow.2.1 0 = .ok (.aload_n 0, 1) := by decide +kernel
theorem d_St_valueBelow_1 : decode m_St_valueBelow.2.1 1 = .ok (.getfield 21, 3) := by decide +kernel
theorem d_St_valueBelow_4 : decode m_St_valueBelow.2.1 4 = .ok (.aload_n 0, 1) := by decide +kernel
theorem d_St_valueBelow_5 : decode m_St_valueBelow.2.1 5 = .ok (.getfield 28, 3) := by decide +kernel
theorem d_St_valueBelow_8 : decode m_St_valueBelow.2.1 8 = .ok (.iconst 1, 1) := by decide +kernel
theorem d_St_valueBelow_9 : decode m_St_valueBelow.2.1 9 = .ok (.isub, 1) := by decide +kernel
theorem d_St_valueBelow_10 : decode m_St_valueBelow.2.1 10 = .ok (.iload_n 1, 1) := by decide +kernel
theorem d_St_valueBelow_11 : decode m_St_valueBelow.2.1 11 = .ok (.isub, 1) := by decide +kernel
theorem d_St_valueBelow_12 : decode m_St_valueBelow.2.1 12 = .ok (.iaload, 1) := by decide +kernel
theorem d_St_valueBelow_13 : decode m_St_valueBelow.2.1 13 = .ok (.ireturn, 1) := by decide +kernel
theorem d_St_putAgain_0 : decode m_St_putAgain.2.1 0 = .ok (.aload_n 0, 1) := by decide +kernel
theorem d_St_putAgain_1 : decode m_St_putAgain.2.1 1 = .ok (.aload_n 0, 1) := by decide +kernel
theorem d_St_putAgain_2 : decode m_St_putAgain.2.1 2 = .ok (.iconst 0, 1) := by decide +kernel
theorem d_St_putAgain_3 : decode m_St_putAgain.2.1 3 = .ok (.invokevirtual 32, 3) := by decide +kernel
theorem d_St_putAgain_6 : decode m_St_putAgain.2.1 6 = .ok (.aload_n 0, 1) := by decide +kernel
theorem d_St_putAgain_7 : decode m_St_putAgain.2.1 7 = .ok (.iconst 0, 1) := by decide +kernel
theorem d_St_putAgain_8 : decode m_St_putAgain.2.1 8 = .ok (.invokevirtual 36, 3) := by decide +kernel
theorem d_St_putAgain_11 : decode m_St_putAgain.2.1 11 = .ok (.invokevirtual 39, 3) := by decide +kernel
theorem d_St_putAgain_14 : decode m_St_putAgain.2.1 14 = .ok (.return_, 1) := by decide +kernel
theorem d_St_exchange_0 : decode m_St_exchange.2.1 0 = .ok (.aload_n 0, 1) := by decide +kernel
theorem d_St_exchange_1 : decode m_St_exchange.2.1 1 = .ok (.invokevirtual 43, 3) := by decide +kernel
theorem d_St_exchange_4 : decode m_St_exchange.2.1 4 = .ok (.istore_n 1, 1) := by decide +kernel
theorem d_St_exchange_5 : decode m_St_exchange.2.1 5 = .ok (.aload_n 0, 1) := by decide +kernel
theorem d_St_exchange_6 : decode m_St_exchange.2.1 6 = .ok (.invokevirtual 47, 3) := by decide +kernel
theorem d_St_exchange_9 : decode m_St_exchange.2.1 9 = .ok (.istore_n 2, 1) := by decide +kernel
theorem d_St_exchange_10 : decode m_St_exchange.2.1 10 = .ok (.aload_n 0, 1) := by decide +kernel
theorem d_St_exchange_11 : decode m_St_exchange.2.1 11 = .ok (.invokevirtual 43, 3) := by decide +kernel
theorem d_St_exchange_14 : decode m_St_exchange.2.1 14 = .ok (.istore_n 3, 1) := by decide +kernel
theorem d_St_exchange_15 : decode m_St_exchange.2.1 15 = .ok (.aload_n 0, 1) := by decide +kernel
theorem d_St_exchange_16 : decode m_St_exchange.2.1 16 = .ok (.invokevirtual 47, 3) := by decide +kernel
theorem d_St_exchange_19 : decode m_St_exchange.2.1 19 = .ok (.istore 4, 2) := by decide +kernel
theorem d_St_exchange_21 : decode m_St_exchange.2.1 21 = .ok (.aload_n 0, 1) := by decide +kernel
theorem d_St_exchange_22 : decode m_St_exchange.2.1 22 = .ok (.iload_n 2, 1) := by decide +kernel
theorem d_St_exchange_23 : decode m_St_exchange.2.1 23 = .ok (.iload_n 1, 1) := by decide +kernel
theorem d_St_exchange_24 : decode m_St_exchange.2.1 24 = .ok (.invokevirtual 39, 3) := by decide +kernel
theorem d_St_exchange_27 : decode m_St_exchange.2.1 27 = .ok (.aload_n 0, 1) := by decide +kernel
theorem d_St_exchange_28 : decode m_St_exchange.2.1 28 = .ok (.iload 4, 2) := by decide +kernel
theorem d_St_exchange_30 : decode m_St_exchange.2.1 30 = .ok (.iload_n 3, 1) := by decide +kernel
theorem d_St_exchange_31 : decode m_St_exchange.2.1 31 = .ok (.invokevirtual 39, 3) := by decide +kernel
theorem d_St_exchange_34 : decode m_St_exchange.2.1 34 = .ok (.return_, 1) := by decide +kernel
theorem d_St_moveToPlace_0 : decode m_St_moveToPlace.2.1 0 = .ok (.aload_n 0, 1) := by decide +kernel
theorem d_St_moveToPlace_1 : decode m_St_moveToPlace.2.1 1 = .ok (.invokevirtual 43, 3) := by decide +kernel
theorem d_St_moveToPlace_4 : decode m_St_moveToPlace.2.1 4 = .ok (.istore_n 2, 1) := by decide +kernel
theorem d_St_moveToPlace_5 : decode m_St_moveToPlace.2.1 5 = .ok (.aload_n 0, 1) := by decide +kernel
theorem d_St_moveToPlace_6 : decode m_St_moveToPlace.2.1 6 = .ok (.iload_n 1, 1) := by decide +kernel
theorem d_St_moveToPlace_7 : decode m_St_moveToPlace.2.1 7 = .ok (.aload_n 0, 1) := by decide +kernel
theorem d_St_moveToPlace_8 : decode m_St_moveToPlace.2.1 8 = .ok (.invokevirtual 47, 3) := by decide +kernel
theorem d_St_moveToPlace_11 : decode m_St_moveToPlace.2.1 11 = .ok (.iload_n 2, 1) := by decide +kernel
