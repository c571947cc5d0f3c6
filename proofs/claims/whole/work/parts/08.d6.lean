theorem d_Mo_open_75 : decode m_Mo_open.2.1 75 = .ok (.putfield 139, 3) := by decide +kernel
theorem d_Mo_open_78 : decode m_Mo_open.2.1 78 = .ok (.return_, 1) := by decide +kernel
theorem d_Mo_frame_0 : decode m_Mo_frame.2.1 0 = .ok (.aload_n 0, 1) := by decide +kernel
theorem d_Mo_frame_1 : decode m_Mo_frame.2.1 1 = .ok (.getfield 139, 3) := by decide +kernel
theorem d_Mo_frame_4 : decode m_Mo_frame.2.1 4 = .ok (.aload_n 0, 1) := by decide +kernel
theorem d_Mo_frame_5 : decode m_Mo_frame.2.1 5 = .ok (.getfield 136, 3) := by decide +kernel
theorem d_Mo_frame_8 : decode m_Mo_frame.2.1 8 = .ok (.iadd, 1) := by decide +kernel
theorem d_Mo_frame_9 : decode m_Mo_frame.2.1 9 = .ok (.istore_n 3, 1) := by decide +kernel
theorem d_Mo_frame_10 : decode m_Mo_frame.2.1 10 = .ok (.aload_n 0, 1) := by decide +kernel
theorem d_Mo_frame_11 : decode m_Mo_frame.2.1 11 = .ok (.getfield 13, 3) := by decide +kernel
theorem d_Mo_frame_14 : decode m_Mo_frame.2.1 14 = .ok (.iload_n 3, 1) := by decide +kernel
theorem d_Mo_frame_15 : decode m_Mo_frame.2.1 15 = .ok (.iaload, 1) := by decide +kernel
theorem d_Mo_frame_16 : decode m_Mo_frame.2.1 16 = .ok (.istore 4, 2) := by decide +kernel
theorem d_Mo_frame_18 : decode m_Mo_frame.2.1 18 = .ok (.iconst (-1), 1) := by decide +kernel
theorem d_Mo_frame_19 : decode m_Mo_frame.2.1 19 = .ok (.istore 5, 2) := by decide +kernel
theorem d_Mo_frame_21 : decode m_Mo_frame.2.1 21 = .ok (.iinc 3 1, 3) := by decide +kernel
theorem d_Mo_frame_24 : decode m_Mo_frame.2.1 24 = .ok (.iconst 0, 1) := by decide +kernel
theorem d_Mo_frame_25 : decode m_Mo_frame.2.1 25 = .ok (.istore 6, 2) := by decide +kernel
theorem d_Mo_frame_27 : decode m_Mo_frame.2.1 27 = .ok (.iload 6, 2) := by decide +kernel
theorem d_Mo_frame_29 : decode m_Mo_frame.2.1 29 = .ok (.iload 4, 2) := by decide +kernel
theorem d_Mo_frame_31 : decode m_Mo_frame.2.1 31 = .ok (.if_icmp .ge 84, 3) := by decide +kernel
theorem d_Mo_frame_34 : decode m_Mo_frame.2.1 34 = .ok (.iload_n 2, 1) := by decide +kernel
theorem d_Mo_frame_35 : decode m_Mo_frame.2.1 35 = .ok (.ifCond .eq 21, 3) := by decide +kernel
theorem d_Mo_frame_38 : decode m_Mo_frame.2.1 38 = .ok (.aload_n 0, 1) := by decide +kernel
theorem d_Mo_frame_39 : decode m_Mo_frame.2.1 39 = .ok (.getfield 13, 3) := by decide +kernel
theorem d_Mo_frame_42 : decode m_Mo_frame.2.1 42 = .ok (.iload_n 3, 1) := by decide +kernel
theorem d_Mo_frame_43 : decode m_Mo_frame.2.1 43 = .ok (.iaload, 1) := by decide +kernel
theorem d_Mo_frame_44 : decode m_Mo_frame.2.1 44 = .ok (.iload_n 1, 1) := by decide +kernel
theorem d_Mo_frame_45 : decode m_Mo_frame.2.1 45 = .ok (.if_icmp .ge 7, 3) := by decide +kernel
theorem d_Mo_frame_48 : decode m_Mo_frame.2.1 48 = .ok (.iconst 1, 1) := by decide +kernel
theorem d_Mo_frame_49 : decode m_Mo_frame.2.1 49 = .ok (.goto 22, 3) := by decide +kernel
theorem d_Mo_frame_52 : decode m_Mo_frame.2.1 52 = .ok (.iconst 0, 1) := by decide +kernel
theorem d_Mo_frame_53 : decode m_Mo_frame.2.1 53 = .ok (.goto 18, 3) := by decide +kernel
theorem d_Mo_frame_56 : decode m_Mo_frame.2.1 56 = .ok (.aload_n 0, 1) := by decide +kernel
theorem d_Mo_frame_57 : decode m_Mo_frame.2.1 57 = .ok (.getfield 13, 3) := by decide +kernel
theorem d_Mo_frame_60 : decode m_Mo_frame.2.1 60 = .ok (.iload_n 3, 1) := by decide +kernel
theorem d_Mo_frame_61 : decode m_Mo_frame.2.1 61 = .ok (.iaload, 1) := by decide +kernel
theorem d_Mo_frame_62 : decode m_Mo_frame.2.1 62 = .ok (.iload_n 1, 1) := by decide +kernel
theorem d_Mo_frame_63 : decode m_Mo_frame.2.1 63 = .ok (.if_icmp .ne 7, 3) := by decide +kernel
theorem d_Mo_frame_66 : decode m_Mo_frame.2.1 66 = .ok (.iconst 1, 1) := by decide +kernel
theorem d_Mo_frame_67 : decode m_Mo_frame.2.1 67 = .ok (.goto 4, 3) := by decide +kernel
theorem d_Mo_frame_70 : decode m_Mo_frame.2.1 70 = .ok (.iconst 0, 1) := by decide +kernel
theorem d_Mo_frame_71 : decode m_Mo_frame.2.1 71 = .ok (.istore 7, 2) := by decide +kernel
theorem d_Mo_frame_73 : decode m_Mo_frame.2.1 73 = .ok (.iload 7, 2) := by decide +kernel
theorem d_Mo_frame_75 : decode m_Mo_frame.2.1 75 = .ok (.ifCond .eq 7, 3) := by decide +kernel
theorem d_Mo_frame_78 : decode m_Mo_frame.2.1 78 = .ok (.iload_n 3, 1) := by decide +kernel
theorem d_Mo_frame_79 : decode m_Mo_frame.2.1 79 = .ok (.goto 5, 3) := by decide +kernel
theorem d_Mo_frame_82 : decode m_Mo_frame.2.1 82 = .ok (.iload 5, 2) := by decide +kernel
theorem d_Mo_frame_84 : decode m_Mo_frame.2.1 84 = .ok (.istore 5, 2) := by decide +kernel
theorem d_Mo_frame_86 : decode m_Mo_frame.2.1 86 = .ok (.iload_n 3, 1) := by decide +kernel
theorem d_Mo_frame_87 : decode m_Mo_frame.2.1 87 = .ok (.iconst 1, 1) := by decide +kernel
theorem d_Mo_frame_88 : decode m_Mo_frame.2.1 88 = .ok (.iadd, 1) := by decide +kernel
theorem d_Mo_frame_89 : decode m_Mo_frame.2.1 89 = .ok (.aload_n 0, 1) := by decide +kernel
theorem d_Mo_frame_90 : decode m_Mo_frame.2.1 90 = .ok (.getfield 133, 3) := by decide +kernel
theorem d_Mo_frame_93 : decode m_Mo_frame.2.1 93 = .ok (.iadd, 1) := by decide +kernel
theorem d_Mo_frame_94 : decode m_Mo_frame.2.1 94 = .ok (.istore 8, 2) := by decide +kernel
theorem d_Mo_frame_96 : decode m_Mo_frame.2.1 96 = .ok (.iload 8, 2) := by decide +kernel
theorem d_Mo_frame_98 : decode m_Mo_frame.2.1 98 = .ok (.iconst 1, 1) := by decide +kernel
theorem d_Mo_frame_99 : decode m_Mo_frame.2.1 99 = .ok (.iadd, 1) := by decide +kernel
theorem d_Mo_frame_100 : decode m_Mo_frame.2.1 100 = .ok (.aload_n 0, 1) := by decide +kernel
theorem d_Mo_frame_101 : decode m_Mo_frame.2.1 101 = .ok (.getfield 13, 3) := by decide +kernel
theorem d_Mo_frame_104 : decode m_Mo_frame.2.1 104 = .ok (.iload 8, 2) := by decide +kernel
theorem d_Mo_frame_106 : decode m_Mo_frame.2.1 106 = .ok (.iaload, 1) := by decide +kernel
theorem d_Mo_frame_107 : decode m_Mo_frame.2.1 107 = .ok (.iadd, 1) := by decide +kernel
theorem d_Mo_frame_108 : decode m_Mo_frame.2.1 108 = .ok (.istore_n 3, 1) := by decide +kernel
theorem d_Mo_frame_109 : decode m_Mo_frame.2.1 109 = .ok (.iinc 6 1, 3) := by decide +kernel
theorem d_Mo_frame_112 : decode m_Mo_frame.2.1 112 = .ok (.goto (-85), 3) := by decide +kernel
theorem d_Mo_frame_115 : decode m_Mo_frame.2.1 115 = .ok (.iload 5, 2) := by decide +kernel
theorem d_Mo_frame_117 : decode m_Mo_frame.2.1 117 = .ok (.ireturn, 1) := by decide +kernel
theorem d_Mo_target_0 : decode m_Mo_target.2.1 0 = .ok (.iload_n 1, 1) := by decide +kernel
theorem d_Mo_target_1 : decode m_Mo_target.2.1 1 = .ok (.aload_n 0, 1) := by decide +kernel
theorem d_Mo_target_2 : decode m_Mo_target.2.1 2 = .ok (.getfield 13, 3) := by decide +kernel
theorem d_Mo_target_5 : decode m_Mo_target.2.1 5 = .ok (.aload_n 0, 1) := by decide +kernel
theorem d_Mo_target_6 : decode m_Mo_target.2.1 6 = .ok (.getfield 139, 3) := by decide +kernel
theorem d_Mo_target_9 : decode m_Mo_target.2.1 9 = .ok (.iload_n 1, 1) := by decide +kernel
theorem d_Mo_target_10 : decode m_Mo_target.2.1 10 = .ok (.iadd, 1) := by decide +kernel
theorem d_Mo_target_11 : decode m_Mo_target.2.1 11 = .ok (.iconst 1, 1) := by decide +kernel
theorem d_Mo_target_12 : decode m_Mo_target.2.1 12 = .ok (.iadd, 1) := by decide +kernel
theorem d_Mo_target_13 : decode m_Mo_target.2.1 13 = .ok (.iaload, 1) := by decide +kernel
theorem d_Mo_target_14 : decode m_Mo_target.2.1 14 = .ok (.aload_n 0, 1) := by decide +kernel
theorem d_Mo_target_15 : decode m_Mo_target.2.1 15 = .ok (.getfield 13, 3) := by decide +kernel
theorem d_Mo_target_18 : decode m_Mo_target.2.1 18 = .ok (.aload_n 0, 1) := by decide +kernel
theorem d_Mo_target_19 : decode m_Mo_target.2.1 19 = .ok (.getfield 139, 3) := by decide +kernel
theorem d_Mo_target_22 : decode m_Mo_target.2.1 22 = .ok (.iload_n 1, 1) := by decide +kernel
theorem d_Mo_target_23 : decode m_Mo_target.2.1 23 = .ok (.iadd, 1) := by decide +kernel
theorem d_Mo_target_24 : decode m_Mo_target.2.1 24 = .ok (.iconst 2, 1) := by decide +kernel
theorem d_Mo_target_25 : decode m_Mo_target.2.1 25 = .ok (.iadd, 1) := by decide +kernel
theorem d_Mo_target_26 : decode m_Mo_target.2.1 26 = .ok (.iaload, 1) := by decide +kernel
theorem d_Mo_target_27 : decode m_Mo_target.2.1 27 = .ok (.invokestatic 84, 3) := by decide +kernel
theorem d_Mo_target_30 : decode m_Mo_target.2.1 30 = .ok (.iadd, 1) := by decide +kernel
theorem d_Mo_target_31 : decode m_Mo_target.2.1 31 = .ok (.ireturn, 1) := by decide +kernel
theorem d_Mo_constant_0 : decode m_Mo_constant.2.1 0 = .ok (.iconst 0, 1) := by decide +kernel
theorem d_Mo_constant_1 : decode m_Mo_constant.2.1 1 = .ok (.istore_n 2, 1) := by decide +kernel
theorem d_Mo_constant_2 : decode m_Mo_constant.2.1 2 = .ok (.iconst 0, 1) := by decide +kernel
theorem d_Mo_constant_3 : decode m_Mo_constant.2.1 3 = .ok (.istore_n 3, 1) := by decide +kernel
theorem d_Mo_constant_4 : decode m_Mo_constant.2.1 4 = .ok (.iload_n 3, 1) := by decide +kernel
theorem d_Mo_constant_5 : decode m_Mo_constant.2.1 5 = .ok (.iconst 4, 1) := by decide +kernel
theorem d_Mo_constant_6 : decode m_Mo_constant.2.1 6 = .ok (.if_icmp .ge 28, 3) := by decide +kernel
theorem d_Mo_constant_9 : decode m_Mo_constant.2.1 9 = .ok (.sipush 256, 3) := by decide +kernel
theorem d_Mo_constant_12 : decode m_Mo_constant.2.1 12 = .ok (.iload_n 2, 1) := by decide +kernel
theorem d_Mo_constant_13 : decode m_Mo_constant.2.1 13 = .ok (.imul, 1) := by decide +kernel
theorem d_Mo_constant_14 : decode m_Mo_constant.2.1 14 = .ok (.aload_n 0, 1) := by decide +kernel
theorem d_Mo_constant_15 : decode m_Mo_constant.2.1 15 = .ok (.getfield 13, 3) := by decide +kernel
theorem d_Mo_constant_18 : decode m_Mo_constant.2.1 18 = .ok (.iconst 2, 1) := by decide +kernel
theorem d_Mo_constant_19 : decode m_Mo_constant.2.1 19 = .ok (.iconst 4, 1) := by decide +kernel
theorem d_Mo_constant_20 : decode m_Mo_constant.2.1 20 = .ok (.iload_n 1, 1) := by decide +kernel
theorem d_Mo_constant_21 : decode m_Mo_constant.2.1 21 = .ok (.imul, 1) := by decide +kernel
theorem d_Mo_constant_22 : decode m_Mo_constant.2.1 22 = .ok (.iadd, 1) := by decide +kernel
theorem d_Mo_constant_23 : decode m_Mo_constant.2.1 23 = .ok (.iload_n 3, 1) := by decide +kernel
theorem d_Mo_constant_24 : decode m_Mo_constant.2.1 24 = .ok (.iadd, 1) := by decide +kernel
theorem d_Mo_constant_25 : decode m_Mo_constant.2.1 25 = .ok (.iaload, 1) := by decide +kernel
theorem d_Mo_constant_26 : decode m_Mo_constant.2.1 26 = .ok (.iadd, 1) := by decide +kernel
theorem d_Mo_constant_27 : decode m_Mo_constant.2.1 27 = .ok (.istore_n 2, 1) := by decide +kernel
theorem d_Mo_constant_28 : decode m_Mo_constant.2.1 28 = .ok (.iinc 3 1, 3) := by decide +kernel
theorem d_Mo_constant_31 : decode m_Mo_constant.2.1 31 = .ok (.goto (-27), 3) := by decide +kernel
theorem d_Mo_constant_34 : decode m_Mo_constant.2.1 34 = .ok (.iload_n 2, 1) := by decide +kernel
theorem d_Mo_constant_35 : decode m_Mo_constant.2.1 35 = .ok (.ireturn, 1) := by decide +kernel
theorem d_Mo_good_0 : decode m_Mo_good.2.1 0 = .ok (.iload_n 0, 1) := by decide +kernel
theorem d_Mo_good_1 : decode m_Mo_good.2.1 1 = .ok (.iload_n 1, 1) := by decide +kernel
theorem d_Mo_good_2 : decode m_Mo_good.2.1 2 = .ok (.if_icmp .eq 13, 3) := by decide +kernel
theorem d_Mo_good_5 : decode m_Mo_good.2.1 5 = .ok (.iload_n 1, 1) := by decide +kernel
theorem d_Mo_good_6 : decode m_Mo_good.2.1 6 = .ok (.iconst 2, 1) := by decide +kernel
theorem d_Mo_good_7 : decode m_Mo_good.2.1 7 = .ok (.if_icmp .ne 12, 3) := by decide +kernel
theorem d_Mo_good_10 : decode m_Mo_good.2.1 10 = .ok (.iload_n 0, 1) := by decide +kernel
theorem d_Mo_good_11 : decode m_Mo_good.2.1 11 = .ok (.iconst 3, 1) := by decide +kernel
theorem d_Mo_good_12 : decode m_Mo_good.2.1 12 = .ok (.if_icmp .ne 7, 3) := by decide +kernel
theorem d_Mo_good_15 : decode m_Mo_good.2.1 15 = .ok (.iconst 1, 1) := by decide +kernel
theorem d_Mo_good_16 : decode m_Mo_good.2.1 16 = .ok (.goto 4, 3) := by decide +kernel
theorem d_Mo_good_19 : decode m_Mo_good.2.1 19 = .ok (.iconst 0, 1) := by decide +kernel
theorem d_Mo_good_20 : decode m_Mo_good.2.1 20 = .ok (.ireturn, 1) := by decide +kernel
theorem d_Mo_needs_0 : decode m_Mo_needs.2.1 0 = .ok (.aload_n 0, 1) := by decide +kernel
theorem d_Mo_needs_1 : decode m_Mo_needs.2.1 1 = .ok (.getfield 13, 3) := by decide +kernel
theorem d_Mo_needs_4 : decode m_Mo_needs.2.1 4 = .ok (.aload_n 0, 1) := by decide +kernel
theorem d_Mo_needs_5 : decode m_Mo_needs.2.1 5 = .ok (.getfield 139, 3) := by decide +kernel
theorem d_Mo_needs_8 : decode m_Mo_needs.2.1 8 = .ok (.iload_n 1, 1) := by decide +kernel
theorem d_Mo_needs_9 : decode m_Mo_needs.2.1 9 = .ok (.iadd, 1) := by decide +kernel
theorem d_Mo_needs_10 : decode m_Mo_needs.2.1 10 = .ok (.iaload, 1) := by decide +kernel
theorem d_Mo_needs_11 : decode m_Mo_needs.2.1 11 = .ok (.istore_n 3, 1) := by decide +kernel
theorem d_Mo_needs_12 : decode m_Mo_needs.2.1 12 = .ok (.iload_n 3, 1) := by decide +kernel
theorem d_Mo_needs_13 : decode m_Mo_needs.2.1 13 = .ok (.sipush 184, 3) := by decide +kernel
theorem d_Mo_needs_16 : decode m_Mo_needs.2.1 16 = .ok (.if_icmp .eq 9, 3) := by decide +kernel
theorem d_Mo_needs_19 : decode m_Mo_needs.2.1 19 = .ok (.iload_n 3, 1) := by decide +kernel
theorem d_Mo_needs_20 : decode m_Mo_needs.2.1 20 = .ok (.iload_n 2, 1) := by decide +kernel
theorem d_Mo_needs_21 : decode m_Mo_needs.2.1 21 = .ok (.invokestatic 142, 3) := by decide +kernel
theorem d_Mo_needs_24 : decode m_Mo_needs.2.1 24 = .ok (.ireturn, 1) := by decide +kernel
theorem d_Mo_needs_25 : decode m_Mo_needs.2.1 25 = .ok (.aload_n 0, 1) := by decide +kernel
theorem d_Mo_needs_26 : decode m_Mo_needs.2.1 26 = .ok (.aload_n 0, 1) := by decide +kernel
theorem d_Mo_needs_27 : decode m_Mo_needs.2.1 27 = .ok (.getfield 13, 3) := by decide +kernel
theorem d_Mo_needs_30 : decode m_Mo_needs.2.1 30 = .ok (.aload_n 0, 1) := by decide +kernel
theorem d_Mo_needs_31 : decode m_Mo_needs.2.1 31 = .ok (.getfield 139, 3) := by decide +kernel
theorem d_Mo_needs_34 : decode m_Mo_needs.2.1 34 = .ok (.iload_n 1, 1) := by decide +kernel
theorem d_Mo_needs_35 : decode m_Mo_needs.2.1 35 = .ok (.iadd, 1) := by decide +kernel
theorem d_Mo_needs_36 : decode m_Mo_needs.2.1 36 = .ok (.iconst 1, 1) := by decide +kernel
theorem d_Mo_needs_37 : decode m_Mo_needs.2.1 37 = .ok (.iadd, 1) := by decide +kernel
theorem d_Mo_needs_38 : decode m_Mo_needs.2.1 38 = .ok (.iaload, 1) := by decide +kernel
theorem d_Mo_needs_39 : decode m_Mo_needs.2.1 39 = .ok (.invokevirtual 121, 3) := by decide +kernel
theorem d_Mo_needs_42 : decode m_Mo_needs.2.1 42 = .ok (.istore 4, 2) := by decide +kernel
theorem d_Mo_needs_44 : decode m_Mo_needs.2.1 44 = .ok (.iload_n 2, 1) := by decide +kernel
theorem d_Mo_needs_45 : decode m_Mo_needs.2.1 45 = .ok (.aload_n 0, 1) := by decide +kernel
theorem d_Mo_needs_46 : decode m_Mo_needs.2.1 46 = .ok (.getfield 13, 3) := by decide +kernel
theorem d_Mo_needs_49 : decode m_Mo_needs.2.1 49 = .ok (.iload 4, 2) := by decide +kernel
theorem d_Mo_needs_51 : decode m_Mo_needs.2.1 51 = .ok (.iaload, 1) := by decide +kernel
theorem d_Mo_needs_52 : decode m_Mo_needs.2.1 52 = .ok (.if_icmp .ge 23, 3) := by decide +kernel
theorem d_Mo_needs_55 : decode m_Mo_needs.2.1 55 = .ok (.aload_n 0, 1) := by decide +kernel
theorem d_Mo_needs_56 : decode m_Mo_needs.2.1 56 = .ok (.getfield 13, 3) := by decide +kernel
theorem d_Mo_needs_59 : decode m_Mo_needs.2.1 59 = .ok (.iload 4, 2) := by decide +kernel
theorem d_Mo_needs_61 : decode m_Mo_needs.2.1 61 = .ok (.aload_n 0, 1) := by decide +kernel
theorem d_Mo_needs_62 : decode m_Mo_needs.2.1 62 = .ok (.getfield 13, 3) := by decide +kernel
theorem d_Mo_needs_65 : decode m_Mo_needs.2.1 65 = .ok (.iload 4, 2) := by decide +kernel
theorem d_Mo_needs_67 : decode m_Mo_needs.2.1 67 = .ok (.iaload, 1) := by decide +kernel
theorem d_Mo_needs_68 : decode m_Mo_needs.2.1 68 = .ok (.iadd, 1) := by decide +kernel
theorem d_Mo_needs_69 : decode m_Mo_needs.2.1 69 = .ok (.iload_n 2, 1) := by decide +kernel
theorem d_Mo_needs_70 : decode m_Mo_needs.2.1 70 = .ok (.isub, 1) := by decide +kernel
theorem d_Mo_needs_71 : decode m_Mo_needs.2.1 71 = .ok (.iaload, 1) := by decide +kernel
theorem d_Mo_needs_72 : decode m_Mo_needs.2.1 72 = .ok (.goto 4, 3) := by decide +kernel
theorem d_Mo_needs_75 : decode m_Mo_needs.2.1 75 = .ok (.iconst 0, 1) := by decide +kernel
theorem d_Mo_needs_76 : decode m_Mo_needs.2.1 76 = .ok (.ireturn, 1) := by decide +kernel
theorem d_Mo_takes_0 : decode m_Mo_takes.2.1 0 = .ok (.iconst 0, 1) := by decide +kernel
theorem d_Mo_takes_1 : decode m_Mo_takes.2.1 1 = .ok (.istore_n 2, 1) := by decide +kernel
theorem d_Mo_takes_2 : decode m_Mo_takes.2.1 2 = .ok (.aload_n 0, 1) := by decide +kernel
theorem d_Mo_takes_3 : decode m_Mo_takes.2.1 3 = .ok (.iload_n 1, 1) := by decide +kernel
theorem d_Mo_takes_4 : decode m_Mo_takes.2.1 4 = .ok (.iload_n 2, 1) := by decide +kernel
theorem d_Mo_takes_5 : decode m_Mo_takes.2.1 5 = .ok (.invokevirtual 145, 3) := by decide +kernel
theorem d_Mo_takes_8 : decode m_Mo_takes.2.1 8 = .ok (.ifCond .le 9, 3) := by decide +kernel
theorem d_Mo_takes_11 : decode m_Mo_takes.2.1 11 = .ok (.iinc 2 1, 3) := by decide +kernel
theorem d_Mo_takes_14 : decode m_Mo_takes.2.1 14 = .ok (.goto (-12), 3) := by decide +kernel
theorem d_Mo_takes_17 : decode m_Mo_takes.2.1 17 = .ok (.iload_n 2, 1) := by decide +kernel
theorem d_Mo_takes_18 : decode m_Mo_takes.2.1 18 = .ok (.ireturn, 1) := by decide +kernel
theorem d_Mo_gives_0 : decode m_Mo_gives.2.1 0 = .ok (.aload_n 0, 1) := by decide +kernel
theorem d_Mo_gives_1 : decode m_Mo_gives.2.1 1 = .ok (.getfield 13, 3) := by decide +kernel
theorem d_Mo_gives_4 : decode m_Mo_gives.2.1 4 = .ok (.aload_n 0, 1) := by decide +kernel
theorem d_Mo_gives_5 : decode m_Mo_gives.2.1 5 = .ok (.getfield 139, 3) := by decide +kernel
theorem d_Mo_gives_8 : decode m_Mo_gives.2.1 8 = .ok (.iload_n 1, 1) := by decide +kernel
theorem d_Mo_gives_9 : decode m_Mo_gives.2.1 9 = .ok (.iadd, 1) := by decide +kernel
theorem d_Mo_gives_10 : decode m_Mo_gives.2.1 10 = .ok (.iaload, 1) := by decide +kernel
theorem d_Mo_gives_11 : decode m_Mo_gives.2.1 11 = .ok (.istore_n 2, 1) := by decide +kernel
theorem d_Mo_gives_12 : decode m_Mo_gives.2.1 12 = .ok (.iload_n 2, 1) := by decide +kernel
theorem d_Mo_gives_13 : decode m_Mo_gives.2.1 13 = .ok (.sipush 184, 3) := by decide +kernel
theorem d_Mo_gives_16 : decode m_Mo_gives.2.1 16 = .ok (.if_icmp .ne 33, 3) := by decide +kernel
theorem d_Mo_gives_19 : decode m_Mo_gives.2.1 19 = .ok (.aload_n 0, 1) := by decide +kernel
theorem d_Mo_gives_20 : decode m_Mo_gives.2.1 20 = .ok (.aload_n 0, 1) := by decide +kernel
theorem d_Mo_gives_21 : decode m_Mo_gives.2.1 21 = .ok (.aload_n 0, 1) := by decide +kernel
theorem d_Mo_gives_22 : decode m_Mo_gives.2.1 22 = .ok (.getfield 13, 3) := by decide +kernel
theorem d_Mo_gives_25 : decode m_Mo_gives.2.1 25 = .ok (.aload_n 0, 1) := by decide +kernel
theorem d_Mo_gives_26 : decode m_Mo_gives.2.1 26 = .ok (.getfield 139, 3) := by decide +kernel
theorem d_Mo_gives_29 : decode m_Mo_gives.2.1 29 = .ok (.iload_n 1, 1) := by decide +kernel
theorem d_Mo_gives_30 : decode m_Mo_gives.2.1 30 = .ok (.iadd, 1) := by decide +kernel
theorem d_Mo_gives_31 : decode m_Mo_gives.2.1 31 = .ok (.iconst 1, 1) := by decide +kernel
theorem d_Mo_gives_32 : decode m_Mo_gives.2.1 32 = .ok (.iadd, 1) := by decide +kernel
theorem d_Mo_gives_33 : decode m_Mo_gives.2.1 33 = .ok (.iaload, 1) := by decide +kernel
theorem d_Mo_gives_34 : decode m_Mo_gives.2.1 34 = .ok (.invokevirtual 121, 3) := by decide +kernel
theorem d_Mo_gives_37 : decode m_Mo_gives.2.1 37 = .ok (.invokevirtual 148, 3) := by decide +kernel
theorem d_Mo_gives_40 : decode m_Mo_gives.2.1 40 = .ok (.ifCond .le 7, 3) := by decide +kernel
theorem d_Mo_gives_43 : decode m_Mo_gives.2.1 43 = .ok (.iconst 1, 1) := by decide +kernel
theorem d_Mo_gives_44 : decode m_Mo_gives.2.1 44 = .ok (.goto 4, 3) := by decide +kernel
theorem d_Mo_gives_47 : decode m_Mo_gives.2.1 47 = .ok (.iconst 0, 1) := by decide +kernel
theorem d_Mo_gives_48 : decode m_Mo_gives.2.1 48 = .ok (.ireturn, 1) := by decide +kernel
theorem d_Mo_gives_49 : decode m_Mo_gives.2.1 49 = .ok (.iload_n 2, 1) := by decide +kernel
theorem d_Mo_gives_50 : decode m_Mo_gives.2.1 50 = .ok (.bipush 89, 2) := by decide +kernel
theorem d_Mo_gives_52 : decode m_Mo_gives.2.1 52 = .ok (.if_icmp .eq 9, 3) := by decide +kernel
theorem d_Mo_gives_55 : decode m_Mo_gives.2.1 55 = .ok (.iload_n 2, 1) := by decide +kernel
theorem d_Mo_gives_56 : decode m_Mo_gives.2.1 56 = .ok (.bipush 95, 2) := by decide +kernel
theorem d_Mo_gives_58 : decode m_Mo_gives.2.1 58 = .ok (.if_icmp .ne 7, 3) := by decide +kernel
theorem d_Mo_gives_61 : decode m_Mo_gives.2.1 61 = .ok (.iconst 2, 1) := by decide +kernel
theorem d_Mo_gives_62 : decode m_Mo_gives.2.1 62 = .ok (.goto 21, 3) := by decide +kernel
theorem d_Mo_gives_65 : decode m_Mo_gives.2.1 65 = .ok (.iload_n 2, 1) := by decide +kernel
theorem d_Mo_gives_66 : decode m_Mo_gives.2.1 66 = .ok (.bipush 25, 2) := by decide +kernel
theorem d_Mo_gives_68 : decode m_Mo_gives.2.1 68 = .ok (.if_icmp .eq 10, 3) := by decide +kernel
theorem d_Mo_gives_71 : decode m_Mo_gives.2.1 71 = .ok (.iload_n 2, 1) := by decide +kernel
theorem d_Mo_gives_72 : decode m_Mo_gives.2.1 72 = .ok (.invokestatic 151, 3) := by decide +kernel
theorem d_Mo_gives_75 : decode m_Mo_gives.2.1 75 = .ok (.ifCond .le 7, 3) := by decide +kernel
theorem d_Mo_gives_78 : decode m_Mo_gives.2.1 78 = .ok (.iconst 1, 1) := by decide +kernel
theorem d_Mo_gives_79 : decode m_Mo_gives.2.1 79 = .ok (.goto 4, 3) := by decide +kernel
theorem d_Mo_gives_82 : decode m_Mo_gives.2.1 82 = .ok (.iconst 0, 1) := by decide +kernel
theorem d_Mo_gives_83 : decode m_Mo_gives.2.1 83 = .ok (.ireturn, 1) := by decide +kernel
theorem d_Mo_can_0 : decode m_Mo_can.2.1 0 = .ok (.aload_n 0, 1) := by decide +kernel
theorem d_Mo_can_1 : decode m_Mo_can.2.1 1 = .ok (.getfield 13, 3) := by decide +kernel
theorem d_Mo_can_4 : decode m_Mo_can.2.1 4 = .ok (.aload_n 0, 1) := by decide +kernel
theorem d_Mo_can_5 : decode m_Mo_can.2.1 5 = .ok (.getfield 139, 3) := by decide +kernel
theorem d_Mo_can_8 : decode m_Mo_can.2.1 8 = .ok (.iload_n 2, 1) := by decide +kernel
theorem d_Mo_can_9 : decode m_Mo_can.2.1 9 = .ok (.iadd, 1) := by decide +kernel
theorem d_Mo_can_10 : decode m_Mo_can.2.1 10 = .ok (.iaload, 1) := by decide +kernel
theorem d_Mo_can_11 : decode m_Mo_can.2.1 11 = .ok (.istore_n 3, 1) := by decide +kernel
theorem d_Mo_can_12 : decode m_Mo_can.2.1 12 = .ok (.aload_n 0, 1) := by decide +kernel
theorem d_Mo_can_13 : decode m_Mo_can.2.1 13 = .ok (.iload_n 2, 1) := by decide +kernel
theorem d_Mo_can_14 : decode m_Mo_can.2.1 14 = .ok (.invokevirtual 154, 3) := by decide +kernel
theorem d_Mo_can_17 : decode m_Mo_can.2.1 17 = .ok (.istore 4, 2) := by decide +kernel
theorem d_Mo_can_19 : decode m_Mo_can.2.1 19 = .ok (.iload 4, 2) := by decide +kernel
theorem d_Mo_can_21 : decode m_Mo_can.2.1 21 = .ok (.aload_n 0, 1) := by decide +kernel
theorem d_Mo_can_22 : decode m_Mo_can.2.1 22 = .ok (.getfield 28, 3) := by decide +kernel
theorem d_Mo_can_25 : decode m_Mo_can.2.1 25 = .ok (.iload_n 1, 1) := by decide +kernel
theorem d_Mo_can_26 : decode m_Mo_can.2.1 26 = .ok (.iaload, 1) := by decide +kernel
theorem d_Mo_can_27 : decode m_Mo_can.2.1 27 = .ok (.if_icmp .gt 25, 3) := by decide +kernel
theorem d_Mo_can_30 : decode m_Mo_can.2.1 30 = .ok (.aload_n 0, 1) := by decide +kernel
theorem d_Mo_can_31 : decode m_Mo_can.2.1 31 = .ok (.getfield 28, 3) := by decide +kernel
theorem d_Mo_can_34 : decode m_Mo_can.2.1 34 = .ok (.iload_n 1, 1) := by decide +kernel
theorem d_Mo_can_35 : decode m_Mo_can.2.1 35 = .ok (.iaload, 1) := by decide +kernel
theorem d_Mo_can_36 : decode m_Mo_can.2.1 36 = .ok (.iload 4, 2) := by decide +kernel
theorem d_Mo_can_38 : decode m_Mo_can.2.1 38 = .ok (.isub, 1) := by decide +kernel
theorem d_Mo_can_39 : decode m_Mo_can.2.1 39 = .ok (.aload_n 0, 1) := by decide +kernel
theorem d_Mo_can_40 : decode m_Mo_can.2.1 40 = .ok (.iload_n 2, 1) := by decide +kernel
theorem d_Mo_can_41 : decode m_Mo_can.2.1 41 = .ok (.invokevirtual 157, 3) := by decide +kernel
theorem d_Mo_can_44 : decode m_Mo_can.2.1 44 = .ok (.iadd, 1) := by decide +kernel
theorem d_Mo_can_45 : decode m_Mo_can.2.1 45 = .ok (.aload_n 0, 1) := by decide +kernel
theorem d_Mo_can_46 : decode m_Mo_can.2.1 46 = .ok (.getfield 130, 3) := by decide +kernel
theorem d_Mo_can_49 : decode m_Mo_can.2.1 49 = .ok (.if_icmp .le 5, 3) := by decide +kernel
theorem d_Mo_can_52 : decode m_Mo_can.2.1 52 = .ok (.iconst 0, 1) := by decide +kernel
theorem d_Mo_can_53 : decode m_Mo_can.2.1 53 = .ok (.ireturn, 1) := by decide +kernel
theorem d_Mo_can_54 : decode m_Mo_can.2.1 54 = .ok (.iconst 0, 1) := by decide +kernel
theorem d_Mo_can_55 : decode m_Mo_can.2.1 55 = .ok (.istore 5, 2) := by decide +kernel
theorem d_Mo_can_57 : decode m_Mo_can.2.1 57 = .ok (.iload 5, 2) := by decide +kernel
theorem d_Mo_can_59 : decode m_Mo_can.2.1 59 = .ok (.iload 4, 2) := by decide +kernel
theorem d_Mo_can_61 : decode m_Mo_can.2.1 61 = .ok (.if_icmp .ge 55, 3) := by decide +kernel
theorem d_Mo_can_64 : decode m_Mo_can.2.1 64 = .ok (.aload_n 0, 1) := by decide +kernel
theorem d_Mo_can_65 : decode m_Mo_can.2.1 65 = .ok (.iload_n 2, 1) := by decide +kernel
theorem d_Mo_can_66 : decode m_Mo_can.2.1 66 = .ok (.iload 5, 2) := by decide +kernel
theorem d_Mo_can_68 : decode m_Mo_can.2.1 68 = .ok (.invokevirtual 145, 3) := by decide +kernel
theorem d_Mo_can_71 : decode m_Mo_can.2.1 71 = .ok (.istore 6, 2) := by decide +kernel
theorem d_Mo_can_73 : decode m_Mo_can.2.1 73 = .ok (.iload 6, 2) := by decide +kernel
theorem d_Mo_can_75 : decode m_Mo_can.2.1 75 = .ok (.iconst 3, 1) := by decide +kernel
theorem d_Mo_can_76 : decode m_Mo_can.2.1 76 = .ok (.if_icmp .eq 34, 3) := by decide +kernel
theorem d_Mo_can_79 : decode m_Mo_can.2.1 79 = .ok (.aload_n 0, 1) := by decide +kernel
theorem d_Mo_can_80 : decode m_Mo_can.2.1 80 = .ok (.getfield 22, 3) := by decide +kernel
theorem d_Mo_can_83 : decode m_Mo_can.2.1 83 = .ok (.bipush 6, 2) := by decide +kernel
theorem d_Mo_can_85 : decode m_Mo_can.2.1 85 = .ok (.iload_n 1, 1) := by decide +kernel
theorem d_Mo_can_86 : decode m_Mo_can.2.1 86 = .ok (.imul, 1) := by decide +kernel
theorem d_Mo_can_87 : decode m_Mo_can.2.1 87 = .ok (.aload_n 0, 1) := by decide +kernel
theorem d_Mo_can_88 : decode m_Mo_can.2.1 88 = .ok (.getfield 28, 3) := by decide +kernel
theorem d_Mo_can_91 : decode m_Mo_can.2.1 91 = .ok (.iload_n 1, 1) := by decide +kernel
theorem d_Mo_can_92 : decode m_Mo_can.2.1 92 = .ok (.iaload, 1) := by decide +kernel
theorem d_Mo_can_93 : decode m_Mo_can.2.1 93 = .ok (.iadd, 1) := by decide +kernel
theorem d_Mo_can_94 : decode m_Mo_can.2.1 94 = .ok (.iconst 1, 1) := by decide +kernel
theorem d_Mo_can_95 : decode m_Mo_can.2.1 95 = .ok (.isub, 1) := by decide +kernel
theorem d_Mo_can_96 : decode m_Mo_can.2.1 96 = .ok (.iload 5, 2) := by decide +kernel
theorem d_Mo_can_98 : decode m_Mo_can.2.1 98 = .ok (.isub, 1) := by decide +kernel
theorem d_Mo_can_99 : decode m_Mo_can.2.1 99 = .ok (.iaload, 1) := by decide +kernel
theorem d_Mo_can_100 : decode m_Mo_can.2.1 100 = .ok (.iload 6, 2) := by decide +kernel
theorem d_Mo_can_102 : decode m_Mo_can.2.1 102 = .ok (.invokestatic 160, 3) := by decide +kernel
theorem d_Mo_can_105 : decode m_Mo_can.2.1 105 = .ok (.ifCond .ne 5, 3) := by decide +kernel
theorem d_Mo_can_108 : decode m_Mo_can.2.1 108 = .ok (.iconst 0, 1) := by decide +kernel
theorem d_Mo_can_109 : decode m_Mo_can.2.1 109 = .ok (.ireturn, 1) := by decide +kernel
theorem d_Mo_can_110 : decode m_Mo_can.2.1 110 = .ok (.iinc 5 1, 3) := by decide +kernel
theorem d_Mo_can_113 : decode m_Mo_can.2.1 113 = .ok (.goto (-56), 3) := by decide +kernel
theorem d_Mo_can_116 : decode m_Mo_can.2.1 116 = .ok (.iload_n 3, 1) := by decide +kernel
theorem d_Mo_can_117 : decode m_Mo_can.2.1 117 = .ok (.invokestatic 55, 3) := by decide +kernel
theorem d_Mo_can_120 : decode m_Mo_can.2.1 120 = .ok (.ifCond .eq 29, 3) := by decide +kernel
theorem d_Mo_can_123 : decode m_Mo_can.2.1 123 = .ok (.aload_n 0, 1) := by decide +kernel
theorem d_Mo_can_124 : decode m_Mo_can.2.1 124 = .ok (.getfield 16, 3) := by decide +kernel
theorem d_Mo_can_127 : decode m_Mo_can.2.1 127 = .ok (.bipush 6, 2) := by decide +kernel
theorem d_Mo_can_129 : decode m_Mo_can.2.1 129 = .ok (.iload_n 1, 1) := by decide +kernel
theorem d_Mo_can_130 : decode m_Mo_can.2.1 130 = .ok (.imul, 1) := by decide +kernel
theorem d_Mo_can_131 : decode m_Mo_can.2.1 131 = .ok (.aload_n 0, 1) := by decide +kernel
theorem d_Mo_can_132 : decode m_Mo_can.2.1 132 = .ok (.getfield 13, 3) := by decide +kernel
theorem d_Mo_can_135 : decode m_Mo_can.2.1 135 = .ok (.aload_n 0, 1) := by decide +kernel
theorem d_Mo_can_136 : decode m_Mo_can.2.1 136 = .ok (.getfield 139, 3) := by decide +kernel
theorem d_Mo_can_139 : decode m_Mo_can.2.1 139 = .ok (.iload_n 2, 1) := by decide +kernel
theorem d_Mo_can_140 : decode m_Mo_can.2.1 140 = .ok (.iadd, 1) := by decide +kernel
theorem d_Mo_can_141 : decode m_Mo_can.2.1 141 = .ok (.iconst 1, 1) := by decide +kernel
theorem d_Mo_can_142 : decode m_Mo_can.2.1 142 = .ok (.iadd, 1) := by decide +kernel
theorem d_Mo_can_143 : decode m_Mo_can.2.1 143 = .ok (.iaload, 1) := by decide +kernel
theorem d_Mo_can_144 : decode m_Mo_can.2.1 144 = .ok (.iadd, 1) := by decide +kernel
theorem d_Mo_can_145 : decode m_Mo_can.2.1 145 = .ok (.iaload, 1) := by decide +kernel
theorem d_Mo_can_146 : decode m_Mo_can.2.1 146 = .ok (.goto 4, 3) := by decide +kernel
theorem d_Mo_can_149 : decode m_Mo_can.2.1 149 = .ok (.iconst 0, 1) := by decide +kernel
theorem d_Mo_can_150 : decode m_Mo_can.2.1 150 = .ok (.istore 5, 2) := by decide +kernel
theorem d_Mo_can_152 : decode m_Mo_can.2.1 152 = .ok (.iload_n 3, 1) := by decide +kernel
theorem d_Mo_can_153 : decode m_Mo_can.2.1 153 = .ok (.bipush 21, 2) := by decide +kernel
theorem d_Mo_can_155 : decode m_Mo_can.2.1 155 = .ok (.if_icmp .eq 10, 3) := by decide +kernel
theorem d_Mo_can_158 : decode m_Mo_can.2.1 158 = .ok (.iload_n 3, 1) := by decide +kernel
theorem d_Mo_can_159 : decode m_Mo_can.2.1 159 = .ok (.sipush 132, 3) := by decide +kernel
theorem d_Mo_can_162 : decode m_Mo_can.2.1 162 = .ok (.if_icmp .ne 9, 3) := by decide +kernel
theorem d_Mo_can_165 : decode m_Mo_can.2.1 165 = .ok (.iload 5, 2) := by decide +kernel
theorem d_Mo_can_167 : decode m_Mo_can.2.1 167 = .ok (.iconst 1, 1) := by decide +kernel
theorem d_Mo_can_168 : decode m_Mo_can.2.1 168 = .ok (.if_icmp .ne 15, 3) := by decide +kernel
theorem d_Mo_can_171 : decode m_Mo_can.2.1 171 = .ok (.iload_n 3, 1) := by decide +kernel
theorem d_Mo_can_172 : decode m_Mo_can.2.1 172 = .ok (.bipush 25, 2) := by decide +kernel
theorem d_Mo_can_174 : decode m_Mo_can.2.1 174 = .ok (.if_icmp .ne 11, 3) := by decide +kernel
theorem d_Mo_can_177 : decode m_Mo_can.2.1 177 = .ok (.iload 5, 2) := by decide +kernel
theorem d_Mo_can_179 : decode m_Mo_can.2.1 179 = .ok (.iconst 2, 1) := by decide +kernel
theorem d_Mo_can_180 : decode m_Mo_can.2.1 180 = .ok (.if_icmp .ge 5, 3) := by decide +kernel
theorem d_Mo_can_183 : decode m_Mo_can.2.1 183 = .ok (.iconst 0, 1) := by decide +kernel
theorem d_Mo_can_184 : decode m_Mo_can.2.1 184 = .ok (.ireturn, 1) := by decide +kernel
theorem d_Mo_can_185 : decode m_Mo_can.2.1 185 = .ok (.aload_n 0, 1) := by decide +kernel
theorem d_Mo_can_186 : decode m_Mo_can.2.1 186 = .ok (.aload_n 0, 1) := by decide +kernel
theorem d_Mo_can_187 : decode m_Mo_can.2.1 187 = .ok (.getfield 124, 3) := by decide +kernel
theorem d_Mo_can_190 : decode m_Mo_can.2.1 190 = .ok (.invokevirtual 148, 3) := by decide +kernel
theorem d_Mo_can_193 : decode m_Mo_can.2.1 193 = .ok (.istore 6, 2) := by decide +kernel
theorem d_Mo_can_195 : decode m_Mo_can.2.1 195 = .ok (.iload_n 3, 1) := by decide +kernel
theorem d_Mo_can_196 : decode m_Mo_can.2.1 196 = .ok (.invokestatic 58, 3) := by decide +kernel
theorem d_Mo_can_199 : decode m_Mo_can.2.1 199 = .ok (.ifCond .eq 31, 3) := by decide +kernel
theorem d_Mo_can_202 : decode m_Mo_can.2.1 202 = .ok (.iload 6, 2) := by decide +kernel
theorem d_Mo_can_204 : decode m_Mo_can.2.1 204 = .ok (.iload_n 3, 1) := by decide +kernel
theorem d_Mo_can_205 : decode m_Mo_can.2.1 205 = .ok (.sipush 172, 3) := by decide +kernel
theorem d_Mo_can_208 : decode m_Mo_can.2.1 208 = .ok (.if_icmp .ne 7, 3) := by decide +kernel
theorem d_Mo_can_211 : decode m_Mo_can.2.1 211 = .ok (.iconst 1, 1) := by decide +kernel
theorem d_Mo_can_212 : decode m_Mo_can.2.1 212 = .ok (.goto 15, 3) := by decide +kernel
theorem d_Mo_can_215 : decode m_Mo_can.2.1 215 = .ok (.iload_n 3, 1) := by decide +kernel
theorem d_Mo_can_216 : decode m_Mo_can.2.1 216 = .ok (.sipush 176, 3) := by decide +kernel
theorem d_Mo_can_219 : decode m_Mo_can.2.1 219 = .ok (.if_icmp .ne 7, 3) := by decide +kernel
theorem d_Mo_can_222 : decode m_Mo_can.2.1 222 = .ok (.iconst 2, 1) := by decide +kernel
theorem d_Mo_can_223 : decode m_Mo_can.2.1 223 = .ok (.goto 4, 3) := by decide +kernel
theorem d_Mo_can_226 : decode m_Mo_can.2.1 226 = .ok (.iconst 0, 1) := by decide +kernel
theorem d_Mo_can_227 : decode m_Mo_can.2.1 227 = .ok (.if_icmp .ne 7, 3) := by decide +kernel
theorem d_Mo_can_230 : decode m_Mo_can.2.1 230 = .ok (.iconst 1, 1) := by decide +kernel
theorem d_Mo_can_231 : decode m_Mo_can.2.1 231 = .ok (.goto 4, 3) := by decide +kernel
theorem d_Mo_can_234 : decode m_Mo_can.2.1 234 = .ok (.iconst 0, 1) := by decide +kernel
theorem d_Mo_can_235 : decode m_Mo_can.2.1 235 = .ok (.ireturn, 1) := by decide +kernel
theorem d_Mo_begin_0 : decode m_Mo_begin.2.1 0 = .ok (.aload_n 0, 1) := by decide +kernel
theorem d_Mo_begin_1 : decode m_Mo_begin.2.1 1 = .ok (.getfield 28, 3) := by decide +kernel
theorem d_Mo_begin_4 : decode m_Mo_begin.2.1 4 = .ok (.iload_n 1, 1) := by decide +kernel
theorem d_Mo_begin_5 : decode m_Mo_begin.2.1 5 = .ok (.iconst 0, 1) := by decide +kernel
theorem d_Mo_begin_6 : decode m_Mo_begin.2.1 6 = .ok (.iastore, 1) := by decide +kernel
theorem d_Mo_begin_7 : decode m_Mo_begin.2.1 7 = .ok (.iconst 0, 1) := by decide +kernel
theorem d_Mo_begin_8 : decode m_Mo_begin.2.1 8 = .ok (.istore_n 2, 1) := by decide +kernel
theorem d_Mo_begin_9 : decode m_Mo_begin.2.1 9 = .ok (.iload_n 2, 1) := by decide +kernel
theorem d_Mo_begin_10 : decode m_Mo_begin.2.1 10 = .ok (.bipush 6, 2) := by decide +kernel
theorem d_Mo_begin_12 : decode m_Mo_begin.2.1 12 = .ok (.if_icmp .ge 57, 3) := by decide +kernel
theorem d_Mo_begin_15 : decode m_Mo_begin.2.1 15 = .ok (.aload_n 0, 1) := by decide +kernel
theorem d_Mo_begin_16 : decode m_Mo_begin.2.1 16 = .ok (.getfield 16, 3) := by decide +kernel
theorem d_Mo_begin_19 : decode m_Mo_begin.2.1 19 = .ok (.bipush 6, 2) := by decide +kernel
theorem d_Mo_begin_21 : decode m_Mo_begin.2.1 21 = .ok (.iload_n 1, 1) := by decide +kernel
theorem d_Mo_begin_22 : decode m_Mo_begin.2.1 22 = .ok (.imul, 1) := by decide +kernel
theorem d_Mo_begin_23 : decode m_Mo_begin.2.1 23 = .ok (.iload_n 2, 1) := by decide +kernel
theorem d_Mo_begin_24 : decode m_Mo_begin.2.1 24 = .ok (.iadd, 1) := by decide +kernel
theorem d_Mo_begin_25 : decode m_Mo_begin.2.1 25 = .ok (.iload_n 2, 1) := by decide +kernel
theorem d_Mo_begin_26 : decode m_Mo_begin.2.1 26 = .ok (.aload_n 0, 1) := by decide +kernel
theorem d_Mo_begin_27 : decode m_Mo_begin.2.1 27 = .ok (.getfield 127, 3) := by decide +kernel
theorem d_Mo_begin_30 : decode m_Mo_begin.2.1 30 = .ok (.if_icmp .ge 19, 3) := by decide +kernel
theorem d_Mo_begin_33 : decode m_Mo_begin.2.1 33 = .ok (.aload_n 0, 1) := by decide +kernel
theorem d_Mo_begin_34 : decode m_Mo_begin.2.1 34 = .ok (.getfield 13, 3) := by decide +kernel
theorem d_Mo_begin_37 : decode m_Mo_begin.2.1 37 = .ok (.aload_n 0, 1) := by decide +kernel
theorem d_Mo_begin_38 : decode m_Mo_begin.2.1 38 = .ok (.getfield 124, 3) := by decide +kernel
theorem d_Mo_begin_41 : decode m_Mo_begin.2.1 41 = .ok (.iconst 1, 1) := by decide +kernel
theorem d_Mo_begin_42 : decode m_Mo_begin.2.1 42 = .ok (.iadd, 1) := by decide +kernel
theorem d_Mo_begin_43 : decode m_Mo_begin.2.1 43 = .ok (.iload_n 2, 1) := by decide +kernel
theorem d_Mo_begin_44 : decode m_Mo_begin.2.1 44 = .ok (.iadd, 1) := by decide +kernel
theorem d_Mo_begin_45 : decode m_Mo_begin.2.1 45 = .ok (.iaload, 1) := by decide +kernel
theorem d_Mo_begin_46 : decode m_Mo_begin.2.1 46 = .ok (.goto 4, 3) := by decide +kernel
theorem d_Mo_begin_49 : decode m_Mo_begin.2.1 49 = .ok (.iconst 0, 1) := by decide +kernel
theorem d_Mo_begin_50 : decode m_Mo_begin.2.1 50 = .ok (.iastore, 1) := by decide +kernel
theorem d_Mo_begin_51 : decode m_Mo_begin.2.1 51 = .ok (.aload_n 0, 1) := by decide +kernel
theorem d_Mo_begin_52 : decode m_Mo_begin.2.1 52 = .ok (.getfield 19, 3) := by decide +kernel
theorem d_Mo_begin_55 : decode m_Mo_begin.2.1 55 = .ok (.bipush 6, 2) := by decide +kernel
theorem d_Mo_begin_57 : decode m_Mo_begin.2.1 57 = .ok (.iload_n 1, 1) := by decide +kernel
theorem d_Mo_begin_58 : decode m_Mo_begin.2.1 58 = .ok (.imul, 1) := by decide +kernel
theorem d_Mo_begin_59 : decode m_Mo_begin.2.1 59 = .ok (.iload_n 2, 1) := by decide +kernel
theorem d_Mo_begin_60 : decode m_Mo_begin.2.1 60 = .ok (.iadd, 1) := by decide +kernel
theorem d_Mo_begin_61 : decode m_Mo_begin.2.1 61 = .ok (.iconst 0, 1) := by decide +kernel
theorem d_Mo_begin_62 : decode m_Mo_begin.2.1 62 = .ok (.iastore, 1) := by decide +kernel
theorem d_Mo_begin_63 : decode m_Mo_begin.2.1 63 = .ok (.iinc 2 1, 3) := by decide +kernel
theorem d_Mo_begin_66 : decode m_Mo_begin.2.1 66 = .ok (.goto (-57), 3) := by decide +kernel
theorem d_Mo_begin_69 : decode m_Mo_begin.2.1 69 = .ok (.return_, 1) := by decide +kernel
theorem d_Mo_push_0 : decode m_Mo_push.2.1 0 = .ok (.aload_n 0, 1) := by decide +kernel
theorem d_Mo_push_1 : decode m_Mo_push.2.1 1 = .ok (.getfield 22, 3) := by decide +kernel
theorem d_Mo_push_4 : decode m_Mo_push.2.1 4 = .ok (.bipush 6, 2) := by decide +kernel
theorem d_Mo_push_6 : decode m_Mo_push.2.1 6 = .ok (.iload_n 1, 1) := by decide +kernel
theorem d_Mo_push_7 : decode m_Mo_push.2.1 7 = .ok (.imul, 1) := by decide +kernel
theorem d_Mo_push_8 : decode m_Mo_push.2.1 8 = .ok (.aload_n 0, 1) := by decide +kernel
theorem d_Mo_push_9 : decode m_Mo_push.2.1 9 = .ok (.getfield 28, 3) := by decide +kernel
theorem d_Mo_push_12 : decode m_Mo_push.2.1 12 = .ok (.iload_n 1, 1) := by decide +kernel
theorem d_Mo_push_13 : decode m_Mo_push.2.1 13 = .ok (.iaload, 1) := by decide +kernel
theorem d_Mo_push_14 : decode m_Mo_push.2.1 14 = .ok (.iadd, 1) := by decide +kernel
theorem d_Mo_push_15 : decode m_Mo_push.2.1 15 = .ok (.iload_n 2, 1) := by decide +kernel
theorem d_Mo_push_16 : decode m_Mo_push.2.1 16 = .ok (.iastore, 1) := by decide +kernel
theorem d_Mo_push_17 : decode m_Mo_push.2.1 17 = .ok (.aload_n 0, 1) := by decide +kernel
theorem d_Mo_push_18 : decode m_Mo_push.2.1 18 = .ok (.getfield 25, 3) := by decide +kernel
theorem d_Mo_push_21 : decode m_Mo_push.2.1 21 = .ok (.bipush 6, 2) := by decide +kernel
theorem d_Mo_push_23 : decode m_Mo_push.2.1 23 = .ok (.iload_n 1, 1) := by decide +kernel
theorem d_Mo_push_24 : decode m_Mo_push.2.1 24 = .ok (.imul, 1) := by decide +kernel
theorem d_Mo_push_25 : decode m_Mo_push.2.1 25 = .ok (.aload_n 0, 1) := by decide +kernel
theorem d_Mo_push_26 : decode m_Mo_push.2.1 26 = .ok (.getfield 28, 3) := by decide +kernel
theorem d_Mo_push_29 : decode m_Mo_push.2.1 29 = .ok (.iload_n 1, 1) := by decide +kernel
theorem d_Mo_push_30 : decode m_Mo_push.2.1 30 = .ok (.iaload, 1) := by decide +kernel
theorem d_Mo_push_31 : decode m_Mo_push.2.1 31 = .ok (.iadd, 1) := by decide +kernel
theorem d_Mo_push_32 : decode m_Mo_push.2.1 32 = .ok (.iload_n 3, 1) := by decide +kernel
theorem d_Mo_push_33 : decode m_Mo_push.2.1 33 = .ok (.iastore, 1) := by decide +kernel
theorem d_Mo_push_34 : decode m_Mo_push.2.1 34 = .ok (.aload_n 0, 1) := by decide +kernel
theorem d_Mo_push_35 : decode m_Mo_push.2.1 35 = .ok (.getfield 28, 3) := by decide +kernel
theorem d_Mo_push_38 : decode m_Mo_push.2.1 38 = .ok (.iload_n 1, 1) := by decide +kernel
theorem d_Mo_push_39 : decode m_Mo_push.2.1 39 = .ok (.aload_n 0, 1) := by decide +kernel
theorem d_Mo_push_40 : decode m_Mo_push.2.1 40 = .ok (.getfield 28, 3) := by decide +kernel
theorem d_Mo_push_43 : decode m_Mo_push.2.1 43 = .ok (.iload_n 1, 1) := by decide +kernel
theorem d_Mo_push_44 : decode m_Mo_push.2.1 44 = .ok (.iaload, 1) := by decide +kernel
theorem d_Mo_push_45 : decode m_Mo_push.2.1 45 = .ok (.iconst 1, 1) := by decide +kernel
theorem d_Mo_push_46 : decode m_Mo_push.2.1 46 = .ok (.iadd, 1) := by decide +kernel
theorem d_Mo_push_47 : decode m_Mo_push.2.1 47 = .ok (.iastore, 1) := by decide +kernel
theorem d_Mo_push_48 : decode m_Mo_push.2.1 48 = .ok (.return_, 1) := by decide +kernel
theorem d_Mo_become_0 : decode m_Mo_become.2.1 0 = .ok (.iconst 0, 1) := by decide +kernel
theorem d_Mo_become_1 : decode m_Mo_become.2.1 1 = .ok (.istore_n 2, 1) := by decide +kernel
theorem d_Mo_become_2 : decode m_Mo_become.2.1 2 = .ok (.iload_n 2, 1) := by decide +kernel
theorem d_Mo_become_3 : decode m_Mo_become.2.1 3 = .ok (.aload_n 0, 1) := by decide +kernel
theorem d_Mo_become_4 : decode m_Mo_become.2.1 4 = .ok (.getfield 133, 3) := by decide +kernel
theorem d_Mo_become_7 : decode m_Mo_become.2.1 7 = .ok (.if_icmp .ge 25, 3) := by decide +kernel
theorem d_Mo_become_10 : decode m_Mo_become.2.1 10 = .ok (.aload_n 0, 1) := by decide +kernel
theorem d_Mo_become_11 : decode m_Mo_become.2.1 11 = .ok (.getfield 16, 3) := by decide +kernel
theorem d_Mo_become_14 : decode m_Mo_become.2.1 14 = .ok (.iload_n 2, 1) := by decide +kernel
theorem d_Mo_become_15 : decode m_Mo_become.2.1 15 = .ok (.aload_n 0, 1) := by decide +kernel
theorem d_Mo_become_16 : decode m_Mo_become.2.1 16 = .ok (.getfield 13, 3) := by decide +kernel
theorem d_Mo_become_19 : decode m_Mo_become.2.1 19 = .ok (.iload_n 1, 1) := by decide +kernel
theorem d_Mo_become_20 : decode m_Mo_become.2.1 20 = .ok (.iconst 1, 1) := by decide +kernel
theorem d_Mo_become_21 : decode m_Mo_become.2.1 21 = .ok (.iadd, 1) := by decide +kernel
theorem d_Mo_become_22 : decode m_Mo_become.2.1 22 = .ok (.iload_n 2, 1) := by decide +kernel
theorem d_Mo_become_23 : decode m_Mo_become.2.1 23 = .ok (.iadd, 1) := by decide +kernel
theorem d_Mo_become_24 : decode m_Mo_become.2.1 24 = .ok (.iaload, 1) := by decide +kernel
theorem d_Mo_become_25 : decode m_Mo_become.2.1 25 = .ok (.iastore, 1) := by decide +kernel
theorem d_Mo_become_26 : decode m_Mo_become.2.1 26 = .ok (.iinc 2 1, 3) := by decide +kernel
theorem d_Mo_become_29 : decode m_Mo_become.2.1 29 = .ok (.goto (-27), 3) := by decide +kernel
theorem d_Mo_become_32 : decode m_Mo_become.2.1 32 = .ok (.aload_n 0, 1) := by decide +kernel
theorem d_Mo_become_33 : decode m_Mo_become.2.1 33 = .ok (.getfield 28, 3) := by decide +kernel
theorem d_Mo_become_36 : decode m_Mo_become.2.1 36 = .ok (.iconst 0, 1) := by decide +kernel
theorem d_Mo_become_37 : decode m_Mo_become.2.1 37 = .ok (.aload_n 0, 1) := by decide +kernel
theorem d_Mo_become_38 : decode m_Mo_become.2.1 38 = .ok (.getfield 13, 3) := by decide +kernel
theorem d_Mo_become_41 : decode m_Mo_become.2.1 41 = .ok (.iload_n 1, 1) := by decide +kernel
theorem d_Mo_become_42 : decode m_Mo_become.2.1 42 = .ok (.iconst 1, 1) := by decide +kernel
theorem d_Mo_become_43 : decode m_Mo_become.2.1 43 = .ok (.iadd, 1) := by decide +kernel
theorem d_Mo_become_44 : decode m_Mo_become.2.1 44 = .ok (.aload_n 0, 1) := by decide +kernel
theorem d_Mo_become_45 : decode m_Mo_become.2.1 45 = .ok (.getfield 133, 3) := by decide +kernel
theorem d_Mo_become_48 : decode m_Mo_become.2.1 48 = .ok (.iadd, 1) := by decide +kernel
theorem d_Mo_become_49 : decode m_Mo_become.2.1 49 = .ok (.iaload, 1) := by decide +kernel
theorem d_Mo_become_50 : decode m_Mo_become.2.1 50 = .ok (.iastore, 1) := by decide +kernel
theorem d_Mo_become_51 : decode m_Mo_become.2.1 51 = .ok (.iconst 0, 1) := by decide +kernel
theorem d_Mo_become_52 : decode m_Mo_become.2.1 52 = .ok (.istore_n 2, 1) := by decide +kernel
theorem d_Mo_become_53 : decode m_Mo_become.2.1 53 = .ok (.iload_n 2, 1) := by decide +kernel
theorem d_Mo_become_54 : decode m_Mo_become.2.1 54 = .ok (.aload_n 0, 1) := by decide +kernel
theorem d_Mo_become_55 : decode m_Mo_become.2.1 55 = .ok (.getfield 28, 3) := by decide +kernel
theorem d_Mo_become_58 : decode m_Mo_become.2.1 58 = .ok (.iconst 0, 1) := by decide +kernel
theorem d_Mo_become_59 : decode m_Mo_become.2.1 59 = .ok (.iaload, 1) := by decide +kernel
theorem d_Mo_become_60 : decode m_Mo_become.2.1 60 = .ok (.if_icmp .ge 30, 3) := by decide +kernel
theorem d_Mo_become_63 : decode m_Mo_become.2.1 63 = .ok (.aload_n 0, 1) := by decide +kernel
theorem d_Mo_become_64 : decode m_Mo_become.2.1 64 = .ok (.getfield 22, 3) := by decide +kernel
theorem d_Mo_become_67 : decode m_Mo_become.2.1 67 = .ok (.iload_n 2, 1) := by decide +kernel
theorem d_Mo_become_68 : decode m_Mo_become.2.1 68 = .ok (.aload_n 0, 1) := by decide +kernel
theorem d_Mo_become_69 : decode m_Mo_become.2.1 69 = .ok (.getfield 13, 3) := by decide +kernel
theorem d_Mo_become_72 : decode m_Mo_become.2.1 72 = .ok (.iload_n 1, 1) := by decide +kernel
theorem d_Mo_become_73 : decode m_Mo_become.2.1 73 = .ok (.iconst 2, 1) := by decide +kernel
theorem d_Mo_become_74 : decode m_Mo_become.2.1 74 = .ok (.iadd, 1) := by decide +kernel
theorem d_Mo_become_75 : decode m_Mo_become.2.1 75 = .ok (.aload_n 0, 1) := by decide +kernel
theorem d_Mo_become_76 : decode m_Mo_become.2.1 76 = .ok (.getfield 133, 3) := by decide +kernel
theorem d_Mo_become_79 : decode m_Mo_become.2.1 79 = .ok (.iadd, 1) := by decide +kernel
theorem d_Mo_become_80 : decode m_Mo_become.2.1 80 = .ok (.iload_n 2, 1) := by decide +kernel
theorem d_Mo_become_81 : decode m_Mo_become.2.1 81 = .ok (.iadd, 1) := by decide +kernel
theorem d_Mo_become_82 : decode m_Mo_become.2.1 82 = .ok (.iaload, 1) := by decide +kernel
theorem d_Mo_become_83 : decode m_Mo_become.2.1 83 = .ok (.iastore, 1) := by decide +kernel
theorem d_Mo_become_84 : decode m_Mo_become.2.1 84 = .ok (.iinc 2 1, 3) := by decide +kernel
theorem d_Mo_become_87 : decode m_Mo_become.2.1 87 = .ok (.goto (-34), 3) := by decide +kernel
theorem d_Mo_become_90 : decode m_Mo_become.2.1 90 = .ok (.aload_n 0, 1) := by decide +kernel
theorem d_Mo_become_91 : decode m_Mo_become.2.1 91 = .ok (.iconst 1, 1) := by decide +kernel
theorem d_Mo_become_92 : decode m_Mo_become.2.1 92 = .ok (.putfield 163, 3) := by decide +kernel
theorem d_Mo_become_95 : decode m_Mo_become.2.1 95 = .ok (.return_, 1) := by decide +kernel
theorem d_Mo_fits_0 : decode m_Mo_fits.2.1 0 = .ok (.aload_n 0, 1) := by decide +kernel
theorem d_Mo_fits_1 : decode m_Mo_fits.2.1 1 = .ok (.getfield 28, 3) := by decide +kernel
theorem d_Mo_fits_4 : decode m_Mo_fits.2.1 4 = .ok (.iconst 0, 1) := by decide +kernel
theorem d_Mo_fits_5 : decode m_Mo_fits.2.1 5 = .ok (.iaload, 1) := by decide +kernel
theorem d_Mo_fits_6 : decode m_Mo_fits.2.1 6 = .ok (.aload_n 0, 1) := by decide +kernel
theorem d_Mo_fits_7 : decode m_Mo_fits.2.1 7 = .ok (.getfield 13, 3) := by decide +kernel
theorem d_Mo_fits_10 : decode m_Mo_fits.2.1 10 = .ok (.iload_n 1, 1) := by decide +kernel
theorem d_Mo_fits_11 : decode m_Mo_fits.2.1 11 = .ok (.iconst 1, 1) := by decide +kernel
theorem d_Mo_fits_12 : decode m_Mo_fits.2.1 12 = .ok (.iadd, 1) := by decide +kernel
theorem d_Mo_fits_13 : decode m_Mo_fits.2.1 13 = .ok (.aload_n 0, 1) := by decide +kernel
theorem d_Mo_fits_14 : decode m_Mo_fits.2.1 14 = .ok (.getfield 133, 3) := by decide +kernel
theorem d_Mo_fits_17 : decode m_Mo_fits.2.1 17 = .ok (.iadd, 1) := by decide +kernel
theorem d_Mo_fits_18 : decode m_Mo_fits.2.1 18 = .ok (.iaload, 1) := by decide +kernel
theorem d_Mo_fits_19 : decode m_Mo_fits.2.1 19 = .ok (.if_icmp .ne 7, 3) := by decide +kernel
theorem d_Mo_fits_22 : decode m_Mo_fits.2.1 22 = .ok (.iconst 1, 1) := by decide +kernel
theorem d_Mo_fits_23 : decode m_Mo_fits.2.1 23 = .ok (.goto 4, 3) := by decide +kernel
theorem d_Mo_fits_26 : decode m_Mo_fits.2.1 26 = .ok (.iconst 0, 1) := by decide +kernel
theorem d_Mo_fits_27 : decode m_Mo_fits.2.1 27 = .ok (.istore_n 2, 1) := by decide +kernel
theorem d_Mo_fits_28 : decode m_Mo_fits.2.1 28 = .ok (.iconst 0, 1) := by decide +kernel
theorem d_Mo_fits_29 : decode m_Mo_fits.2.1 29 = .ok (.istore_n 3, 1) := by decide +kernel
theorem d_Mo_fits_30 : decode m_Mo_fits.2.1 30 = .ok (.iload_n 3, 1) := by decide +kernel
theorem d_Mo_fits_31 : decode m_Mo_fits.2.1 31 = .ok (.aload_n 0, 1) := by decide +kernel
theorem d_Mo_fits_32 : decode m_Mo_fits.2.1 32 = .ok (.getfield 133, 3) := by decide +kernel
theorem d_Mo_fits_35 : decode m_Mo_fits.2.1 35 = .ok (.if_icmp .ge 54, 3) := by decide +kernel
theorem d_Mo_fits_38 : decode m_Mo_fits.2.1 38 = .ok (.iload_n 2, 1) := by decide +kernel
theorem d_Mo_fits_39 : decode m_Mo_fits.2.1 39 = .ok (.ifCond .eq 42, 3) := by decide +kernel
theorem d_Mo_fits_42 : decode m_Mo_fits.2.1 42 = .ok (.aload_n 0, 1) := by decide +kernel
theorem d_Mo_fits_43 : decode m_Mo_fits.2.1 43 = .ok (.getfield 13, 3) := by decide +kernel
theorem d_Mo_fits_46 : decode m_Mo_fits.2.1 46 = .ok (.iload_n 1, 1) := by decide +kernel
theorem d_Mo_fits_47 : decode m_Mo_fits.2.1 47 = .ok (.iconst 1, 1) := by decide +kernel
theorem d_Mo_fits_48 : decode m_Mo_fits.2.1 48 = .ok (.iadd, 1) := by decide +kernel
theorem d_Mo_fits_49 : decode m_Mo_fits.2.1 49 = .ok (.iload_n 3, 1) := by decide +kernel
theorem d_Mo_fits_50 : decode m_Mo_fits.2.1 50 = .ok (.iadd, 1) := by decide +kernel
theorem d_Mo_fits_51 : decode m_Mo_fits.2.1 51 = .ok (.iaload, 1) := by decide +kernel
theorem d_Mo_fits_52 : decode m_Mo_fits.2.1 52 = .ok (.ifCond .eq 25, 3) := by decide +kernel
theorem d_Mo_fits_55 : decode m_Mo_fits.2.1 55 = .ok (.aload_n 0, 1) := by decide +kernel
theorem d_Mo_fits_56 : decode m_Mo_fits.2.1 56 = .ok (.getfield 16, 3) := by decide +kernel
theorem d_Mo_fits_59 : decode m_Mo_fits.2.1 59 = .ok (.iload_n 3, 1) := by decide +kernel
theorem d_Mo_fits_60 : decode m_Mo_fits.2.1 60 = .ok (.iaload, 1) := by decide +kernel
theorem d_Mo_fits_61 : decode m_Mo_fits.2.1 61 = .ok (.aload_n 0, 1) := by decide +kernel
theorem d_Mo_fits_62 : decode m_Mo_fits.2.1 62 = .ok (.getfield 13, 3) := by decide +kernel
theorem d_Mo_fits_65 : decode m_Mo_fits.2.1 65 = .ok (.iload_n 1, 1) := by decide +kernel
theorem d_Mo_fits_66 : decode m_Mo_fits.2.1 66 = .ok (.iconst 1, 1) := by decide +kernel
theorem d_Mo_fits_67 : decode m_Mo_fits.2.1 67 = .ok (.iadd, 1) := by decide +kernel
theorem d_Mo_fits_68 : decode m_Mo_fits.2.1 68 = .ok (.iload_n 3, 1) := by decide +kernel
theorem d_Mo_fits_69 : decode m_Mo_fits.2.1 69 = .ok (.iadd, 1) := by decide +kernel
theorem d_Mo_fits_70 : decode m_Mo_fits.2.1 70 = .ok (.iaload, 1) := by decide +kernel
theorem d_Mo_fits_71 : decode m_Mo_fits.2.1 71 = .ok (.invokestatic 160, 3) := by decide +kernel
theorem d_Mo_fits_74 : decode m_Mo_fits.2.1 74 = .ok (.ifCond .eq 7, 3) := by decide +kernel
theorem d_Mo_fits_77 : decode m_Mo_fits.2.1 77 = .ok (.iconst 1, 1) := by decide +kernel
theorem d_Mo_fits_78 : decode m_Mo_fits.2.1 78 = .ok (.goto 4, 3) := by decide +kernel
theorem d_Mo_fits_81 : decode m_Mo_fits.2.1 81 = .ok (.iconst 0, 1) := by decide +kernel
theorem d_Mo_fits_82 : decode m_Mo_fits.2.1 82 = .ok (.istore_n 2, 1) := by decide +kernel
theorem d_Mo_fits_83 : decode m_Mo_fits.2.1 83 = .ok (.iinc 3 1, 3) := by decide +kernel
theorem d_Mo_fits_86 : decode m_Mo_fits.2.1 86 = .ok (.goto (-56), 3) := by decide +kernel
theorem d_Mo_fits_89 : decode m_Mo_fits.2.1 89 = .ok (.iconst 0, 1) := by decide +kernel
theorem d_Mo_fits_90 : decode m_Mo_fits.2.1 90 = .ok (.istore_n 3, 1) := by decide +kernel
theorem d_Mo_fits_91 : decode m_Mo_fits.2.1 91 = .ok (.iload_n 3, 1) := by decide +kernel
theorem d_Mo_fits_92 : decode m_Mo_fits.2.1 92 = .ok (.aload_n 0, 1) := by decide +kernel
theorem d_Mo_fits_93 : decode m_Mo_fits.2.1 93 = .ok (.getfield 28, 3) := by decide +kernel
theorem d_Mo_fits_96 : decode m_Mo_fits.2.1 96 = .ok (.iconst 0, 1) := by decide +kernel
theorem d_Mo_fits_97 : decode m_Mo_fits.2.1 97 = .ok (.iaload, 1) := by decide +kernel
theorem d_Mo_fits_98 : decode m_Mo_fits.2.1 98 = .ok (.if_icmp .ge 38, 3) := by decide +kernel
theorem d_Mo_fits_101 : decode m_Mo_fits.2.1 101 = .ok (.iload_n 2, 1) := by decide +kernel
theorem d_Mo_fits_102 : decode m_Mo_fits.2.1 102 = .ok (.ifCond .eq 34, 3) := by decide +kernel
theorem d_Mo_fits_105 : decode m_Mo_fits.2.1 105 = .ok (.aload_n 0, 1) := by decide +kernel
theorem d_Mo_fits_106 : decode m_Mo_fits.2.1 106 = .ok (.getfield 22, 3) := by decide +kernel
theorem d_Mo_fits_109 : decode m_Mo_fits.2.1 109 = .ok (.iload_n 3, 1) := by decide +kernel
theorem d_Mo_fits_110 : decode m_Mo_fits.2.1 110 = .ok (.iaload, 1) := by decide +kernel
theorem d_Mo_fits_111 : decode m_Mo_fits.2.1 111 = .ok (.aload_n 0, 1) := by decide +kernel
theorem d_Mo_fits_112 : decode m_Mo_fits.2.1 112 = .ok (.getfield 13, 3) := by decide +kernel
theorem d_Mo_fits_115 : decode m_Mo_fits.2.1 115 = .ok (.iload_n 1, 1) := by decide +kernel
theorem d_Mo_fits_116 : decode m_Mo_fits.2.1 116 = .ok (.iconst 2, 1) := by decide +kernel
theorem d_Mo_fits_117 : decode m_Mo_fits.2.1 117 = .ok (.iadd, 1) := by decide +kernel
theorem d_Mo_fits_118 : decode m_Mo_fits.2.1 118 = .ok (.aload_n 0, 1) := by decide +kernel
theorem d_Mo_fits_119 : decode m_Mo_fits.2.1 119 = .ok (.getfield 133, 3) := by decide +kernel
theorem d_Mo_fits_122 : decode m_Mo_fits.2.1 122 = .ok (.iadd, 1) := by decide +kernel
theorem d_Mo_fits_123 : decode m_Mo_fits.2.1 123 = .ok (.iload_n 3, 1) := by decide +kernel
theorem d_Mo_fits_124 : decode m_Mo_fits.2.1 124 = .ok (.iadd, 1) := by decide +kernel
theorem d_Mo_fits_125 : decode m_Mo_fits.2.1 125 = .ok (.iaload, 1) := by decide +kernel
theorem d_Mo_fits_126 : decode m_Mo_fits.2.1 126 = .ok (.invokestatic 160, 3) := by decide +kernel
theorem d_Mo_fits_129 : decode m_Mo_fits.2.1 129 = .ok (.istore_n 2, 1) := by decide +kernel
theorem d_Mo_fits_130 : decode m_Mo_fits.2.1 130 = .ok (.iinc 3 1, 3) := by decide +kernel
theorem d_Mo_fits_133 : decode m_Mo_fits.2.1 133 = .ok (.goto (-42), 3) := by decide +kernel
theorem d_Mo_fits_136 : decode m_Mo_fits.2.1 136 = .ok (.iload_n 2, 1) := by decide +kernel
theorem d_Mo_fits_137 : decode m_Mo_fits.2.1 137 = .ok (.ireturn, 1) := by decide +kernel
theorem d_Mo_pass_0 : decode m_Mo_pass.2.1 0 = .ok (.aload_n 0, 1) := by decide +kernel
theorem d_Mo_pass_1 : decode m_Mo_pass.2.1 1 = .ok (.getfield 13, 3) := by decide +kernel
theorem d_Mo_pass_4 : decode m_Mo_pass.2.1 4 = .ok (.aload_n 0, 1) := by decide +kernel
theorem d_Mo_pass_5 : decode m_Mo_pass.2.1 5 = .ok (.getfield 139, 3) := by decide +kernel
theorem d_Mo_pass_8 : decode m_Mo_pass.2.1 8 = .ok (.iload_n 1, 1) := by decide +kernel
theorem d_Mo_pass_9 : decode m_Mo_pass.2.1 9 = .ok (.iadd, 1) := by decide +kernel
theorem d_Mo_pass_10 : decode m_Mo_pass.2.1 10 = .ok (.iaload, 1) := by decide +kernel
theorem d_Mo_pass_11 : decode m_Mo_pass.2.1 11 = .ok (.istore_n 2, 1) := by decide +kernel
theorem d_Mo_pass_12 : decode m_Mo_pass.2.1 12 = .ok (.aload_n 0, 1) := by decide +kernel
theorem d_Mo_pass_13 : decode m_Mo_pass.2.1 13 = .ok (.iload_n 1, 1) := by decide +kernel
theorem d_Mo_pass_14 : decode m_Mo_pass.2.1 14 = .ok (.invokevirtual 154, 3) := by decide +kernel
theorem d_Mo_pass_17 : decode m_Mo_pass.2.1 17 = .ok (.istore_n 3, 1) := by decide +kernel
theorem d_Mo_pass_18 : decode m_Mo_pass.2.1 18 = .ok (.aload_n 0, 1) := by decide +kernel
theorem d_Mo_pass_19 : decode m_Mo_pass.2.1 19 = .ok (.getfield 28, 3) := by decide +kernel
theorem d_Mo_pass_22 : decode m_Mo_pass.2.1 22 = .ok (.iconst 0, 1) := by decide +kernel
theorem d_Mo_pass_23 : decode m_Mo_pass.2.1 23 = .ok (.iaload, 1) := by decide +kernel
theorem d_Mo_pass_24 : decode m_Mo_pass.2.1 24 = .ok (.ifCond .le 19, 3) := by decide +kernel
theorem d_Mo_pass_27 : decode m_Mo_pass.2.1 27 = .ok (.aload_n 0, 1) := by decide +kernel
theorem d_Mo_pass_28 : decode m_Mo_pass.2.1 28 = .ok (.getfield 22, 3) := by decide +kernel
theorem d_Mo_pass_31 : decode m_Mo_pass.2.1 31 = .ok (.aload_n 0, 1) := by decide +kernel
theorem d_Mo_pass_32 : decode m_Mo_pass.2.1 32 = .ok (.getfield 28, 3) := by decide +kernel
theorem d_Mo_pass_35 : decode m_Mo_pass.2.1 35 = .ok (.iconst 0, 1) := by decide +kernel
theorem d_Mo_pass_36 : decode m_Mo_pass.2.1 36 = .ok (.iaload, 1) := by decide +kernel
theorem d_Mo_pass_37 : decode m_Mo_pass.2.1 37 = .ok (.iconst 1, 1) := by decide +kernel
theorem d_Mo_pass_38 : decode m_Mo_pass.2.1 38 = .ok (.isub, 1) := by decide +kernel
theorem d_Mo_pass_39 : decode m_Mo_pass.2.1 39 = .ok (.iaload, 1) := by decide +kernel
theorem d_Mo_pass_40 : decode m_Mo_pass.2.1 40 = .ok (.goto 4, 3) := by decide +kernel
theorem d_Mo_pass_43 : decode m_Mo_pass.2.1 43 = .ok (.iconst 0, 1) := by decide +kernel
theorem d_Mo_pass_44 : decode m_Mo_pass.2.1 44 = .ok (.istore 4, 2) := by decide +kernel
theorem d_Mo_pass_46 : decode m_Mo_pass.2.1 46 = .ok (.aload_n 0, 1) := by decide +kernel
theorem d_Mo_pass_47 : decode m_Mo_pass.2.1 47 = .ok (.getfield 28, 3) := by decide +kernel
theorem d_Mo_pass_50 : decode m_Mo_pass.2.1 50 = .ok (.iconst 0, 1) := by decide +kernel
theorem d_Mo_pass_51 : decode m_Mo_pass.2.1 51 = .ok (.iaload, 1) := by decide +kernel
theorem d_Mo_pass_52 : decode m_Mo_pass.2.1 52 = .ok (.iconst 1, 1) := by decide +kernel
theorem d_Mo_pass_53 : decode m_Mo_pass.2.1 53 = .ok (.if_icmp .le 19, 3) := by decide +kernel
theorem d_Mo_pass_56 : decode m_Mo_pass.2.1 56 = .ok (.aload_n 0, 1) := by decide +kernel
theorem d_Mo_pass_57 : decode m_Mo_pass.2.1 57 = .ok (.getfield 22, 3) := by decide +kernel
theorem d_Mo_pass_60 : decode m_Mo_pass.2.1 60 = .ok (.aload_n 0, 1) := by decide +kernel
theorem d_Mo_pass_61 : decode m_Mo_pass.2.1 61 = .ok (.getfield 28, 3) := by decide +kernel
theorem d_Mo_pass_64 : decode m_Mo_pass.2.1 64 = .ok (.iconst 0, 1) := by decide +kernel
theorem d_Mo_pass_65 : decode m_Mo_pass.2.1 65 = .ok (.iaload, 1) := by decide +kernel
theorem d_Mo_pass_66 : decode m_Mo_pass.2.1 66 = .ok (.iconst 2, 1) := by decide +kernel
theorem d_Mo_pass_67 : decode m_Mo_pass.2.1 67 = .ok (.isub, 1) := by decide +kernel
theorem d_Mo_pass_68 : decode m_Mo_pass.2.1 68 = .ok (.iaload, 1) := by decide +kernel
theorem d_Mo_pass_69 : decode m_Mo_pass.2.1 69 = .ok (.goto 4, 3) := by decide +kernel
theorem d_Mo_pass_72 : decode m_Mo_pass.2.1 72 = .ok (.iconst 0, 1) := by decide +kernel
theorem d_Mo_pass_73 : decode m_Mo_pass.2.1 73 = .ok (.istore 5, 2) := by decide +kernel
theorem d_Mo_pass_75 : decode m_Mo_pass.2.1 75 = .ok (.aload_n 0, 1) := by decide +kernel
theorem d_Mo_pass_76 : decode m_Mo_pass.2.1 76 = .ok (.getfield 28, 3) := by decide +kernel
theorem d_Mo_pass_79 : decode m_Mo_pass.2.1 79 = .ok (.iconst 0, 1) := by decide +kernel
theorem d_Mo_pass_80 : decode m_Mo_pass.2.1 80 = .ok (.aload_n 0, 1) := by decide +kernel
theorem d_Mo_pass_81 : decode m_Mo_pass.2.1 81 = .ok (.getfield 28, 3) := by decide +kernel
theorem d_Mo_pass_84 : decode m_Mo_pass.2.1 84 = .ok (.iconst 0, 1) := by decide +kernel
theorem d_Mo_pass_85 : decode m_Mo_pass.2.1 85 = .ok (.iaload, 1) := by decide +kernel
theorem d_Mo_pass_86 : decode m_Mo_pass.2.1 86 = .ok (.iload_n 3, 1) := by decide +kernel
theorem d_Mo_pass_87 : decode m_Mo_pass.2.1 87 = .ok (.isub, 1) := by decide +kernel
theorem d_Mo_pass_88 : decode m_Mo_pass.2.1 88 = .ok (.iastore, 1) := by decide +kernel
theorem d_Mo_pass_89 : decode m_Mo_pass.2.1 89 = .ok (.iload_n 2, 1) := by decide +kernel
theorem d_Mo_pass_90 : decode m_Mo_pass.2.1 90 = .ok (.sipush 184, 3) := by decide +kernel
theorem d_Mo_pass_93 : decode m_Mo_pass.2.1 93 = .ok (.if_icmp .ne 41, 3) := by decide +kernel
theorem d_Mo_pass_96 : decode m_Mo_pass.2.1 96 = .ok (.aload_n 0, 1) := by decide +kernel
theorem d_Mo_pass_97 : decode m_Mo_pass.2.1 97 = .ok (.iload_n 1, 1) := by decide +kernel
theorem d_Mo_pass_98 : decode m_Mo_pass.2.1 98 = .ok (.invokevirtual 157, 3) := by decide +kernel
theorem d_Mo_pass_101 : decode m_Mo_pass.2.1 101 = .ok (.ifCond .le 33, 3) := by decide +kernel
theorem d_Mo_pass_104 : decode m_Mo_pass.2.1 104 = .ok (.aload_n 0, 1) := by decide +kernel
theorem d_Mo_pass_105 : decode m_Mo_pass.2.1 105 = .ok (.iconst 0, 1) := by decide +kernel
theorem d_Mo_pass_106 : decode m_Mo_pass.2.1 106 = .ok (.aload_n 0, 1) := by decide +kernel
theorem d_Mo_pass_107 : decode m_Mo_pass.2.1 107 = .ok (.aload_n 0, 1) := by decide +kernel
theorem d_Mo_pass_108 : decode m_Mo_pass.2.1 108 = .ok (.aload_n 0, 1) := by decide +kernel
theorem d_Mo_pass_109 : decode m_Mo_pass.2.1 109 = .ok (.getfield 13, 3) := by decide +kernel
theorem d_Mo_pass_112 : decode m_Mo_pass.2.1 112 = .ok (.aload_n 0, 1) := by decide +kernel
theorem d_Mo_pass_113 : decode m_Mo_pass.2.1 113 = .ok (.getfield 139, 3) := by decide +kernel
theorem d_Mo_pass_116 : decode m_Mo_pass.2.1 116 = .ok (.iload_n 1, 1) := by decide +kernel
theorem d_Mo_pass_117 : decode m_Mo_pass.2.1 117 = .ok (.iadd, 1) := by decide +kernel
theorem d_Mo_pass_118 : decode m_Mo_pass.2.1 118 = .ok (.iconst 1, 1) := by decide +kernel
theorem d_Mo_pass_119 : decode m_Mo_pass.2.1 119 = .ok (.iadd, 1) := by decide +kernel
theorem d_Mo_pass_120 : decode m_Mo_pass.2.1 120 = .ok (.iaload, 1) := by decide +kernel
theorem d_Mo_pass_121 : decode m_Mo_pass.2.1 121 = .ok (.invokevirtual 121, 3) := by decide +kernel
theorem d_Mo_pass_124 : decode m_Mo_pass.2.1 124 = .ok (.invokevirtual 148, 3) := by decide +kernel
theorem d_Mo_pass_127 : decode m_Mo_pass.2.1 127 = .ok (.iconst 0, 1) := by decide +kernel
theorem d_Mo_pass_128 : decode m_Mo_pass.2.1 128 = .ok (.invokevirtual 166, 3) := by decide +kernel
theorem d_Mo_pass_131 : decode m_Mo_pass.2.1 131 = .ok (.goto 130, 3) := by decide +kernel
theorem d_Mo_pass_134 : decode m_Mo_pass.2.1 134 = .ok (.iload_n 2, 1) := by decide +kernel
theorem d_Mo_pass_135 : decode m_Mo_pass.2.1 135 = .ok (.bipush 25, 2) := by decide +kernel
theorem d_Mo_pass_137 : decode m_Mo_pass.2.1 137 = .ok (.if_icmp .ne 30, 3) := by decide +kernel
theorem d_Mo_pass_140 : decode m_Mo_pass.2.1 140 = .ok (.aload_n 0, 1) := by decide +kernel
theorem d_Mo_pass_141 : decode m_Mo_pass.2.1 141 = .ok (.iconst 0, 1) := by decide +kernel
theorem d_Mo_pass_142 : decode m_Mo_pass.2.1 142 = .ok (.aload_n 0, 1) := by decide +kernel
theorem d_Mo_pass_143 : decode m_Mo_pass.2.1 143 = .ok (.getfield 16, 3) := by decide +kernel
theorem d_Mo_pass_146 : decode m_Mo_pass.2.1 146 = .ok (.aload_n 0, 1) := by decide +kernel
theorem d_Mo_pass_147 : decode m_Mo_pass.2.1 147 = .ok (.getfield 13, 3) := by decide +kernel
theorem d_Mo_pass_150 : decode m_Mo_pass.2.1 150 = .ok (.aload_n 0, 1) := by decide +kernel
theorem d_Mo_pass_151 : decode m_Mo_pass.2.1 151 = .ok (.getfield 139, 3) := by decide +kernel
theorem d_Mo_pass_154 : decode m_Mo_pass.2.1 154 = .ok (.iload_n 1, 1) := by decide +kernel
theorem d_Mo_pass_155 : decode m_Mo_pass.2.1 155 = .ok (.iadd, 1) := by decide +kernel
theorem d_Mo_pass_156 : decode m_Mo_pass.2.1 156 = .ok (.iconst 1, 1) := by decide +kernel
theorem d_Mo_pass_157 : decode m_Mo_pass.2.1 157 = .ok (.iadd, 1) := by decide +kernel
theorem d_Mo_pass_158 : decode m_Mo_pass.2.1 158 = .ok (.iaload, 1) := by decide +kernel
theorem d_Mo_pass_159 : decode m_Mo_pass.2.1 159 = .ok (.iaload, 1) := by decide +kernel
theorem d_Mo_pass_160 : decode m_Mo_pass.2.1 160 = .ok (.iconst 0, 1) := by decide +kernel
theorem d_Mo_pass_161 : decode m_Mo_pass.2.1 161 = .ok (.invokevirtual 166, 3) := by decide +kernel
theorem d_Mo_pass_164 : decode m_Mo_pass.2.1 164 = .ok (.goto 97, 3) := by decide +kernel
theorem d_Mo_pass_167 : decode m_Mo_pass.2.1 167 = .ok (.iload_n 2, 1) := by decide +kernel
theorem d_Mo_pass_168 : decode m_Mo_pass.2.1 168 = .ok (.bipush 54, 2) := by decide +kernel
theorem d_Mo_pass_170 : decode m_Mo_pass.2.1 170 = .ok (.if_icmp .eq 9, 3) := by decide +kernel
