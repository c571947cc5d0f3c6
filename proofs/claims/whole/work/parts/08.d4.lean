theorem d_St_moveToPlace_12 : decode m_St_moveToPlace.2.1 12 = .ok (.invokevirtual 24, 3) := by decide +kernel
theorem d_St_moveToPlace_15 : decode m_St_moveToPlace.2.1 15 = .ok (.return_, 1) := by decide +kernel
theorem d_St_putPlace_0 : decode m_St_putPlace.2.1 0 = .ok (.aload_n 0, 1) := by decide +kernel
theorem d_St_putPlace_1 : decode m_St_putPlace.2.1 1 = .ok (.aload_n 0, 1) := by decide +kernel
theorem d_St_putPlace_2 : decode m_St_putPlace.2.1 2 = .ok (.getfield 9, 3) := by decide +kernel
theorem d_St_putPlace_5 : decode m_St_putPlace.2.1 5 = .ok (.iload_n 1, 1) := by decide +kernel
theorem d_St_putPlace_6 : decode m_St_putPlace.2.1 6 = .ok (.iaload, 1) := by decide +kernel
theorem d_St_putPlace_7 : decode m_St_putPlace.2.1 7 = .ok (.aload_n 0, 1) := by decide +kernel
theorem d_St_putPlace_8 : decode m_St_putPlace.2.1 8 = .ok (.getfield 15, 3) := by decide +kernel
theorem d_St_putPlace_11 : decode m_St_putPlace.2.1 11 = .ok (.iload_n 1, 1) := by decide +kernel
theorem d_St_putPlace_12 : decode m_St_putPlace.2.1 12 = .ok (.iaload, 1) := by decide +kernel
theorem d_St_putPlace_13 : decode m_St_putPlace.2.1 13 = .ok (.invokevirtual 39, 3) := by decide +kernel
theorem d_St_putPlace_16 : decode m_St_putPlace.2.1 16 = .ok (.return_, 1) := by decide +kernel
theorem d_St_allows_0 : decode m_St_allows.2.1 0 = .ok (.aload_n 1, 1) := by decide +kernel
theorem d_St_allows_1 : decode m_St_allows.2.1 1 = .ok (.aload_n 2, 1) := by decide +kernel
theorem d_St_allows_2 : decode m_St_allows.2.1 2 = .ok (.iload_n 3, 1) := by decide +kernel
theorem d_St_allows_3 : decode m_St_allows.2.1 3 = .ok (.invokevirtual 50, 3) := by decide +kernel
theorem d_St_allows_6 : decode m_St_allows.2.1 6 = .ok (.istore 4, 2) := by decide +kernel
theorem d_St_allows_8 : decode m_St_allows.2.1 8 = .ok (.aload_n 1, 1) := by decide +kernel
theorem d_St_allows_9 : decode m_St_allows.2.1 9 = .ok (.aload_n 2, 1) := by decide +kernel
theorem d_St_allows_10 : decode m_St_allows.2.1 10 = .ok (.iload_n 3, 1) := by decide +kernel
theorem d_St_allows_11 : decode m_St_allows.2.1 11 = .ok (.invokevirtual 56, 3) := by decide +kernel
theorem d_St_allows_14 : decode m_St_allows.2.1 14 = .ok (.istore 5, 2) := by decide +kernel
theorem d_St_allows_16 : decode m_St_allows.2.1 16 = .ok (.aload_n 0, 1) := by decide +kernel
theorem d_St_allows_17 : decode m_St_allows.2.1 17 = .ok (.getfield 28, 3) := by decide +kernel
theorem d_St_allows_20 : decode m_St_allows.2.1 20 = .ok (.iload 5, 2) := by decide +kernel
theorem d_St_allows_22 : decode m_St_allows.2.1 22 = .ok (.if_icmp .lt 70, 3) := by decide +kernel
theorem d_St_allows_25 : decode m_St_allows.2.1 25 = .ok (.aload_n 0, 1) := by decide +kernel
theorem d_St_allows_26 : decode m_St_allows.2.1 26 = .ok (.aload_n 1, 1) := by decide +kernel
theorem d_St_allows_27 : decode m_St_allows.2.1 27 = .ok (.aload_n 2, 1) := by decide +kernel
theorem d_St_allows_28 : decode m_St_allows.2.1 28 = .ok (.iload_n 3, 1) := by decide +kernel
theorem d_St_allows_29 : decode m_St_allows.2.1 29 = .ok (.iload 5, 2) := by decide +kernel
theorem d_St_allows_31 : decode m_St_allows.2.1 31 = .ok (.invokevirtual 59, 3) := by decide +kernel
theorem d_St_allows_34 : decode m_St_allows.2.1 34 = .ok (.ifCond .eq 58, 3) := by decide +kernel
theorem d_St_allows_37 : decode m_St_allows.2.1 37 = .ok (.aload_n 0, 1) := by decide +kernel
theorem d_St_allows_38 : decode m_St_allows.2.1 38 = .ok (.aload_n 1, 1) := by decide +kernel
theorem d_St_allows_39 : decode m_St_allows.2.1 39 = .ok (.aload_n 2, 1) := by decide +kernel
theorem d_St_allows_40 : decode m_St_allows.2.1 40 = .ok (.iload_n 3, 1) := by decide +kernel
theorem d_St_allows_41 : decode m_St_allows.2.1 41 = .ok (.invokevirtual 63, 3) := by decide +kernel
theorem d_St_allows_44 : decode m_St_allows.2.1 44 = .ok (.ifCond .eq 48, 3) := by decide +kernel
theorem d_St_allows_47 : decode m_St_allows.2.1 47 = .ok (.iload 4, 2) := by decide +kernel
theorem d_St_allows_49 : decode m_St_allows.2.1 49 = .ok (.invokestatic 67, 3) := by decide +kernel
theorem d_St_allows_52 : decode m_St_allows.2.1 52 = .ok (.ifCond .eq 15, 3) := by decide +kernel
theorem d_St_allows_55 : decode m_St_allows.2.1 55 = .ok (.aload_n 2, 1) := by decide +kernel
theorem d_St_allows_56 : decode m_St_allows.2.1 56 = .ok (.getfield 73, 3) := by decide +kernel
theorem d_St_allows_59 : decode m_St_allows.2.1 59 = .ok (.iload 4, 2) := by decide +kernel
theorem d_St_allows_61 : decode m_St_allows.2.1 61 = .ok (.invokestatic 78, 3) := by decide +kernel
theorem d_St_allows_64 : decode m_St_allows.2.1 64 = .ok (.if_icmp .ne 28, 3) := by decide +kernel
theorem d_St_allows_67 : decode m_St_allows.2.1 67 = .ok (.aload_n 0, 1) := by decide +kernel
theorem d_St_allows_68 : decode m_St_allows.2.1 68 = .ok (.getfield 28, 3) := by decide +kernel
theorem d_St_allows_71 : decode m_St_allows.2.1 71 = .ok (.iload 5, 2) := by decide +kernel
theorem d_St_allows_73 : decode m_St_allows.2.1 73 = .ok (.isub, 1) := by decide +kernel
theorem d_St_allows_74 : decode m_St_allows.2.1 74 = .ok (.aload_n 1, 1) := by decide +kernel
theorem d_St_allows_75 : decode m_St_allows.2.1 75 = .ok (.aload_n 2, 1) := by decide +kernel
theorem d_St_allows_76 : decode m_St_allows.2.1 76 = .ok (.iload_n 3, 1) := by decide +kernel
theorem d_St_allows_77 : decode m_St_allows.2.1 77 = .ok (.invokevirtual 81, 3) := by decide +kernel
theorem d_St_allows_80 : decode m_St_allows.2.1 80 = .ok (.iadd, 1) := by decide +kernel
theorem d_St_allows_81 : decode m_St_allows.2.1 81 = .ok (.aload_n 2, 1) := by decide +kernel
theorem d_St_allows_82 : decode m_St_allows.2.1 82 = .ok (.getfield 84, 3) := by decide +kernel
theorem d_St_allows_85 : decode m_St_allows.2.1 85 = .ok (.if_icmp .gt 7, 3) := by decide +kernel
theorem d_St_allows_88 : decode m_St_allows.2.1 88 = .ok (.iconst 1, 1) := by decide +kernel
theorem d_St_allows_89 : decode m_St_allows.2.1 89 = .ok (.goto 4, 3) := by decide +kernel
theorem d_St_allows_92 : decode m_St_allows.2.1 92 = .ok (.iconst 0, 1) := by decide +kernel
theorem d_St_allows_93 : decode m_St_allows.2.1 93 = .ok (.ireturn, 1) := by decide +kernel
theorem d_St_hasTaken_0 : decode m_St_hasTaken.2.1 0 = .ok (.iconst 0, 1) := by decide +kernel
theorem d_St_hasTaken_1 : decode m_St_hasTaken.2.1 1 = .ok (.istore 5, 2) := by decide +kernel
theorem d_St_hasTaken_3 : decode m_St_hasTaken.2.1 3 = .ok (.iload 5, 2) := by decide +kernel
theorem d_St_hasTaken_5 : decode m_St_hasTaken.2.1 5 = .ok (.iload 4, 2) := by decide +kernel
theorem d_St_hasTaken_7 : decode m_St_hasTaken.2.1 7 = .ok (.if_icmp .ge 40, 3) := by decide +kernel
theorem d_St_hasTaken_10 : decode m_St_hasTaken.2.1 10 = .ok (.aload_n 0, 1) := by decide +kernel
theorem d_St_hasTaken_11 : decode m_St_hasTaken.2.1 11 = .ok (.getfield 18, 3) := by decide +kernel
theorem d_St_hasTaken_14 : decode m_St_hasTaken.2.1 14 = .ok (.aload_n 0, 1) := by decide +kernel
theorem d_St_hasTaken_15 : decode m_St_hasTaken.2.1 15 = .ok (.getfield 28, 3) := by decide +kernel
theorem d_St_hasTaken_18 : decode m_St_hasTaken.2.1 18 = .ok (.iload 4, 2) := by decide +kernel
theorem d_St_hasTaken_20 : decode m_St_hasTaken.2.1 20 = .ok (.isub, 1) := by decide +kernel
theorem d_St_hasTaken_21 : decode m_St_hasTaken.2.1 21 = .ok (.iload 5, 2) := by decide +kernel
theorem d_St_hasTaken_23 : decode m_St_hasTaken.2.1 23 = .ok (.iadd, 1) := by decide +kernel
theorem d_St_hasTaken_24 : decode m_St_hasTaken.2.1 24 = .ok (.iaload, 1) := by decide +kernel
theorem d_St_hasTaken_25 : decode m_St_hasTaken.2.1 25 = .ok (.aload_n 1, 1) := by decide +kernel
theorem d_St_hasTaken_26 : decode m_St_hasTaken.2.1 26 = .ok (.aload_n 2, 1) := by decide +kernel
theorem d_St_hasTaken_27 : decode m_St_hasTaken.2.1 27 = .ok (.iload_n 3, 1) := by decide +kernel
theorem d_St_hasTaken_28 : decode m_St_hasTaken.2.1 28 = .ok (.iload 5, 2) := by decide +kernel
theorem d_St_hasTaken_30 : decode m_St_hasTaken.2.1 30 = .ok (.invokevirtual 87, 3) := by decide +kernel
theorem d_St_hasTaken_33 : decode m_St_hasTaken.2.1 33 = .ok (.invokestatic 91, 3) := by decide +kernel
theorem d_St_hasTaken_36 : decode m_St_hasTaken.2.1 36 = .ok (.ifCond .ne 5, 3) := by decide +kernel
theorem d_St_hasTaken_39 : decode m_St_hasTaken.2.1 39 = .ok (.iconst 0, 1) := by decide +kernel
theorem d_St_hasTaken_40 : decode m_St_hasTaken.2.1 40 = .ok (.ireturn, 1) := by decide +kernel
theorem d_St_hasTaken_41 : decode m_St_hasTaken.2.1 41 = .ok (.iinc 5 1, 3) := by decide +kernel
theorem d_St_hasTaken_44 : decode m_St_hasTaken.2.1 44 = .ok (.goto (-41), 3) := by decide +kernel
theorem d_St_hasTaken_47 : decode m_St_hasTaken.2.1 47 = .ok (.iconst 1, 1) := by decide +kernel
theorem d_St_hasTaken_48 : decode m_St_hasTaken.2.1 48 = .ok (.ireturn, 1) := by decide +kernel
theorem d_St_hasPlace_0 : decode m_St_hasPlace.2.1 0 = .ok (.aload_n 1, 1) := by decide +kernel
theorem d_St_hasPlace_1 : decode m_St_hasPlace.2.1 1 = .ok (.aload_n 2, 1) := by decide +kernel
theorem d_St_hasPlace_2 : decode m_St_hasPlace.2.1 2 = .ok (.iload_n 3, 1) := by decide +kernel
theorem d_St_hasPlace_3 : decode m_St_hasPlace.2.1 3 = .ok (.invokevirtual 50, 3) := by decide +kernel
theorem d_St_hasPlace_6 : decode m_St_hasPlace.2.1 6 = .ok (.istore 4, 2) := by decide +kernel
theorem d_St_hasPlace_8 : decode m_St_hasPlace.2.1 8 = .ok (.iload 4, 2) := by decide +kernel
theorem d_St_hasPlace_10 : decode m_St_hasPlace.2.1 10 = .ok (.invokestatic 95, 3) := by decide +kernel
theorem d_St_hasPlace_13 : decode m_St_hasPlace.2.1 13 = .ok (.ifCond .eq 25, 3) := by decide +kernel
theorem d_St_hasPlace_16 : decode m_St_hasPlace.2.1 16 = .ok (.aload_n 0, 1) := by decide +kernel
theorem d_St_hasPlace_17 : decode m_St_hasPlace.2.1 17 = .ok (.getfield 9, 3) := by decide +kernel
theorem d_St_hasPlace_20 : decode m_St_hasPlace.2.1 20 = .ok (.aload_n 1, 1) := by decide +kernel
theorem d_St_hasPlace_21 : decode m_St_hasPlace.2.1 21 = .ok (.aload_n 2, 1) := by decide +kernel
theorem d_St_hasPlace_22 : decode m_St_hasPlace.2.1 22 = .ok (.iload_n 3, 1) := by decide +kernel
theorem d_St_hasPlace_23 : decode m_St_hasPlace.2.1 23 = .ok (.invokevirtual 97, 3) := by decide +kernel
theorem d_St_hasPlace_26 : decode m_St_hasPlace.2.1 26 = .ok (.iaload, 1) := by decide +kernel
theorem d_St_hasPlace_27 : decode m_St_hasPlace.2.1 27 = .ok (.iload 4, 2) := by decide +kernel
theorem d_St_hasPlace_29 : decode m_St_hasPlace.2.1 29 = .ok (.invokestatic 100, 3) := by decide +kernel
theorem d_St_hasPlace_32 : decode m_St_hasPlace.2.1 32 = .ok (.invokestatic 91, 3) := by decide +kernel
theorem d_St_hasPlace_35 : decode m_St_hasPlace.2.1 35 = .ok (.ifCond .eq 7, 3) := by decide +kernel
theorem d_St_hasPlace_38 : decode m_St_hasPlace.2.1 38 = .ok (.iconst 1, 1) := by decide +kernel
theorem d_St_hasPlace_39 : decode m_St_hasPlace.2.1 39 = .ok (.goto 4, 3) := by decide +kernel
theorem d_St_hasPlace_42 : decode m_St_hasPlace.2.1 42 = .ok (.iconst 0, 1) := by decide +kernel
theorem d_St_hasPlace_43 : decode m_St_hasPlace.2.1 43 = .ok (.ireturn, 1) := by decide +kernel
theorem d_VC_type_0 : decode m_VC_type.2.1 0 = .ok (.iload_n 3, 1) := by decide +kernel
theorem d_VC_type_1 : decode m_VC_type.2.1 1 = .ok (.iconst 1, 1) := by decide +kernel
theorem d_VC_type_2 : decode m_VC_type.2.1 2 = .ok (.if_icmp .lt 9, 3) := by decide +kernel
theorem d_VC_type_5 : decode m_VC_type.2.1 5 = .ok (.iload_n 3, 1) := by decide +kernel
theorem d_VC_type_6 : decode m_VC_type.2.1 6 = .ok (.bipush 8, 2) := by decide +kernel
theorem d_VC_type_8 : decode m_VC_type.2.1 8 = .ok (.if_icmp .le 13, 3) := by decide +kernel
theorem d_VC_type_21 : decode m_VC_type.2.1 21 = .ok (.aload_n 0, 1) := by decide +kernel
theorem d_VC_type_22 : decode m_VC_type.2.1 22 = .ok (.getfield 51, 3) := by decide +kernel
theorem d_VC_type_25 : decode m_VC_type.2.1 25 = .ok (.iload_n 3, 1) := by decide +kernel
theorem d_VC_type_26 : decode m_VC_type.2.1 26 = .ok (.iadd, 1) := by decide +kernel
theorem d_VC_type_27 : decode m_VC_type.2.1 27 = .ok (.sipush 240, 3) := by decide +kernel
theorem d_VC_type_30 : decode m_VC_type.2.1 30 = .ok (.if_icmp .le 13, 3) := by decide +kernel
theorem d_VC_type_43 : decode m_VC_type.2.1 43 = .ok (.iload_n 3, 1) := by decide +kernel
theorem d_VC_type_44 : decode m_VC_type.2.1 44 = .ok (.iconst 1, 1) := by decide +kernel
theorem d_VC_type_45 : decode m_VC_type.2.1 45 = .ok (.isub, 1) := by decide +kernel
theorem d_VC_type_46 : decode m_VC_type.2.1 46 = .ok (.istore 4, 2) := by decide +kernel
theorem d_VC_type_48 : decode m_VC_type.2.1 48 = .ok (.iload 4, 2) := by decide +kernel
theorem d_VC_type_50 : decode m_VC_type.2.1 50 = .ok (.ifCond .lt 40, 3) := by decide +kernel
theorem d_VC_type_53 : decode m_VC_type.2.1 53 = .ok (.aload_n 0, 1) := by decide +kernel
theorem d_VC_type_54 : decode m_VC_type.2.1 54 = .ok (.getfield 9, 3) := by decide +kernel
theorem d_VC_type_57 : decode m_VC_type.2.1 57 = .ok (.aload_n 0, 1) := by decide +kernel
theorem d_VC_type_58 : decode m_VC_type.2.1 58 = .ok (.getfield 51, 3) := by decide +kernel
theorem d_VC_type_61 : decode m_VC_type.2.1 61 = .ok (.lload_n 1, 1) := by decide +kernel
theorem d_VC_type_62 : decode m_VC_type.2.1 62 = .ok (.bipush 8, 2) := by decide +kernel
theorem d_VC_type_64 : decode m_VC_type.2.1 64 = .ok (.iload 4, 2) := by decide +kernel
theorem d_VC_type_66 : decode m_VC_type.2.1 66 = .ok (.imul, 1) := by decide +kernel
theorem d_VC_type_67 : decode m_VC_type.2.1 67 = .ok (.lshr, 1) := by decide +kernel
theorem d_VC_type_68 : decode m_VC_type.2.1 68 = .ok (.l2i, 1) := by decide +kernel
theorem d_VC_type_69 : decode m_VC_type.2.1 69 = .ok (.sipush 255, 3) := by decide +kernel
theorem d_VC_type_72 : decode m_VC_type.2.1 72 = .ok (.iand, 1) := by decide +kernel
theorem d_VC_type_73 : decode m_VC_type.2.1 73 = .ok (.iastore, 1) := by decide +kernel
theorem d_VC_type_74 : decode m_VC_type.2.1 74 = .ok (.aload_n 0, 1) := by decide +kernel
theorem d_VC_type_75 : decode m_VC_type.2.1 75 = .ok (.dup, 1) := by decide +kernel
theorem d_VC_type_76 : decode m_VC_type.2.1 76 = .ok (.getfield 51, 3) := by decide +kernel
theorem d_VC_type_79 : decode m_VC_type.2.1 79 = .ok (.iconst 1, 1) := by decide +kernel
theorem d_VC_type_80 : decode m_VC_type.2.1 80 = .ok (.iadd, 1) := by decide +kernel
theorem d_VC_type_81 : decode m_VC_type.2.1 81 = .ok (.putfield 51, 3) := by decide +kernel
theorem d_VC_type_84 : decode m_VC_type.2.1 84 = .ok (.iinc 4 (-1), 3) := by decide +kernel
theorem d_VC_type_87 : decode m_VC_type.2.1 87 = .ok (.goto (-39), 3) := by decide +kernel
theorem d_VC_type_90 : decode m_VC_type.2.1 90 = .ok (.aload_n 0, 1) := by decide +kernel
theorem d_VC_type_91 : decode m_VC_type.2.1 91 = .ok (.getfield 51, 3) := by decide +kernel
theorem d_VC_type_94 : decode m_VC_type.2.1 94 = .ok (.ireturn, 1) := by decide +kernel
theorem d_VC_poke_0 : decode m_VC_poke.2.1 0 = .ok (.iload_n 1, 1) := by decide +kernel
theorem d_VC_poke_1 : decode m_VC_poke.2.1 1 = .ok (.ifCond .lt 11, 3) := by decide +kernel
theorem d_VC_poke_4 : decode m_VC_poke.2.1 4 = .ok (.iload_n 1, 1) := by decide +kernel
theorem d_VC_poke_5 : decode m_VC_poke.2.1 5 = .ok (.aload_n 0, 1) := by decide +kernel
theorem d_VC_poke_6 : decode m_VC_poke.2.1 6 = .ok (.getfield 51, 3) := by decide +kernel
theorem d_VC_poke_9 : decode m_VC_poke.2.1 9 = .ok (.if_icmp .lt 13, 3) := by decide +kernel
theorem d_VC_poke_22 : decode m_VC_poke.2.1 22 = .ok (.iload_n 2, 1) := by decide +kernel
theorem d_VC_poke_23 : decode m_VC_poke.2.1 23 = .ok (.ifCond .lt 10, 3) := by decide +kernel
theorem d_VC_poke_26 : decode m_VC_poke.2.1 26 = .ok (.iload_n 2, 1) := by decide +kernel
theorem d_VC_poke_27 : decode m_VC_poke.2.1 27 = .ok (.sipush 255, 3) := by decide +kernel
theorem d_VC_poke_30 : decode m_VC_poke.2.1 30 = .ok (.if_icmp .le 13, 3) := by decide +kernel
theorem d_VC_poke_43 : decode m_VC_poke.2.1 43 = .ok (.aload_n 0, 1) := by decide +kernel
theorem d_VC_poke_44 : decode m_VC_poke.2.1 44 = .ok (.getfield 9, 3) := by decide +kernel
theorem d_VC_poke_47 : decode m_VC_poke.2.1 47 = .ok (.iload_n 1, 1) := by decide +kernel
theorem d_VC_poke_48 : decode m_VC_poke.2.1 48 = .ok (.iload_n 2, 1) := by decide +kernel
theorem d_VC_poke_49 : decode m_VC_poke.2.1 49 = .ok (.iastore, 1) := by decide +kernel
theorem d_VC_poke_50 : decode m_VC_poke.2.1 50 = .ok (.return_, 1) := by decide +kernel
theorem d_VC_size_0 : decode m_VC_size.2.1 0 = .ok (.aload_n 0, 1) := by decide +kernel
theorem d_VC_size_1 : decode m_VC_size.2.1 1 = .ok (.getfield 51, 3) := by decide +kernel
theorem d_VC_size_4 : decode m_VC_size.2.1 4 = .ok (.ireturn, 1) := by decide +kernel
theorem d_VC_byteAt_0 : decode m_VC_byteAt.2.1 0 = .ok (.iload_n 1, 1) := by decide +kernel
theorem d_VC_byteAt_1 : decode m_VC_byteAt.2.1 1 = .ok (.ifCond .lt 11, 3) := by decide +kernel
theorem d_VC_byteAt_4 : decode m_VC_byteAt.2.1 4 = .ok (.iload_n 1, 1) := by decide +kernel
theorem d_VC_byteAt_5 : decode m_VC_byteAt.2.1 5 = .ok (.aload_n 0, 1) := by decide +kernel
theorem d_VC_byteAt_6 : decode m_VC_byteAt.2.1 6 = .ok (.getfield 51, 3) := by decide +kernel
theorem d_VC_byteAt_9 : decode m_VC_byteAt.2.1 9 = .ok (.if_icmp .lt 13, 3) := by decide +kernel
theorem d_VC_byteAt_22 : decode m_VC_byteAt.2.1 22 = .ok (.aload_n 0, 1) := by decide +kernel
theorem d_VC_byteAt_23 : decode m_VC_byteAt.2.1 23 = .ok (.getfield 9, 3) := by decide +kernel
theorem d_VC_byteAt_26 : decode m_VC_byteAt.2.1 26 = .ok (.iload_n 1, 1) := by decide +kernel
theorem d_VC_byteAt_27 : decode m_VC_byteAt.2.1 27 = .ok (.iaload, 1) := by decide +kernel
theorem d_VC_byteAt_28 : decode m_VC_byteAt.2.1 28 = .ok (.ireturn, 1) := by decide +kernel
theorem d_VC_clear_0 : decode m_VC_clear.2.1 0 = .ok (.aload_n 0, 1) := by decide +kernel
theorem d_VC_clear_1 : decode m_VC_clear.2.1 1 = .ok (.iconst 0, 1) := by decide +kernel
theorem d_VC_clear_2 : decode m_VC_clear.2.1 2 = .ok (.putfield 51, 3) := by decide +kernel
theorem d_VC_clear_5 : decode m_VC_clear.2.1 5 = .ok (.return_, 1) := by decide +kernel
theorem d_VC_read_0 : decode m_VC_read.2.1 0 = .ok (.aload_n 0, 1) := by decide +kernel
theorem d_VC_read_1 : decode m_VC_read.2.1 1 = .ok (.getfield 20, 3) := by decide +kernel
theorem d_VC_read_4 : decode m_VC_read.2.1 4 = .ok (.aload_n 0, 1) := by decide +kernel
theorem d_VC_read_5 : decode m_VC_read.2.1 5 = .ok (.getfield 9, 3) := by decide +kernel
theorem d_VC_read_8 : decode m_VC_read.2.1 8 = .ok (.aload_n 0, 1) := by decide +kernel
theorem d_VC_read_9 : decode m_VC_read.2.1 9 = .ok (.getfield 51, 3) := by decide +kernel
theorem d_VC_read_12 : decode m_VC_read.2.1 12 = .ok (.invokevirtual 67, 3) := by decide +kernel
theorem d_VC_read_15 : decode m_VC_read.2.1 15 = .ok (.aload_n 0, 1) := by decide +kernel
theorem d_VC_read_16 : decode m_VC_read.2.1 16 = .ok (.getfield 26, 3) := by decide +kernel
theorem d_VC_read_19 : decode m_VC_read.2.1 19 = .ok (.aload_n 0, 1) := by decide +kernel
theorem d_VC_read_20 : decode m_VC_read.2.1 20 = .ok (.getfield 20, 3) := by decide +kernel
theorem d_VC_read_23 : decode m_VC_read.2.1 23 = .ok (.invokevirtual 71, 3) := by decide +kernel
theorem d_VC_read_26 : decode m_VC_read.2.1 26 = .ok (.ifCond .ne 11, 3) := by decide +kernel
theorem d_VC_read_29 : decode m_VC_read.2.1 29 = .ok (.aload_n 0, 1) := by decide +kernel
theorem d_VC_read_30 : decode m_VC_read.2.1 30 = .ok (.getfield 26, 3) := by decide +kernel
theorem d_VC_read_33 : decode m_VC_read.2.1 33 = .ok (.getfield 75, 3) := by decide +kernel
theorem d_VC_read_36 : decode m_VC_read.2.1 36 = .ok (.ireturn, 1) := by decide +kernel
theorem d_VC_read_37 : decode m_VC_read.2.1 37 = .ok (.aload_n 0, 1) := by decide +kernel
theorem d_VC_read_38 : decode m_VC_read.2.1 38 = .ok (.getfield 16, 3) := by decide +kernel
theorem d_VC_read_41 : decode m_VC_read.2.1 41 = .ok (.astore_n 1, 1) := by decide +kernel
theorem d_VC_read_42 : decode m_VC_read.2.1 42 = .ok (.aload_n 0, 1) := by decide +kernel
theorem d_VC_read_43 : decode m_VC_read.2.1 43 = .ok (.aload_n 0, 1) := by decide +kernel
theorem d_VC_read_44 : decode m_VC_read.2.1 44 = .ok (.getfield 20, 3) := by decide +kernel
theorem d_VC_read_47 : decode m_VC_read.2.1 47 = .ok (.putfield 16, 3) := by decide +kernel
theorem d_VC_read_50 : decode m_VC_read.2.1 50 = .ok (.aload_n 0, 1) := by decide +kernel
theorem d_VC_read_51 : decode m_VC_read.2.1 51 = .ok (.aload_n 1, 1) := by decide +kernel
theorem d_VC_read_52 : decode m_VC_read.2.1 52 = .ok (.putfield 20, 3) := by decide +kernel
theorem d_VC_read_55 : decode m_VC_read.2.1 55 = .ok (.iconst (-1), 1) := by decide +kernel
theorem d_VC_read_56 : decode m_VC_read.2.1 56 = .ok (.ireturn, 1) := by decide +kernel
theorem d_VC_write_0 : decode m_VC_write.2.1 0 = .ok (.aload_n 0, 1) := by decide +kernel
theorem d_VC_write_1 : decode m_VC_write.2.1 1 = .ok (.getfield 16, 3) := by decide +kernel
theorem d_VC_write_4 : decode m_VC_write.2.1 4 = .ok (.getfield 78, 3) := by decide +kernel
theorem d_VC_write_7 : decode m_VC_write.2.1 7 = .ok (.ifCond .ne 13, 3) := by decide +kernel
theorem d_VC_write_20 : decode m_VC_write.2.1 20 = .ok (.aload_n 0, 1) := by decide +kernel
theorem d_VC_write_21 : decode m_VC_write.2.1 21 = .ok (.getfield 16, 3) := by decide +kernel
theorem d_VC_write_24 : decode m_VC_write.2.1 24 = .ok (.getfield 83, 3) := by decide +kernel
theorem d_VC_write_27 : decode m_VC_write.2.1 27 = .ok (.iconst 0, 1) := by decide +kernel
theorem d_VC_write_28 : decode m_VC_write.2.1 28 = .ok (.aload_n 0, 1) := by decide +kernel
theorem d_VC_write_29 : decode m_VC_write.2.1 29 = .ok (.getfield 9, 3) := by decide +kernel
theorem d_VC_write_32 : decode m_VC_write.2.1 32 = .ok (.iconst 0, 1) := by decide +kernel
theorem d_VC_write_33 : decode m_VC_write.2.1 33 = .ok (.aload_n 0, 1) := by decide +kernel
theorem d_VC_write_34 : decode m_VC_write.2.1 34 = .ok (.getfield 16, 3) := by decide +kernel
theorem d_VC_write_37 : decode m_VC_write.2.1 37 = .ok (.getfield 86, 3) := by decide +kernel
theorem d_VC_write_40 : decode m_VC_write.2.1 40 = .ok (.invokestatic 89, 3) := by decide +kernel
theorem d_VC_write_43 : decode m_VC_write.2.1 43 = .ok (.aload_n 0, 1) := by decide +kernel
theorem d_VC_write_44 : decode m_VC_write.2.1 44 = .ok (.aload_n 0, 1) := by decide +kernel
theorem d_VC_write_45 : decode m_VC_write.2.1 45 = .ok (.getfield 16, 3) := by decide +kernel
theorem d_VC_write_48 : decode m_VC_write.2.1 48 = .ok (.getfield 86, 3) := by decide +kernel
theorem d_VC_write_51 : decode m_VC_write.2.1 51 = .ok (.putfield 51, 3) := by decide +kernel
theorem d_VC_write_54 : decode m_VC_write.2.1 54 = .ok (.aload_n 0, 1) := by decide +kernel
theorem d_VC_write_55 : decode m_VC_write.2.1 55 = .ok (.getfield 51, 3) := by decide +kernel
theorem d_VC_write_58 : decode m_VC_write.2.1 58 = .ok (.ireturn, 1) := by decide +kernel
theorem d_VC_methods_0 : decode m_VC_methods.2.1 0 = .ok (.aload_n 0, 1) := by decide +kernel
theorem d_VC_methods_1 : decode m_VC_methods.2.1 1 = .ok (.getfield 16, 3) := by decide +kernel
theorem d_VC_methods_4 : decode m_VC_methods.2.1 4 = .ok (.getfield 78, 3) := by decide +kernel
theorem d_VC_methods_7 : decode m_VC_methods.2.1 7 = .ok (.ireturn, 1) := by decide +kernel
theorem d_VC_check_0 : decode m_VC_check.2.1 0 = .ok (.aload_n 0, 1) := by decide +kernel
theorem d_VC_check_1 : decode m_VC_check.2.1 1 = .ok (.getfield 16, 3) := by decide +kernel
theorem d_VC_check_4 : decode m_VC_check.2.1 4 = .ok (.getfield 78, 3) := by decide +kernel
theorem d_VC_check_7 : decode m_VC_check.2.1 7 = .ok (.ifCond .ne 13, 3) := by decide +kernel
theorem d_VC_check_20 : decode m_VC_check.2.1 20 = .ok (.iload_n 1, 1) := by decide +kernel
theorem d_VC_check_21 : decode m_VC_check.2.1 21 = .ok (.ifCond .lt 14, 3) := by decide +kernel
theorem d_VC_check_24 : decode m_VC_check.2.1 24 = .ok (.iload_n 1, 1) := by decide +kernel
theorem d_VC_check_25 : decode m_VC_check.2.1 25 = .ok (.aload_n 0, 1) := by decide +kernel
theorem d_VC_check_26 : decode m_VC_check.2.1 26 = .ok (.getfield 16, 3) := by decide +kernel
theorem d_VC_check_29 : decode m_VC_check.2.1 29 = .ok (.getfield 78, 3) := by decide +kernel
theorem d_VC_check_32 : decode m_VC_check.2.1 32 = .ok (.if_icmp .lt 13, 3) := by decide +kernel
theorem d_VC_check_45 : decode m_VC_check.2.1 45 = .ok (.aload_n 0, 1) := by decide +kernel
theorem d_VC_check_46 : decode m_VC_check.2.1 46 = .ok (.getfield 33, 3) := by decide +kernel
theorem d_VC_check_49 : decode m_VC_check.2.1 49 = .ok (.aload_n 0, 1) := by decide +kernel
theorem d_VC_check_50 : decode m_VC_check.2.1 50 = .ok (.getfield 16, 3) := by decide +kernel
theorem d_VC_check_53 : decode m_VC_check.2.1 53 = .ok (.aload_n 0, 1) := by decide +kernel
theorem d_VC_check_54 : decode m_VC_check.2.1 54 = .ok (.getfield 16, 3) := by decide +kernel
theorem d_VC_check_57 : decode m_VC_check.2.1 57 = .ok (.getfield 97, 3) := by decide +kernel
theorem d_VC_check_60 : decode m_VC_check.2.1 60 = .ok (.iload_n 1, 1) := by decide +kernel
theorem d_VC_check_61 : decode m_VC_check.2.1 61 = .ok (.aaload, 1) := by decide +kernel
theorem d_VC_check_62 : decode m_VC_check.2.1 62 = .ok (.invokevirtual 101, 3) := by decide +kernel
theorem d_VC_check_65 : decode m_VC_check.2.1 65 = .ok (.ireturn, 1) := by decide +kernel
theorem d_VC_run_0 : decode m_VC_run.2.1 0 = .ok (.aload_n 0, 1) := by decide +kernel
theorem d_VC_run_1 : decode m_VC_run.2.1 1 = .ok (.getfield 16, 3) := by decide +kernel
theorem d_VC_run_4 : decode m_VC_run.2.1 4 = .ok (.getfield 78, 3) := by decide +kernel
theorem d_VC_run_7 : decode m_VC_run.2.1 7 = .ok (.ifCond .ne 13, 3) := by decide +kernel
theorem d_VC_run_20 : decode m_VC_run.2.1 20 = .ok (.iload_n 1, 1) := by decide +kernel
theorem d_VC_run_21 : decode m_VC_run.2.1 21 = .ok (.ifCond .lt 14, 3) := by decide +kernel
theorem d_VC_run_24 : decode m_VC_run.2.1 24 = .ok (.iload_n 1, 1) := by decide +kernel
theorem d_VC_run_25 : decode m_VC_run.2.1 25 = .ok (.aload_n 0, 1) := by decide +kernel
theorem d_VC_run_26 : decode m_VC_run.2.1 26 = .ok (.getfield 16, 3) := by decide +kernel
theorem d_VC_run_29 : decode m_VC_run.2.1 29 = .ok (.getfield 78, 3) := by decide +kernel
theorem d_VC_run_32 : decode m_VC_run.2.1 32 = .ok (.if_icmp .lt 13, 3) := by decide +kernel
theorem d_VC_run_45 : decode m_VC_run.2.1 45 = .ok (.aload_n 0, 1) := by decide +kernel
theorem d_VC_run_46 : decode m_VC_run.2.1 46 = .ok (.getfield 40, 3) := by decide +kernel
theorem d_VC_run_49 : decode m_VC_run.2.1 49 = .ok (.aload_n 0, 1) := by decide +kernel
theorem d_VC_run_50 : decode m_VC_run.2.1 50 = .ok (.getfield 16, 3) := by decide +kernel
theorem d_VC_run_53 : decode m_VC_run.2.1 53 = .ok (.iload_n 1, 1) := by decide +kernel
theorem d_VC_run_54 : decode m_VC_run.2.1 54 = .ok (.iload_n 2, 1) := by decide +kernel
theorem d_VC_run_55 : decode m_VC_run.2.1 55 = .ok (.iload_n 3, 1) := by decide +kernel
theorem d_VC_run_56 : decode m_VC_run.2.1 56 = .ok (.iload 4, 2) := by decide +kernel
theorem d_VC_run_58 : decode m_VC_run.2.1 58 = .ok (.invokevirtual 105, 3) := by decide +kernel
theorem d_VC_run_61 : decode m_VC_run.2.1 61 = .ok (.aload_n 0, 1) := by decide +kernel
theorem d_VC_run_62 : decode m_VC_run.2.1 62 = .ok (.getfield 40, 3) := by decide +kernel
theorem d_VC_run_65 : decode m_VC_run.2.1 65 = .ok (.aload_n 0, 1) := by decide +kernel
theorem d_VC_run_66 : decode m_VC_run.2.1 66 = .ok (.getfield 16, 3) := by decide +kernel
theorem d_VC_run_69 : decode m_VC_run.2.1 69 = .ok (.invokevirtual 109, 3) := by decide +kernel
theorem d_VC_run_72 : decode m_VC_run.2.1 72 = .ok (.ireturn, 1) := by decide +kernel
theorem d_VC_result_0 : decode m_VC_result.2.1 0 = .ok (.aload_n 0, 1) := by decide +kernel
theorem d_VC_result_1 : decode m_VC_result.2.1 1 = .ok (.getfield 40, 3) := by decide +kernel
theorem d_VC_result_4 : decode m_VC_result.2.1 4 = .ok (.getfield 113, 3) := by decide +kernel
theorem d_VC_result_7 : decode m_VC_result.2.1 7 = .ok (.ireturn, 1) := by decide +kernel
theorem d_VC_steps_0 : decode m_VC_steps.2.1 0 = .ok (.aload_n 0, 1) := by decide +kernel
theorem d_VC_steps_1 : decode m_VC_steps.2.1 1 = .ok (.getfield 40, 3) := by decide +kernel
theorem d_VC_steps_4 : decode m_VC_steps.2.1 4 = .ok (.getfield 116, 3) := by decide +kernel
theorem d_VC_steps_7 : decode m_VC_steps.2.1 7 = .ok (.ireturn, 1) := by decide +kernel
theorem d_VC_isGoodFor_0 : decode m_VC_isGoodFor.2.1 0 = .ok (.iload_n 1, 1) := by decide +kernel
theorem d_VC_isGoodFor_1 : decode m_VC_isGoodFor.2.1 1 = .ok (.ifCond .eq 18, 3) := by decide +kernel
theorem d_VC_isGoodFor_4 : decode m_VC_isGoodFor.2.1 4 = .ok (.iload_n 0, 1) := by decide +kernel
theorem d_VC_isGoodFor_5 : decode m_VC_isGoodFor.2.1 5 = .ok (.iload_n 1, 1) := by decide +kernel
theorem d_VC_isGoodFor_6 : decode m_VC_isGoodFor.2.1 6 = .ok (.if_icmp .eq 13, 3) := by decide +kernel
theorem d_VC_isGoodFor_9 : decode m_VC_isGoodFor.2.1 9 = .ok (.iload_n 0, 1) := by decide +kernel
theorem d_VC_isGoodFor_10 : decode m_VC_isGoodFor.2.1 10 = .ok (.iconst 3, 1) := by decide +kernel
theorem d_VC_isGoodFor_11 : decode m_VC_isGoodFor.2.1 11 = .ok (.if_icmp .ne 12, 3) := by decide +kernel
theorem d_VC_isGoodFor_14 : decode m_VC_isGoodFor.2.1 14 = .ok (.iload_n 1, 1) := by decide +kernel
theorem d_VC_isGoodFor_15 : decode m_VC_isGoodFor.2.1 15 = .ok (.iconst 2, 1) := by decide +kernel
theorem d_VC_isGoodFor_16 : decode m_VC_isGoodFor.2.1 16 = .ok (.if_icmp .ne 7, 3) := by decide +kernel
theorem d_VC_isGoodFor_19 : decode m_VC_isGoodFor.2.1 19 = .ok (.iconst 1, 1) := by decide +kernel
theorem d_VC_isGoodFor_20 : decode m_VC_isGoodFor.2.1 20 = .ok (.goto 4, 3) := by decide +kernel
theorem d_VC_isGoodFor_23 : decode m_VC_isGoodFor.2.1 23 = .ok (.iconst 0, 1) := by decide +kernel
theorem d_VC_isGoodFor_24 : decode m_VC_isGoodFor.2.1 24 = .ok (.ireturn, 1) := by decide +kernel
theorem d_Mo_thrown_0 : decode m_Mo_thrown.2.1 0 = .ok (.aload_n 0, 1) := by decide +kernel
theorem d_Mo_thrown_1 : decode m_Mo_thrown.2.1 1 = .ok (.getfield 43, 3) := by decide +kernel
theorem d_Mo_thrown_4 : decode m_Mo_thrown.2.1 4 = .ok (.ireturn, 1) := by decide +kernel
theorem d_Mo_within_0 : decode m_Mo_within.2.1 0 = .ok (.iload_n 0, 1) := by decide +kernel
theorem d_Mo_within_1 : decode m_Mo_within.2.1 1 = .ok (.iload_n 1, 1) := by decide +kernel
theorem d_Mo_within_2 : decode m_Mo_within.2.1 2 = .ok (.if_icmp .lt 12, 3) := by decide +kernel
theorem d_Mo_within_5 : decode m_Mo_within.2.1 5 = .ok (.iload_n 0, 1) := by decide +kernel
theorem d_Mo_within_6 : decode m_Mo_within.2.1 6 = .ok (.iload_n 2, 1) := by decide +kernel
theorem d_Mo_within_7 : decode m_Mo_within.2.1 7 = .ok (.if_icmp .gt 7, 3) := by decide +kernel
theorem d_Mo_within_10 : decode m_Mo_within.2.1 10 = .ok (.iconst 1, 1) := by decide +kernel
theorem d_Mo_within_11 : decode m_Mo_within.2.1 11 = .ok (.goto 4, 3) := by decide +kernel
theorem d_Mo_within_14 : decode m_Mo_within.2.1 14 = .ok (.iconst 0, 1) := by decide +kernel
theorem d_Mo_within_15 : decode m_Mo_within.2.1 15 = .ok (.ireturn, 1) := by decide +kernel
theorem d_Mo_jumps_0 : decode m_Mo_jumps.2.1 0 = .ok (.iload_n 0, 1) := by decide +kernel
theorem d_Mo_jumps_1 : decode m_Mo_jumps.2.1 1 = .ok (.sipush 153, 3) := by decide +kernel
theorem d_Mo_jumps_4 : decode m_Mo_jumps.2.1 4 = .ok (.sipush 164, 3) := by decide +kernel
theorem d_Mo_jumps_7 : decode m_Mo_jumps.2.1 7 = .ok (.invokestatic 47, 3) := by decide +kernel
theorem d_Mo_jumps_10 : decode m_Mo_jumps.2.1 10 = .ok (.ifCond .ne 24, 3) := by decide +kernel
theorem d_Mo_jumps_13 : decode m_Mo_jumps.2.1 13 = .ok (.iload_n 0, 1) := by decide +kernel
theorem d_Mo_jumps_14 : decode m_Mo_jumps.2.1 14 = .ok (.sipush 167, 3) := by decide +kernel
theorem d_Mo_jumps_17 : decode m_Mo_jumps.2.1 17 = .ok (.if_icmp .eq 17, 3) := by decide +kernel
theorem d_Mo_jumps_20 : decode m_Mo_jumps.2.1 20 = .ok (.iload_n 0, 1) := by decide +kernel
theorem d_Mo_jumps_21 : decode m_Mo_jumps.2.1 21 = .ok (.sipush 198, 3) := by decide +kernel
theorem d_Mo_jumps_24 : decode m_Mo_jumps.2.1 24 = .ok (.if_icmp .eq 10, 3) := by decide +kernel
theorem d_Mo_jumps_27 : decode m_Mo_jumps.2.1 27 = .ok (.iload_n 0, 1) := by decide +kernel
theorem d_Mo_jumps_28 : decode m_Mo_jumps.2.1 28 = .ok (.sipush 199, 3) := by decide +kernel
theorem d_Mo_jumps_31 : decode m_Mo_jumps.2.1 31 = .ok (.if_icmp .ne 7, 3) := by decide +kernel
theorem d_Mo_jumps_34 : decode m_Mo_jumps.2.1 34 = .ok (.iconst 1, 1) := by decide +kernel
theorem d_Mo_jumps_35 : decode m_Mo_jumps.2.1 35 = .ok (.goto 4, 3) := by decide +kernel
theorem d_Mo_jumps_38 : decode m_Mo_jumps.2.1 38 = .ok (.iconst 0, 1) := by decide +kernel
theorem d_Mo_jumps_39 : decode m_Mo_jumps.2.1 39 = .ok (.ireturn, 1) := by decide +kernel
theorem d_Mo_names_0 : decode m_Mo_names.2.1 0 = .ok (.iload_n 0, 1) := by decide +kernel
theorem d_Mo_names_1 : decode m_Mo_names.2.1 1 = .ok (.bipush 21, 2) := by decide +kernel
theorem d_Mo_names_3 : decode m_Mo_names.2.1 3 = .ok (.if_icmp .eq 28, 3) := by decide +kernel
theorem d_Mo_names_6 : decode m_Mo_names.2.1 6 = .ok (.iload_n 0, 1) := by decide +kernel
theorem d_Mo_names_7 : decode m_Mo_names.2.1 7 = .ok (.bipush 25, 2) := by decide +kernel
theorem d_Mo_names_9 : decode m_Mo_names.2.1 9 = .ok (.if_icmp .eq 22, 3) := by decide +kernel
theorem d_Mo_names_12 : decode m_Mo_names.2.1 12 = .ok (.iload_n 0, 1) := by decide +kernel
theorem d_Mo_names_13 : decode m_Mo_names.2.1 13 = .ok (.bipush 54, 2) := by decide +kernel
theorem d_Mo_names_15 : decode m_Mo_names.2.1 15 = .ok (.if_icmp .eq 16, 3) := by decide +kernel
theorem d_Mo_names_18 : decode m_Mo_names.2.1 18 = .ok (.iload_n 0, 1) := by decide +kernel
theorem d_Mo_names_19 : decode m_Mo_names.2.1 19 = .ok (.bipush 58, 2) := by decide +kernel
theorem d_Mo_names_21 : decode m_Mo_names.2.1 21 = .ok (.if_icmp .eq 10, 3) := by decide +kernel
theorem d_Mo_names_24 : decode m_Mo_names.2.1 24 = .ok (.iload_n 0, 1) := by decide +kernel
theorem d_Mo_names_25 : decode m_Mo_names.2.1 25 = .ok (.sipush 132, 3) := by decide +kernel
theorem d_Mo_names_28 : decode m_Mo_names.2.1 28 = .ok (.if_icmp .ne 7, 3) := by decide +kernel
theorem d_Mo_names_31 : decode m_Mo_names.2.1 31 = .ok (.iconst 1, 1) := by decide +kernel
theorem d_Mo_names_32 : decode m_Mo_names.2.1 32 = .ok (.goto 4, 3) := by decide +kernel
theorem d_Mo_names_35 : decode m_Mo_names.2.1 35 = .ok (.iconst 0, 1) := by decide +kernel
theorem d_Mo_names_36 : decode m_Mo_names.2.1 36 = .ok (.ireturn, 1) := by decide +kernel
theorem d_Mo_returns_0 : decode m_Mo_returns.2.1 0 = .ok (.iload_n 0, 1) := by decide +kernel
theorem d_Mo_returns_1 : decode m_Mo_returns.2.1 1 = .ok (.sipush 172, 3) := by decide +kernel
theorem d_Mo_returns_4 : decode m_Mo_returns.2.1 4 = .ok (.if_icmp .eq 17, 3) := by decide +kernel
theorem d_Mo_returns_7 : decode m_Mo_returns.2.1 7 = .ok (.iload_n 0, 1) := by decide +kernel
theorem d_Mo_returns_8 : decode m_Mo_returns.2.1 8 = .ok (.sipush 176, 3) := by decide +kernel
theorem d_Mo_returns_11 : decode m_Mo_returns.2.1 11 = .ok (.if_icmp .eq 10, 3) := by decide +kernel
theorem d_Mo_returns_14 : decode m_Mo_returns.2.1 14 = .ok (.iload_n 0, 1) := by decide +kernel
theorem d_Mo_returns_15 : decode m_Mo_returns.2.1 15 = .ok (.sipush 177, 3) := by decide +kernel
theorem d_Mo_returns_18 : decode m_Mo_returns.2.1 18 = .ok (.if_icmp .ne 7, 3) := by decide +kernel
theorem d_Mo_returns_21 : decode m_Mo_returns.2.1 21 = .ok (.iconst 1, 1) := by decide +kernel
theorem d_Mo_returns_22 : decode m_Mo_returns.2.1 22 = .ok (.goto 4, 3) := by decide +kernel
theorem d_Mo_returns_25 : decode m_Mo_returns.2.1 25 = .ok (.iconst 0, 1) := by decide +kernel
theorem d_Mo_returns_26 : decode m_Mo_returns.2.1 26 = .ok (.ireturn, 1) := by decide +kernel
theorem d_Mo_bytes_0 : decode m_Mo_bytes.2.1 0 = .ok (.iload_n 0, 1) := by decide +kernel
theorem d_Mo_bytes_1 : decode m_Mo_bytes.2.1 1 = .ok (.invokestatic 51, 3) := by decide +kernel
theorem d_Mo_bytes_4 : decode m_Mo_bytes.2.1 4 = .ok (.ifCond .ne 10, 3) := by decide +kernel
theorem d_Mo_bytes_7 : decode m_Mo_bytes.2.1 7 = .ok (.iload_n 0, 1) := by decide +kernel
theorem d_Mo_bytes_8 : decode m_Mo_bytes.2.1 8 = .ok (.sipush 132, 3) := by decide +kernel
theorem d_Mo_bytes_11 : decode m_Mo_bytes.2.1 11 = .ok (.if_icmp .ne 5, 3) := by decide +kernel
theorem d_Mo_bytes_14 : decode m_Mo_bytes.2.1 14 = .ok (.iconst 3, 1) := by decide +kernel
theorem d_Mo_bytes_15 : decode m_Mo_bytes.2.1 15 = .ok (.ireturn, 1) := by decide +kernel
theorem d_Mo_bytes_16 : decode m_Mo_bytes.2.1 16 = .ok (.iload_n 0, 1) := by decide +kernel
theorem d_Mo_bytes_17 : decode m_Mo_bytes.2.1 17 = .ok (.invokestatic 55, 3) := by decide +kernel
theorem d_Mo_bytes_20 : decode m_Mo_bytes.2.1 20 = .ok (.ifCond .ne 22, 3) := by decide +kernel
theorem d_Mo_bytes_23 : decode m_Mo_bytes.2.1 23 = .ok (.iload_n 0, 1) := by decide +kernel
theorem d_Mo_bytes_24 : decode m_Mo_bytes.2.1 24 = .ok (.bipush 16, 2) := by decide +kernel
theorem d_Mo_bytes_26 : decode m_Mo_bytes.2.1 26 = .ok (.if_icmp .eq 16, 3) := by decide +kernel
theorem d_Mo_bytes_29 : decode m_Mo_bytes.2.1 29 = .ok (.iload_n 0, 1) := by decide +kernel
theorem d_Mo_bytes_30 : decode m_Mo_bytes.2.1 30 = .ok (.bipush 18, 2) := by decide +kernel
theorem d_Mo_bytes_32 : decode m_Mo_bytes.2.1 32 = .ok (.if_icmp .eq 10, 3) := by decide +kernel
theorem d_Mo_bytes_35 : decode m_Mo_bytes.2.1 35 = .ok (.iload_n 0, 1) := by decide +kernel
theorem d_Mo_bytes_36 : decode m_Mo_bytes.2.1 36 = .ok (.sipush 184, 3) := by decide +kernel
theorem d_Mo_bytes_39 : decode m_Mo_bytes.2.1 39 = .ok (.if_icmp .ne 5, 3) := by decide +kernel
theorem d_Mo_bytes_42 : decode m_Mo_bytes.2.1 42 = .ok (.iconst 2, 1) := by decide +kernel
theorem d_Mo_bytes_43 : decode m_Mo_bytes.2.1 43 = .ok (.ireturn, 1) := by decide +kernel
theorem d_Mo_bytes_44 : decode m_Mo_bytes.2.1 44 = .ok (.iload_n 0, 1) := by decide +kernel
theorem d_Mo_bytes_45 : decode m_Mo_bytes.2.1 45 = .ok (.iconst 1, 1) := by decide +kernel
theorem d_Mo_bytes_46 : decode m_Mo_bytes.2.1 46 = .ok (.if_icmp .eq 63, 3) := by decide +kernel
theorem d_Mo_bytes_49 : decode m_Mo_bytes.2.1 49 = .ok (.iload_n 0, 1) := by decide +kernel
theorem d_Mo_bytes_50 : decode m_Mo_bytes.2.1 50 = .ok (.bipush 46, 2) := by decide +kernel
theorem d_Mo_bytes_52 : decode m_Mo_bytes.2.1 52 = .ok (.if_icmp .eq 57, 3) := by decide +kernel
theorem d_Mo_bytes_55 : decode m_Mo_bytes.2.1 55 = .ok (.iload_n 0, 1) := by decide +kernel
theorem d_Mo_bytes_56 : decode m_Mo_bytes.2.1 56 = .ok (.bipush 79, 2) := by decide +kernel
theorem d_Mo_bytes_58 : decode m_Mo_bytes.2.1 58 = .ok (.if_icmp .eq 51, 3) := by decide +kernel
theorem d_Mo_bytes_61 : decode m_Mo_bytes.2.1 61 = .ok (.iload_n 0, 1) := by decide +kernel
theorem d_Mo_bytes_62 : decode m_Mo_bytes.2.1 62 = .ok (.bipush 87, 2) := by decide +kernel
theorem d_Mo_bytes_64 : decode m_Mo_bytes.2.1 64 = .ok (.if_icmp .eq 45, 3) := by decide +kernel
theorem d_Mo_bytes_67 : decode m_Mo_bytes.2.1 67 = .ok (.iload_n 0, 1) := by decide +kernel
theorem d_Mo_bytes_68 : decode m_Mo_bytes.2.1 68 = .ok (.bipush 89, 2) := by decide +kernel
theorem d_Mo_bytes_70 : decode m_Mo_bytes.2.1 70 = .ok (.if_icmp .eq 39, 3) := by decide +kernel
theorem d_Mo_bytes_73 : decode m_Mo_bytes.2.1 73 = .ok (.iload_n 0, 1) := by decide +kernel
theorem d_Mo_bytes_74 : decode m_Mo_bytes.2.1 74 = .ok (.bipush 95, 2) := by decide +kernel
theorem d_Mo_bytes_76 : decode m_Mo_bytes.2.1 76 = .ok (.if_icmp .eq 33, 3) := by decide +kernel
theorem d_Mo_bytes_79 : decode m_Mo_bytes.2.1 79 = .ok (.iload_n 0, 1) := by decide +kernel
theorem d_Mo_bytes_80 : decode m_Mo_bytes.2.1 80 = .ok (.bipush 96, 2) := by decide +kernel
theorem d_Mo_bytes_82 : decode m_Mo_bytes.2.1 82 = .ok (.if_icmp .eq 27, 3) := by decide +kernel
theorem d_Mo_bytes_85 : decode m_Mo_bytes.2.1 85 = .ok (.iload_n 0, 1) := by decide +kernel
theorem d_Mo_bytes_86 : decode m_Mo_bytes.2.1 86 = .ok (.bipush 100, 2) := by decide +kernel
theorem d_Mo_bytes_88 : decode m_Mo_bytes.2.1 88 = .ok (.if_icmp .eq 21, 3) := by decide +kernel
theorem d_Mo_bytes_91 : decode m_Mo_bytes.2.1 91 = .ok (.iload_n 0, 1) := by decide +kernel
theorem d_Mo_bytes_92 : decode m_Mo_bytes.2.1 92 = .ok (.bipush 104, 2) := by decide +kernel
theorem d_Mo_bytes_94 : decode m_Mo_bytes.2.1 94 = .ok (.if_icmp .eq 15, 3) := by decide +kernel
theorem d_Mo_bytes_97 : decode m_Mo_bytes.2.1 97 = .ok (.iload_n 0, 1) := by decide +kernel
theorem d_Mo_bytes_98 : decode m_Mo_bytes.2.1 98 = .ok (.bipush 108, 2) := by decide +kernel
theorem d_Mo_bytes_100 : decode m_Mo_bytes.2.1 100 = .ok (.if_icmp .eq 9, 3) := by decide +kernel
theorem d_Mo_bytes_103 : decode m_Mo_bytes.2.1 103 = .ok (.iload_n 0, 1) := by decide +kernel
theorem d_Mo_bytes_104 : decode m_Mo_bytes.2.1 104 = .ok (.bipush 116, 2) := by decide +kernel
theorem d_Mo_bytes_106 : decode m_Mo_bytes.2.1 106 = .ok (.if_icmp .ne 7, 3) := by decide +kernel
theorem d_Mo_bytes_109 : decode m_Mo_bytes.2.1 109 = .ok (.iconst 1, 1) := by decide +kernel
theorem d_Mo_bytes_110 : decode m_Mo_bytes.2.1 110 = .ok (.goto 4, 3) := by decide +kernel
theorem d_Mo_bytes_113 : decode m_Mo_bytes.2.1 113 = .ok (.iconst 0, 1) := by decide +kernel
theorem d_Mo_bytes_114 : decode m_Mo_bytes.2.1 114 = .ok (.istore_n 1, 1) := by decide +kernel
theorem d_Mo_bytes_115 : decode m_Mo_bytes.2.1 115 = .ok (.iload_n 1, 1) := by decide +kernel
theorem d_Mo_bytes_116 : decode m_Mo_bytes.2.1 116 = .ok (.ifCond .ne 24, 3) := by decide +kernel
theorem d_Mo_bytes_119 : decode m_Mo_bytes.2.1 119 = .ok (.iload_n 0, 1) := by decide +kernel
theorem d_Mo_bytes_120 : decode m_Mo_bytes.2.1 120 = .ok (.invokestatic 58, 3) := by decide +kernel
theorem d_Mo_bytes_123 : decode m_Mo_bytes.2.1 123 = .ok (.ifCond .ne 17, 3) := by decide +kernel
theorem d_Mo_bytes_126 : decode m_Mo_bytes.2.1 126 = .ok (.iload_n 0, 1) := by decide +kernel
theorem d_Mo_bytes_127 : decode m_Mo_bytes.2.1 127 = .ok (.sipush 188, 3) := by decide +kernel
theorem d_Mo_bytes_130 : decode m_Mo_bytes.2.1 130 = .ok (.if_icmp .eq 10, 3) := by decide +kernel
theorem d_Mo_bytes_133 : decode m_Mo_bytes.2.1 133 = .ok (.iload_n 0, 1) := by decide +kernel
theorem d_Mo_bytes_134 : decode m_Mo_bytes.2.1 134 = .ok (.sipush 190, 3) := by decide +kernel
theorem d_Mo_bytes_137 : decode m_Mo_bytes.2.1 137 = .ok (.if_icmp .ne 7, 3) := by decide +kernel
theorem d_Mo_bytes_140 : decode m_Mo_bytes.2.1 140 = .ok (.iconst 1, 1) := by decide +kernel
theorem d_Mo_bytes_141 : decode m_Mo_bytes.2.1 141 = .ok (.goto 4, 3) := by decide +kernel
theorem d_Mo_bytes_144 : decode m_Mo_bytes.2.1 144 = .ok (.iconst 0, 1) := by decide +kernel
theorem d_Mo_bytes_145 : decode m_Mo_bytes.2.1 145 = .ok (.ireturn, 1) := by decide +kernel
theorem d_Mo_need_0 : decode m_Mo_need.2.1 0 = .ok (.iload_n 0, 1) := by decide +kernel
theorem d_Mo_need_1 : decode m_Mo_need.2.1 1 = .ok (.bipush 96, 2) := by decide +kernel
theorem d_Mo_need_3 : decode m_Mo_need.2.1 3 = .ok (.if_icmp .eq 34, 3) := by decide +kernel
theorem d_Mo_need_6 : decode m_Mo_need.2.1 6 = .ok (.iload_n 0, 1) := by decide +kernel
theorem d_Mo_need_7 : decode m_Mo_need.2.1 7 = .ok (.bipush 100, 2) := by decide +kernel
theorem d_Mo_need_9 : decode m_Mo_need.2.1 9 = .ok (.if_icmp .eq 28, 3) := by decide +kernel
theorem d_Mo_need_12 : decode m_Mo_need.2.1 12 = .ok (.iload_n 0, 1) := by decide +kernel
theorem d_Mo_need_13 : decode m_Mo_need.2.1 13 = .ok (.bipush 104, 2) := by decide +kernel
theorem d_Mo_need_15 : decode m_Mo_need.2.1 15 = .ok (.if_icmp .eq 22, 3) := by decide +kernel
theorem d_Mo_need_18 : decode m_Mo_need.2.1 18 = .ok (.iload_n 0, 1) := by decide +kernel
theorem d_Mo_need_19 : decode m_Mo_need.2.1 19 = .ok (.bipush 108, 2) := by decide +kernel
theorem d_Mo_need_21 : decode m_Mo_need.2.1 21 = .ok (.if_icmp .eq 16, 3) := by decide +kernel
theorem d_Mo_need_24 : decode m_Mo_need.2.1 24 = .ok (.iload_n 0, 1) := by decide +kernel
theorem d_Mo_need_25 : decode m_Mo_need.2.1 25 = .ok (.sipush 159, 3) := by decide +kernel
theorem d_Mo_need_28 : decode m_Mo_need.2.1 28 = .ok (.sipush 164, 3) := by decide +kernel
theorem d_Mo_need_31 : decode m_Mo_need.2.1 31 = .ok (.invokestatic 47, 3) := by decide +kernel
theorem d_Mo_need_34 : decode m_Mo_need.2.1 34 = .ok (.ifCond .eq 7, 3) := by decide +kernel
theorem d_Mo_need_37 : decode m_Mo_need.2.1 37 = .ok (.iconst 1, 1) := by decide +kernel
theorem d_Mo_need_38 : decode m_Mo_need.2.1 38 = .ok (.goto 4, 3) := by decide +kernel
theorem d_Mo_need_41 : decode m_Mo_need.2.1 41 = .ok (.iconst 0, 1) := by decide +kernel
theorem d_Mo_need_42 : decode m_Mo_need.2.1 42 = .ok (.istore_n 2, 1) := by decide +kernel
theorem d_Mo_need_43 : decode m_Mo_need.2.1 43 = .ok (.iload_n 2, 1) := by decide +kernel
theorem d_Mo_need_44 : decode m_Mo_need.2.1 44 = .ok (.ifCond .ne 42, 3) := by decide +kernel
theorem d_Mo_need_47 : decode m_Mo_need.2.1 47 = .ok (.iload_n 0, 1) := by decide +kernel
theorem d_Mo_need_48 : decode m_Mo_need.2.1 48 = .ok (.bipush 54, 2) := by decide +kernel
theorem d_Mo_need_50 : decode m_Mo_need.2.1 50 = .ok (.if_icmp .eq 36, 3) := by decide +kernel
theorem d_Mo_need_53 : decode m_Mo_need.2.1 53 = .ok (.iload_n 0, 1) := by decide +kernel
theorem d_Mo_need_54 : decode m_Mo_need.2.1 54 = .ok (.bipush 116, 2) := by decide +kernel
theorem d_Mo_need_56 : decode m_Mo_need.2.1 56 = .ok (.if_icmp .eq 30, 3) := by decide +kernel
theorem d_Mo_need_59 : decode m_Mo_need.2.1 59 = .ok (.iload_n 0, 1) := by decide +kernel
theorem d_Mo_need_60 : decode m_Mo_need.2.1 60 = .ok (.sipush 172, 3) := by decide +kernel
theorem d_Mo_need_63 : decode m_Mo_need.2.1 63 = .ok (.if_icmp .eq 23, 3) := by decide +kernel
theorem d_Mo_need_66 : decode m_Mo_need.2.1 66 = .ok (.iload_n 0, 1) := by decide +kernel
theorem d_Mo_need_67 : decode m_Mo_need.2.1 67 = .ok (.sipush 188, 3) := by decide +kernel
theorem d_Mo_need_70 : decode m_Mo_need.2.1 70 = .ok (.if_icmp .eq 16, 3) := by decide +kernel
theorem d_Mo_need_73 : decode m_Mo_need.2.1 73 = .ok (.iload_n 0, 1) := by decide +kernel
theorem d_Mo_need_74 : decode m_Mo_need.2.1 74 = .ok (.sipush 153, 3) := by decide +kernel
theorem d_Mo_need_77 : decode m_Mo_need.2.1 77 = .ok (.sipush 158, 3) := by decide +kernel
theorem d_Mo_need_80 : decode m_Mo_need.2.1 80 = .ok (.invokestatic 47, 3) := by decide +kernel
theorem d_Mo_need_83 : decode m_Mo_need.2.1 83 = .ok (.ifCond .eq 22, 3) := by decide +kernel
theorem d_Mo_need_86 : decode m_Mo_need.2.1 86 = .ok (.iload_n 1, 1) := by decide +kernel
theorem d_Mo_need_87 : decode m_Mo_need.2.1 87 = .ok (.ifCond .eq 12, 3) := by decide +kernel
theorem d_Mo_need_90 : decode m_Mo_need.2.1 90 = .ok (.iload_n 2, 1) := by decide +kernel
theorem d_Mo_need_91 : decode m_Mo_need.2.1 91 = .ok (.ifCond .eq 12, 3) := by decide +kernel
theorem d_Mo_need_94 : decode m_Mo_need.2.1 94 = .ok (.iload_n 1, 1) := by decide +kernel
theorem d_Mo_need_95 : decode m_Mo_need.2.1 95 = .ok (.iconst 1, 1) := by decide +kernel
theorem d_Mo_need_96 : decode m_Mo_need.2.1 96 = .ok (.if_icmp .ne 7, 3) := by decide +kernel
theorem d_Mo_need_99 : decode m_Mo_need.2.1 99 = .ok (.iconst 1, 1) := by decide +kernel
theorem d_Mo_need_100 : decode m_Mo_need.2.1 100 = .ok (.goto 4, 3) := by decide +kernel
theorem d_Mo_need_103 : decode m_Mo_need.2.1 103 = .ok (.iconst 0, 1) := by decide +kernel
theorem d_Mo_need_104 : decode m_Mo_need.2.1 104 = .ok (.ireturn, 1) := by decide +kernel
theorem d_Mo_need_105 : decode m_Mo_need.2.1 105 = .ok (.iload_n 0, 1) := by decide +kernel
theorem d_Mo_need_106 : decode m_Mo_need.2.1 106 = .ok (.bipush 58, 2) := by decide +kernel
theorem d_Mo_need_108 : decode m_Mo_need.2.1 108 = .ok (.if_icmp .eq 31, 3) := by decide +kernel
theorem d_Mo_need_111 : decode m_Mo_need.2.1 111 = .ok (.iload_n 0, 1) := by decide +kernel
theorem d_Mo_need_112 : decode m_Mo_need.2.1 112 = .ok (.sipush 176, 3) := by decide +kernel
theorem d_Mo_need_115 : decode m_Mo_need.2.1 115 = .ok (.if_icmp .eq 24, 3) := by decide +kernel
theorem d_Mo_need_118 : decode m_Mo_need.2.1 118 = .ok (.iload_n 0, 1) := by decide +kernel
theorem d_Mo_need_119 : decode m_Mo_need.2.1 119 = .ok (.sipush 190, 3) := by decide +kernel
theorem d_Mo_need_122 : decode m_Mo_need.2.1 122 = .ok (.if_icmp .eq 17, 3) := by decide +kernel
theorem d_Mo_need_125 : decode m_Mo_need.2.1 125 = .ok (.iload_n 0, 1) := by decide +kernel
theorem d_Mo_need_126 : decode m_Mo_need.2.1 126 = .ok (.sipush 198, 3) := by decide +kernel
theorem d_Mo_need_129 : decode m_Mo_need.2.1 129 = .ok (.if_icmp .eq 10, 3) := by decide +kernel
theorem d_Mo_need_132 : decode m_Mo_need.2.1 132 = .ok (.iload_n 0, 1) := by decide +kernel
theorem d_Mo_need_133 : decode m_Mo_need.2.1 133 = .ok (.sipush 199, 3) := by decide +kernel
theorem d_Mo_need_136 : decode m_Mo_need.2.1 136 = .ok (.if_icmp .ne 13, 3) := by decide +kernel
theorem d_Mo_need_139 : decode m_Mo_need.2.1 139 = .ok (.iload_n 1, 1) := by decide +kernel
theorem d_Mo_need_140 : decode m_Mo_need.2.1 140 = .ok (.ifCond .ne 7, 3) := by decide +kernel
theorem d_Mo_need_143 : decode m_Mo_need.2.1 143 = .ok (.iconst 2, 1) := by decide +kernel
theorem d_Mo_need_144 : decode m_Mo_need.2.1 144 = .ok (.goto 4, 3) := by decide +kernel
theorem d_Mo_need_147 : decode m_Mo_need.2.1 147 = .ok (.iconst 0, 1) := by decide +kernel
theorem d_Mo_need_148 : decode m_Mo_need.2.1 148 = .ok (.ireturn, 1) := by decide +kernel
theorem d_Mo_need_149 : decode m_Mo_need.2.1 149 = .ok (.iload_n 0, 1) := by decide +kernel
theorem d_Mo_need_150 : decode m_Mo_need.2.1 150 = .ok (.bipush 87, 2) := by decide +kernel
theorem d_Mo_need_152 : decode m_Mo_need.2.1 152 = .ok (.if_icmp .eq 15, 3) := by decide +kernel
theorem d_Mo_need_155 : decode m_Mo_need.2.1 155 = .ok (.iload_n 0, 1) := by decide +kernel
theorem d_Mo_need_156 : decode m_Mo_need.2.1 156 = .ok (.bipush 89, 2) := by decide +kernel
theorem d_Mo_need_158 : decode m_Mo_need.2.1 158 = .ok (.if_icmp .eq 9, 3) := by decide +kernel
theorem d_Mo_need_161 : decode m_Mo_need.2.1 161 = .ok (.iload_n 0, 1) := by decide +kernel
theorem d_Mo_need_162 : decode m_Mo_need.2.1 162 = .ok (.bipush 95, 2) := by decide +kernel
theorem d_Mo_need_164 : decode m_Mo_need.2.1 164 = .ok (.if_icmp .ne 24, 3) := by decide +kernel
theorem d_Mo_need_167 : decode m_Mo_need.2.1 167 = .ok (.iload_n 1, 1) := by decide +kernel
theorem d_Mo_need_168 : decode m_Mo_need.2.1 168 = .ok (.ifCond .eq 14, 3) := by decide +kernel
theorem d_Mo_need_171 : decode m_Mo_need.2.1 171 = .ok (.iload_n 0, 1) := by decide +kernel
theorem d_Mo_need_172 : decode m_Mo_need.2.1 172 = .ok (.bipush 95, 2) := by decide +kernel
theorem d_Mo_need_174 : decode m_Mo_need.2.1 174 = .ok (.if_icmp .ne 12, 3) := by decide +kernel
theorem d_Mo_need_177 : decode m_Mo_need.2.1 177 = .ok (.iload_n 1, 1) := by decide +kernel
theorem d_Mo_need_178 : decode m_Mo_need.2.1 178 = .ok (.iconst 1, 1) := by decide +kernel
theorem d_Mo_need_179 : decode m_Mo_need.2.1 179 = .ok (.if_icmp .ne 7, 3) := by decide +kernel
theorem d_Mo_need_182 : decode m_Mo_need.2.1 182 = .ok (.iconst 3, 1) := by decide +kernel
theorem d_Mo_need_183 : decode m_Mo_need.2.1 183 = .ok (.goto 4, 3) := by decide +kernel
theorem d_Mo_need_186 : decode m_Mo_need.2.1 186 = .ok (.iconst 0, 1) := by decide +kernel
theorem d_Mo_need_187 : decode m_Mo_need.2.1 187 = .ok (.ireturn, 1) := by decide +kernel
theorem d_Mo_need_188 : decode m_Mo_need.2.1 188 = .ok (.iload_n 0, 1) := by decide +kernel
theorem d_Mo_need_189 : decode m_Mo_need.2.1 189 = .ok (.bipush 46, 2) := by decide +kernel
theorem d_Mo_need_191 : decode m_Mo_need.2.1 191 = .ok (.if_icmp .ne 22, 3) := by decide +kernel
theorem d_Mo_need_194 : decode m_Mo_need.2.1 194 = .ok (.iload_n 1, 1) := by decide +kernel
theorem d_Mo_need_195 : decode m_Mo_need.2.1 195 = .ok (.ifCond .ne 7, 3) := by decide +kernel
theorem d_Mo_need_198 : decode m_Mo_need.2.1 198 = .ok (.iconst 1, 1) := by decide +kernel
theorem d_Mo_need_199 : decode m_Mo_need.2.1 199 = .ok (.goto 13, 3) := by decide +kernel
theorem d_Mo_need_202 : decode m_Mo_need.2.1 202 = .ok (.iload_n 1, 1) := by decide +kernel
theorem d_Mo_need_203 : decode m_Mo_need.2.1 203 = .ok (.iconst 1, 1) := by decide +kernel
theorem d_Mo_need_204 : decode m_Mo_need.2.1 204 = .ok (.if_icmp .ne 7, 3) := by decide +kernel
theorem d_Mo_need_207 : decode m_Mo_need.2.1 207 = .ok (.iconst 2, 1) := by decide +kernel
theorem d_Mo_need_208 : decode m_Mo_need.2.1 208 = .ok (.goto 4, 3) := by decide +kernel
theorem d_Mo_need_211 : decode m_Mo_need.2.1 211 = .ok (.iconst 0, 1) := by decide +kernel
theorem d_Mo_need_212 : decode m_Mo_need.2.1 212 = .ok (.ireturn, 1) := by decide +kernel
theorem d_Mo_need_213 : decode m_Mo_need.2.1 213 = .ok (.iload_n 0, 1) := by decide +kernel
theorem d_Mo_need_214 : decode m_Mo_need.2.1 214 = .ok (.bipush 79, 2) := by decide +kernel
theorem d_Mo_need_216 : decode m_Mo_need.2.1 216 = .ok (.if_icmp .ne 8, 3) := by decide +kernel
theorem d_Mo_need_219 : decode m_Mo_need.2.1 219 = .ok (.iload_n 1, 1) := by decide +kernel
theorem d_Mo_need_220 : decode m_Mo_need.2.1 220 = .ok (.iconst 2, 1) := by decide +kernel
theorem d_Mo_need_221 : decode m_Mo_need.2.1 221 = .ok (.if_icmp .le 7, 3) := by decide +kernel
theorem d_Mo_need_224 : decode m_Mo_need.2.1 224 = .ok (.iconst 0, 1) := by decide +kernel
theorem d_Mo_need_225 : decode m_Mo_need.2.1 225 = .ok (.goto 13, 3) := by decide +kernel
theorem d_Mo_need_228 : decode m_Mo_need.2.1 228 = .ok (.iload_n 1, 1) := by decide +kernel
theorem d_Mo_need_229 : decode m_Mo_need.2.1 229 = .ok (.iconst 2, 1) := by decide +kernel
theorem d_Mo_need_230 : decode m_Mo_need.2.1 230 = .ok (.if_icmp .ne 7, 3) := by decide +kernel
theorem d_Mo_need_233 : decode m_Mo_need.2.1 233 = .ok (.iconst 2, 1) := by decide +kernel
theorem d_Mo_need_234 : decode m_Mo_need.2.1 234 = .ok (.goto 4, 3) := by decide +kernel
theorem d_Mo_need_237 : decode m_Mo_need.2.1 237 = .ok (.iconst 1, 1) := by decide +kernel
theorem d_Mo_need_238 : decode m_Mo_need.2.1 238 = .ok (.ireturn, 1) := by decide +kernel
theorem d_Mo_puts_0 : decode m_Mo_puts.2.1 0 = .ok (.iload_n 0, 1) := by decide +kernel
theorem d_Mo_puts_1 : decode m_Mo_puts.2.1 1 = .ok (.iconst 1, 1) := by decide +kernel
theorem d_Mo_puts_2 : decode m_Mo_puts.2.1 2 = .ok (.if_icmp .ne 5, 3) := by decide +kernel
theorem d_Mo_puts_5 : decode m_Mo_puts.2.1 5 = .ok (.iconst 3, 1) := by decide +kernel
theorem d_Mo_puts_6 : decode m_Mo_puts.2.1 6 = .ok (.ireturn, 1) := by decide +kernel
theorem d_Mo_puts_7 : decode m_Mo_puts.2.1 7 = .ok (.iload_n 0, 1) := by decide +kernel
theorem d_Mo_puts_8 : decode m_Mo_puts.2.1 8 = .ok (.sipush 188, 3) := by decide +kernel
theorem d_Mo_puts_11 : decode m_Mo_puts.2.1 11 = .ok (.if_icmp .ne 5, 3) := by decide +kernel
theorem d_Mo_puts_14 : decode m_Mo_puts.2.1 14 = .ok (.iconst 2, 1) := by decide +kernel
theorem d_Mo_puts_15 : decode m_Mo_puts.2.1 15 = .ok (.ireturn, 1) := by decide +kernel
theorem d_Mo_puts_16 : decode m_Mo_puts.2.1 16 = .ok (.iload_n 0, 1) := by decide +kernel
theorem d_Mo_puts_17 : decode m_Mo_puts.2.1 17 = .ok (.bipush 16, 2) := by decide +kernel
theorem d_Mo_puts_19 : decode m_Mo_puts.2.1 19 = .ok (.if_icmp .eq 58, 3) := by decide +kernel
theorem d_Mo_puts_22 : decode m_Mo_puts.2.1 22 = .ok (.iload_n 0, 1) := by decide +kernel
theorem d_Mo_puts_23 : decode m_Mo_puts.2.1 23 = .ok (.bipush 18, 2) := by decide +kernel
theorem d_Mo_puts_25 : decode m_Mo_puts.2.1 25 = .ok (.if_icmp .eq 52, 3) := by decide +kernel
theorem d_Mo_puts_28 : decode m_Mo_puts.2.1 28 = .ok (.iload_n 0, 1) := by decide +kernel
theorem d_Mo_puts_29 : decode m_Mo_puts.2.1 29 = .ok (.bipush 21, 2) := by decide +kernel
theorem d_Mo_puts_31 : decode m_Mo_puts.2.1 31 = .ok (.if_icmp .eq 46, 3) := by decide +kernel
theorem d_Mo_puts_34 : decode m_Mo_puts.2.1 34 = .ok (.iload_n 0, 1) := by decide +kernel
theorem d_Mo_puts_35 : decode m_Mo_puts.2.1 35 = .ok (.bipush 46, 2) := by decide +kernel
theorem d_Mo_puts_37 : decode m_Mo_puts.2.1 37 = .ok (.if_icmp .eq 40, 3) := by decide +kernel
theorem d_Mo_puts_40 : decode m_Mo_puts.2.1 40 = .ok (.iload_n 0, 1) := by decide +kernel
theorem d_Mo_puts_41 : decode m_Mo_puts.2.1 41 = .ok (.bipush 96, 2) := by decide +kernel
theorem d_Mo_puts_43 : decode m_Mo_puts.2.1 43 = .ok (.if_icmp .eq 34, 3) := by decide +kernel
theorem d_Mo_puts_46 : decode m_Mo_puts.2.1 46 = .ok (.iload_n 0, 1) := by decide +kernel
theorem d_Mo_puts_47 : decode m_Mo_puts.2.1 47 = .ok (.bipush 100, 2) := by decide +kernel
theorem d_Mo_puts_49 : decode m_Mo_puts.2.1 49 = .ok (.if_icmp .eq 28, 3) := by decide +kernel
theorem d_Mo_puts_52 : decode m_Mo_puts.2.1 52 = .ok (.iload_n 0, 1) := by decide +kernel
theorem d_Mo_puts_53 : decode m_Mo_puts.2.1 53 = .ok (.bipush 104, 2) := by decide +kernel
theorem d_Mo_puts_55 : decode m_Mo_puts.2.1 55 = .ok (.if_icmp .eq 22, 3) := by decide +kernel
theorem d_Mo_puts_58 : decode m_Mo_puts.2.1 58 = .ok (.iload_n 0, 1) := by decide +kernel
theorem d_Mo_puts_59 : decode m_Mo_puts.2.1 59 = .ok (.bipush 108, 2) := by decide +kernel
theorem d_Mo_puts_61 : decode m_Mo_puts.2.1 61 = .ok (.if_icmp .eq 16, 3) := by decide +kernel
theorem d_Mo_puts_64 : decode m_Mo_puts.2.1 64 = .ok (.iload_n 0, 1) := by decide +kernel
theorem d_Mo_puts_65 : decode m_Mo_puts.2.1 65 = .ok (.bipush 116, 2) := by decide +kernel
theorem d_Mo_puts_67 : decode m_Mo_puts.2.1 67 = .ok (.if_icmp .eq 10, 3) := by decide +kernel
theorem d_Mo_puts_70 : decode m_Mo_puts.2.1 70 = .ok (.iload_n 0, 1) := by decide +kernel
theorem d_Mo_puts_71 : decode m_Mo_puts.2.1 71 = .ok (.sipush 190, 3) := by decide +kernel
theorem d_Mo_puts_74 : decode m_Mo_puts.2.1 74 = .ok (.if_icmp .ne 7, 3) := by decide +kernel
theorem d_Mo_puts_77 : decode m_Mo_puts.2.1 77 = .ok (.iconst 1, 1) := by decide +kernel
theorem d_Mo_puts_78 : decode m_Mo_puts.2.1 78 = .ok (.goto 4, 3) := by decide +kernel
theorem d_Mo_puts_81 : decode m_Mo_puts.2.1 81 = .ok (.iconst 0, 1) := by decide +kernel
theorem d_Mo_puts_82 : decode m_Mo_puts.2.1 82 = .ok (.istore_n 1, 1) := by decide +kernel
theorem d_Mo_puts_83 : decode m_Mo_puts.2.1 83 = .ok (.iload_n 1, 1) := by decide +kernel
theorem d_Mo_puts_84 : decode m_Mo_puts.2.1 84 = .ok (.ifCond .eq 7, 3) := by decide +kernel
theorem d_Mo_puts_87 : decode m_Mo_puts.2.1 87 = .ok (.iconst 1, 1) := by decide +kernel
theorem d_Mo_puts_88 : decode m_Mo_puts.2.1 88 = .ok (.goto 4, 3) := by decide +kernel
theorem d_Mo_puts_91 : decode m_Mo_puts.2.1 91 = .ok (.iconst 0, 1) := by decide +kernel
theorem d_Mo_puts_92 : decode m_Mo_puts.2.1 92 = .ok (.ireturn, 1) := by decide +kernel
theorem d_Mo_type_0 : decode m_Mo_type.2.1 0 = .ok (.aload_n 0, 1) := by decide +kernel
theorem d_Mo_type_1 : decode m_Mo_type.2.1 1 = .ok (.iload_n 3, 1) := by decide +kernel
theorem d_Mo_type_2 : decode m_Mo_type.2.1 2 = .ok (.iconst 1, 1) := by decide +kernel
theorem d_Mo_type_3 : decode m_Mo_type.2.1 3 = .ok (.bipush 8, 2) := by decide +kernel
theorem d_Mo_type_5 : decode m_Mo_type.2.1 5 = .ok (.invokestatic 47, 3) := by decide +kernel
theorem d_Mo_type_8 : decode m_Mo_type.2.1 8 = .ok (.ifCond .ne 7, 3) := by decide +kernel
theorem d_Mo_type_11 : decode m_Mo_type.2.1 11 = .ok (.iconst 1, 1) := by decide +kernel
theorem d_Mo_type_12 : decode m_Mo_type.2.1 12 = .ok (.goto 20, 3) := by decide +kernel
theorem d_Mo_type_15 : decode m_Mo_type.2.1 15 = .ok (.aload_n 0, 1) := by decide +kernel
theorem d_Mo_type_16 : decode m_Mo_type.2.1 16 = .ok (.getfield 61, 3) := by decide +kernel
theorem d_Mo_type_19 : decode m_Mo_type.2.1 19 = .ok (.iload_n 3, 1) := by decide +kernel
theorem d_Mo_type_20 : decode m_Mo_type.2.1 20 = .ok (.iadd, 1) := by decide +kernel
theorem d_Mo_type_21 : decode m_Mo_type.2.1 21 = .ok (.sipush 240, 3) := by decide +kernel
theorem d_Mo_type_24 : decode m_Mo_type.2.1 24 = .ok (.if_icmp .le 7, 3) := by decide +kernel
theorem d_Mo_type_27 : decode m_Mo_type.2.1 27 = .ok (.iconst 2, 1) := by decide +kernel
theorem d_Mo_type_28 : decode m_Mo_type.2.1 28 = .ok (.goto 4, 3) := by decide +kernel
theorem d_Mo_type_31 : decode m_Mo_type.2.1 31 = .ok (.iconst 0, 1) := by decide +kernel
theorem d_Mo_type_32 : decode m_Mo_type.2.1 32 = .ok (.putfield 43, 3) := by decide +kernel
theorem d_Mo_type_35 : decode m_Mo_type.2.1 35 = .ok (.aload_n 0, 1) := by decide +kernel
theorem d_Mo_type_36 : decode m_Mo_type.2.1 36 = .ok (.getfield 43, 3) := by decide +kernel
theorem d_Mo_type_39 : decode m_Mo_type.2.1 39 = .ok (.ifCond .le 5, 3) := by decide +kernel
theorem d_Mo_type_42 : decode m_Mo_type.2.1 42 = .ok (.iconst 0, 1) := by decide +kernel
theorem d_Mo_type_43 : decode m_Mo_type.2.1 43 = .ok (.ireturn, 1) := by decide +kernel
theorem d_Mo_type_44 : decode m_Mo_type.2.1 44 = .ok (.iload_n 3, 1) := by decide +kernel
theorem d_Mo_type_45 : decode m_Mo_type.2.1 45 = .ok (.iconst 1, 1) := by decide +kernel
theorem d_Mo_type_46 : decode m_Mo_type.2.1 46 = .ok (.isub, 1) := by decide +kernel
theorem d_Mo_type_47 : decode m_Mo_type.2.1 47 = .ok (.istore 4, 2) := by decide +kernel
theorem d_Mo_type_49 : decode m_Mo_type.2.1 49 = .ok (.iload 4, 2) := by decide +kernel
theorem d_Mo_type_51 : decode m_Mo_type.2.1 51 = .ok (.ifCond .lt 40, 3) := by decide +kernel
theorem d_Mo_type_54 : decode m_Mo_type.2.1 54 = .ok (.aload_n 0, 1) := by decide +kernel
theorem d_Mo_type_55 : decode m_Mo_type.2.1 55 = .ok (.getfield 7, 3) := by decide +kernel
theorem d_Mo_type_58 : decode m_Mo_type.2.1 58 = .ok (.aload_n 0, 1) := by decide +kernel
theorem d_Mo_type_59 : decode m_Mo_type.2.1 59 = .ok (.getfield 61, 3) := by decide +kernel
theorem d_Mo_type_62 : decode m_Mo_type.2.1 62 = .ok (.lload_n 1, 1) := by decide +kernel
theorem d_Mo_type_63 : decode m_Mo_type.2.1 63 = .ok (.bipush 8, 2) := by decide +kernel
theorem d_Mo_type_65 : decode m_Mo_type.2.1 65 = .ok (.iload 4, 2) := by decide +kernel
theorem d_Mo_type_67 : decode m_Mo_type.2.1 67 = .ok (.imul, 1) := by decide +kernel
theorem d_Mo_type_68 : decode m_Mo_type.2.1 68 = .ok (.lshr, 1) := by decide +kernel
theorem d_Mo_type_69 : decode m_Mo_type.2.1 69 = .ok (.l2i, 1) := by decide +kernel
theorem d_Mo_type_70 : decode m_Mo_type.2.1 70 = .ok (.sipush 255, 3) := by decide +kernel
theorem d_Mo_type_73 : decode m_Mo_type.2.1 73 = .ok (.iand, 1) := by decide +kernel
theorem d_Mo_type_74 : decode m_Mo_type.2.1 74 = .ok (.iastore, 1) := by decide +kernel
theorem d_Mo_type_75 : decode m_Mo_type.2.1 75 = .ok (.aload_n 0, 1) := by decide +kernel
theorem d_Mo_type_76 : decode m_Mo_type.2.1 76 = .ok (.dup, 1) := by decide +kernel
theorem d_Mo_type_77 : decode m_Mo_type.2.1 77 = .ok (.getfield 61, 3) := by decide +kernel
theorem d_Mo_type_80 : decode m_Mo_type.2.1 80 = .ok (.iconst 1, 1) := by decide +kernel
theorem d_Mo_type_81 : decode m_Mo_type.2.1 81 = .ok (.iadd, 1) := by decide +kernel
theorem d_Mo_type_82 : decode m_Mo_type.2.1 82 = .ok (.putfield 61, 3) := by decide +kernel
theorem d_Mo_type_85 : decode m_Mo_type.2.1 85 = .ok (.iinc 4 (-1), 3) := by decide +kernel
theorem d_Mo_type_88 : decode m_Mo_type.2.1 88 = .ok (.goto (-39), 3) := by decide +kernel
theorem d_Mo_type_91 : decode m_Mo_type.2.1 91 = .ok (.aload_n 0, 1) := by decide +kernel
theorem d_Mo_type_92 : decode m_Mo_type.2.1 92 = .ok (.getfield 61, 3) := by decide +kernel
theorem d_Mo_type_95 : decode m_Mo_type.2.1 95 = .ok (.ireturn, 1) := by decide +kernel
theorem d_Mo_poke_0 : decode m_Mo_poke.2.1 0 = .ok (.aload_n 0, 1) := by decide +kernel
theorem d_Mo_poke_1 : decode m_Mo_poke.2.1 1 = .ok (.iload_n 1, 1) := by decide +kernel
theorem d_Mo_poke_2 : decode m_Mo_poke.2.1 2 = .ok (.iconst 0, 1) := by decide +kernel
theorem d_Mo_poke_3 : decode m_Mo_poke.2.1 3 = .ok (.aload_n 0, 1) := by decide +kernel
theorem d_Mo_poke_4 : decode m_Mo_poke.2.1 4 = .ok (.getfield 61, 3) := by decide +kernel
theorem d_Mo_poke_7 : decode m_Mo_poke.2.1 7 = .ok (.iconst 1, 1) := by decide +kernel
theorem d_Mo_poke_8 : decode m_Mo_poke.2.1 8 = .ok (.isub, 1) := by decide +kernel
theorem d_Mo_poke_9 : decode m_Mo_poke.2.1 9 = .ok (.invokestatic 47, 3) := by decide +kernel
theorem d_Mo_poke_12 : decode m_Mo_poke.2.1 12 = .ok (.ifCond .ne 7, 3) := by decide +kernel
theorem d_Mo_poke_15 : decode m_Mo_poke.2.1 15 = .ok (.iconst 1, 1) := by decide +kernel
theorem d_Mo_poke_16 : decode m_Mo_poke.2.1 16 = .ok (.goto 19, 3) := by decide +kernel
theorem d_Mo_poke_19 : decode m_Mo_poke.2.1 19 = .ok (.iload_n 2, 1) := by decide +kernel
theorem d_Mo_poke_20 : decode m_Mo_poke.2.1 20 = .ok (.iconst 0, 1) := by decide +kernel
theorem d_Mo_poke_21 : decode m_Mo_poke.2.1 21 = .ok (.sipush 255, 3) := by decide +kernel
theorem d_Mo_poke_24 : decode m_Mo_poke.2.1 24 = .ok (.invokestatic 47, 3) := by decide +kernel
theorem d_Mo_poke_27 : decode m_Mo_poke.2.1 27 = .ok (.ifCond .eq 7, 3) := by decide +kernel
theorem d_Mo_poke_30 : decode m_Mo_poke.2.1 30 = .ok (.iconst 0, 1) := by decide +kernel
theorem d_Mo_poke_31 : decode m_Mo_poke.2.1 31 = .ok (.goto 4, 3) := by decide +kernel
theorem d_Mo_poke_34 : decode m_Mo_poke.2.1 34 = .ok (.iconst 2, 1) := by decide +kernel
theorem d_Mo_poke_35 : decode m_Mo_poke.2.1 35 = .ok (.putfield 43, 3) := by decide +kernel
