theorem dX9_soonest_48 : decode cX9_soonest 48 = .ok (.if_icmp .lt 5, 3) := by decide +kernel
theorem dX9_soonest_51 : decode cX9_soonest 51 = .ok (.iload_n 2, 1) := by decide +kernel
theorem dX9_soonest_52 : decode cX9_soonest 52 = .ok (.ireturn, 1) := by decide +kernel
theorem dX9_soonest_53 : decode cX9_soonest 53 = .ok (.iinc 2 1, 3) := by decide +kernel
theorem dX9_soonest_56 : decode cX9_soonest 56 = .ok (.goto (-22), 3) := by decide +kernel
theorem dX9_soonest_59 : decode cX9_soonest 59 = .ok (.iconst (-1), 1) := by decide +kernel
theorem dX9_soonest_60 : decode cX9_soonest 60 = .ok (.ireturn, 1) := by decide +kernel
theorem dX9_dark_0 : decode cX9_dark 0 = .ok (.aload_n 0, 1) := by decide +kernel
theorem dX9_dark_1 : decode cX9_dark 1 = .ok (.iconst 0, 1) := by decide +kernel
theorem dX9_dark_2 : decode cX9_dark 2 = .ok (.putfield 1, 3) := by decide +kernel
theorem dX9_dark_5 : decode cX9_dark 5 = .ok (.iconst 1, 1) := by decide +kernel
theorem dX9_dark_6 : decode cX9_dark 6 = .ok (.aload_n 0, 1) := by decide +kernel
theorem dX9_dark_7 : decode cX9_dark 7 = .ok (.getfield 13, 3) := by decide +kernel
theorem dX9_dark_10 : decode cX9_dark 10 = .ok (.iconst 0, 1) := by decide +kernel
theorem dX9_dark_11 : decode cX9_dark 11 = .ok (.iaload, 1) := by decide +kernel
theorem dX9_dark_12 : decode cX9_dark 12 = .ok (.ishl, 1) := by decide +kernel
theorem dX9_dark_13 : decode cX9_dark 13 = .ok (.iconst 1, 1) := by decide +kernel
theorem dX9_dark_14 : decode cX9_dark 14 = .ok (.isub, 1) := by decide +kernel
theorem dX9_dark_15 : decode cX9_dark 15 = .ok (.istore_n 1, 1) := by decide +kernel
theorem dX9_dark_16 : decode cX9_dark 16 = .ok (.iconst 0, 1) := by decide +kernel
theorem dX9_dark_17 : decode cX9_dark 17 = .ok (.istore_n 2, 1) := by decide +kernel
theorem dX9_dark_18 : decode cX9_dark 18 = .ok (.iload_n 2, 1) := by decide +kernel
theorem dX9_dark_19 : decode cX9_dark 19 = .ok (.aload_n 0, 1) := by decide +kernel
theorem dX9_dark_20 : decode cX9_dark 20 = .ok (.getfield 13, 3) := by decide +kernel
theorem dX9_dark_23 : decode cX9_dark 23 = .ok (.iconst 0, 1) := by decide +kernel
theorem dX9_dark_24 : decode cX9_dark 24 = .ok (.iaload, 1) := by decide +kernel
theorem dX9_dark_25 : decode cX9_dark 25 = .ok (.if_icmp .ge 25, 3) := by decide +kernel
theorem dX9_dark_28 : decode cX9_dark 28 = .ok (.iload_n 1, 1) := by decide +kernel
theorem dX9_dark_29 : decode cX9_dark 29 = .ok (.aload_n 0, 1) := by decide +kernel
theorem dX9_dark_30 : decode cX9_dark 30 = .ok (.iload_n 2, 1) := by decide +kernel
theorem dX9_dark_31 : decode cX9_dark 31 = .ok (.aload_n 0, 1) := by decide +kernel
theorem dX9_dark_32 : decode cX9_dark 32 = .ok (.getfield 13, 3) := by decide +kernel
theorem dX9_dark_35 : decode cX9_dark 35 = .ok (.iconst 3, 1) := by decide +kernel
theorem dX9_dark_36 : decode cX9_dark 36 = .ok (.iaload, 1) := by decide +kernel
theorem dX9_dark_37 : decode cX9_dark 37 = .ok (.invokevirtual 188, 3) := by decide +kernel
theorem dX9_dark_40 : decode cX9_dark 40 = .ok (.iconst (-1), 1) := by decide +kernel
theorem dX9_dark_41 : decode cX9_dark 41 = .ok (.ixor, 1) := by decide +kernel
theorem dX9_dark_42 : decode cX9_dark 42 = .ok (.iand, 1) := by decide +kernel
theorem dX9_dark_43 : decode cX9_dark 43 = .ok (.istore_n 1, 1) := by decide +kernel
theorem dX9_dark_44 : decode cX9_dark 44 = .ok (.iinc 2 1, 3) := by decide +kernel
theorem dX9_dark_47 : decode cX9_dark 47 = .ok (.goto (-29), 3) := by decide +kernel
theorem dX9_dark_50 : decode cX9_dark 50 = .ok (.iload_n 1, 1) := by decide +kernel
theorem dX9_dark_51 : decode cX9_dark 51 = .ok (.ireturn, 1) := by decide +kernel
theorem dX9_isMet_0 : decode cX9_isMet 0 = .ok (.iconst 0, 1) := by decide +kernel
theorem dX9_isMet_1 : decode cX9_isMet 1 = .ok (.istore_n 1, 1) := by decide +kernel
theorem dX9_isMet_2 : decode cX9_isMet 2 = .ok (.iload_n 1, 1) := by decide +kernel
theorem dX9_isMet_3 : decode cX9_isMet 3 = .ok (.aload_n 0, 1) := by decide +kernel
theorem dX9_isMet_4 : decode cX9_isMet 4 = .ok (.getfield 280, 3) := by decide +kernel
theorem dX9_isMet_7 : decode cX9_isMet 7 = .ok (.if_icmp .ge 62, 3) := by decide +kernel
theorem dX9_isMet_10 : decode cX9_isMet 10 = .ok (.iconst 0, 1) := by decide +kernel
theorem dX9_isMet_11 : decode cX9_isMet 11 = .ok (.istore_n 2, 1) := by decide +kernel
theorem dX9_isMet_12 : decode cX9_isMet 12 = .ok (.iload_n 2, 1) := by decide +kernel
theorem dX9_isMet_13 : decode cX9_isMet 13 = .ok (.aload_n 0, 1) := by decide +kernel
theorem dX9_isMet_14 : decode cX9_isMet 14 = .ok (.getfield 13, 3) := by decide +kernel
theorem dX9_isMet_17 : decode cX9_isMet 17 = .ok (.iconst 0, 1) := by decide +kernel
theorem dX9_isMet_18 : decode cX9_isMet 18 = .ok (.iaload, 1) := by decide +kernel
theorem dX9_isMet_19 : decode cX9_isMet 19 = .ok (.if_icmp .ge 32, 3) := by decide +kernel
theorem dX9_isMet_22 : decode cX9_isMet 22 = .ok (.aload_n 0, 1) := by decide +kernel
theorem dX9_isMet_23 : decode cX9_isMet 23 = .ok (.getfield 45, 3) := by decide +kernel
theorem dX9_isMet_26 : decode cX9_isMet 26 = .ok (.bipush 16, 2) := by decide +kernel
theorem dX9_isMet_28 : decode cX9_isMet 28 = .ok (.iload_n 1, 1) := by decide +kernel
theorem dX9_isMet_29 : decode cX9_isMet 29 = .ok (.imul, 1) := by decide +kernel
theorem dX9_isMet_30 : decode cX9_isMet 30 = .ok (.iload_n 2, 1) := by decide +kernel
theorem dX9_isMet_31 : decode cX9_isMet 31 = .ok (.iadd, 1) := by decide +kernel
theorem dX9_isMet_32 : decode cX9_isMet 32 = .ok (.iaload, 1) := by decide +kernel
theorem dX9_isMet_33 : decode cX9_isMet 33 = .ok (.aload_n 0, 1) := by decide +kernel
theorem dX9_isMet_34 : decode cX9_isMet 34 = .ok (.getfield 13, 3) := by decide +kernel
theorem dX9_isMet_37 : decode cX9_isMet 37 = .ok (.bipush 16, 2) := by decide +kernel
theorem dX9_isMet_39 : decode cX9_isMet 39 = .ok (.iload_n 2, 1) := by decide +kernel
theorem dX9_isMet_40 : decode cX9_isMet 40 = .ok (.iadd, 1) := by decide +kernel
theorem dX9_isMet_41 : decode cX9_isMet 41 = .ok (.iaload, 1) := by decide +kernel
theorem dX9_isMet_42 : decode cX9_isMet 42 = .ok (.if_icmp .ne 9, 3) := by decide +kernel
theorem dX9_isMet_45 : decode cX9_isMet 45 = .ok (.iinc 2 1, 3) := by decide +kernel
theorem dX9_isMet_48 : decode cX9_isMet 48 = .ok (.goto (-36), 3) := by decide +kernel
theorem dX9_isMet_51 : decode cX9_isMet 51 = .ok (.iload_n 2, 1) := by decide +kernel
theorem dX9_isMet_52 : decode cX9_isMet 52 = .ok (.aload_n 0, 1) := by decide +kernel
theorem dX9_isMet_53 : decode cX9_isMet 53 = .ok (.getfield 13, 3) := by decide +kernel
theorem dX9_isMet_56 : decode cX9_isMet 56 = .ok (.iconst 0, 1) := by decide +kernel
theorem dX9_isMet_57 : decode cX9_isMet 57 = .ok (.iaload, 1) := by decide +kernel
theorem dX9_isMet_58 : decode cX9_isMet 58 = .ok (.if_icmp .ne 5, 3) := by decide +kernel
theorem dX9_isMet_61 : decode cX9_isMet 61 = .ok (.iconst 1, 1) := by decide +kernel
theorem dX9_isMet_62 : decode cX9_isMet 62 = .ok (.ireturn, 1) := by decide +kernel
theorem dX9_isMet_63 : decode cX9_isMet 63 = .ok (.iinc 1 1, 3) := by decide +kernel
theorem dX9_isMet_66 : decode cX9_isMet 66 = .ok (.goto (-64), 3) := by decide +kernel
theorem dX9_isMet_69 : decode cX9_isMet 69 = .ok (.iconst 0, 1) := by decide +kernel
theorem dX9_isMet_70 : decode cX9_isMet 70 = .ok (.ireturn, 1) := by decide +kernel
theorem dX9_gathers_0 : decode cX9_gathers 0 = .ok (.iload_n 1, 1) := by decide +kernel
theorem dX9_gathers_1 : decode cX9_gathers 1 = .ok (.iload_n 2, 1) := by decide +kernel
theorem dX9_gathers_2 : decode cX9_gathers 2 = .ok (.if_icmp .ne 63, 3) := by decide +kernel
theorem dX9_gathers_5 : decode cX9_gathers 5 = .ok (.aload_n 0, 1) := by decide +kernel
theorem dX9_gathers_6 : decode cX9_gathers 6 = .ok (.invokevirtual 283, 3) := by decide +kernel
theorem dX9_gathers_9 : decode cX9_gathers 9 = .ok (.ifCond .eq 4, 3) := by decide +kernel
theorem dX9_gathers_12 : decode cX9_gathers 12 = .ok (.return_, 1) := by decide +kernel
theorem dX9_gathers_13 : decode cX9_gathers 13 = .ok (.iconst 0, 1) := by decide +kernel
theorem dX9_gathers_14 : decode cX9_gathers 14 = .ok (.istore_n 3, 1) := by decide +kernel
theorem dX9_gathers_15 : decode cX9_gathers 15 = .ok (.iload_n 3, 1) := by decide +kernel
theorem dX9_gathers_16 : decode cX9_gathers 16 = .ok (.aload_n 0, 1) := by decide +kernel
theorem dX9_gathers_17 : decode cX9_gathers 17 = .ok (.getfield 13, 3) := by decide +kernel
theorem dX9_gathers_20 : decode cX9_gathers 20 = .ok (.iconst 0, 1) := by decide +kernel
theorem dX9_gathers_21 : decode cX9_gathers 21 = .ok (.iaload, 1) := by decide +kernel
theorem dX9_gathers_22 : decode cX9_gathers 22 = .ok (.if_icmp .ge 32, 3) := by decide +kernel
theorem dX9_gathers_25 : decode cX9_gathers 25 = .ok (.aload_n 0, 1) := by decide +kernel
theorem dX9_gathers_26 : decode cX9_gathers 26 = .ok (.getfield 45, 3) := by decide +kernel
theorem dX9_gathers_29 : decode cX9_gathers 29 = .ok (.bipush 16, 2) := by decide +kernel
theorem dX9_gathers_31 : decode cX9_gathers 31 = .ok (.aload_n 0, 1) := by decide +kernel
theorem dX9_gathers_32 : decode cX9_gathers 32 = .ok (.getfield 280, 3) := by decide +kernel
theorem dX9_gathers_35 : decode cX9_gathers 35 = .ok (.imul, 1) := by decide +kernel
theorem dX9_gathers_36 : decode cX9_gathers 36 = .ok (.iload_n 3, 1) := by decide +kernel
theorem dX9_gathers_37 : decode cX9_gathers 37 = .ok (.iadd, 1) := by decide +kernel
theorem dX9_gathers_38 : decode cX9_gathers 38 = .ok (.aload_n 0, 1) := by decide +kernel
theorem dX9_gathers_39 : decode cX9_gathers 39 = .ok (.getfield 13, 3) := by decide +kernel
theorem dX9_gathers_42 : decode cX9_gathers 42 = .ok (.bipush 16, 2) := by decide +kernel
theorem dX9_gathers_44 : decode cX9_gathers 44 = .ok (.iload_n 3, 1) := by decide +kernel
theorem dX9_gathers_45 : decode cX9_gathers 45 = .ok (.iadd, 1) := by decide +kernel
theorem dX9_gathers_46 : decode cX9_gathers 46 = .ok (.iaload, 1) := by decide +kernel
theorem dX9_gathers_47 : decode cX9_gathers 47 = .ok (.iastore, 1) := by decide +kernel
theorem dX9_gathers_48 : decode cX9_gathers 48 = .ok (.iinc 3 1, 3) := by decide +kernel
theorem dX9_gathers_51 : decode cX9_gathers 51 = .ok (.goto (-36), 3) := by decide +kernel
theorem dX9_gathers_54 : decode cX9_gathers 54 = .ok (.aload_n 0, 1) := by decide +kernel
theorem dX9_gathers_55 : decode cX9_gathers 55 = .ok (.dup, 1) := by decide +kernel
theorem dX9_gathers_56 : decode cX9_gathers 56 = .ok (.getfield 280, 3) := by decide +kernel
theorem dX9_gathers_59 : decode cX9_gathers 59 = .ok (.iconst 1, 1) := by decide +kernel
theorem dX9_gathers_60 : decode cX9_gathers 60 = .ok (.iadd, 1) := by decide +kernel
theorem dX9_gathers_61 : decode cX9_gathers 61 = .ok (.putfield 280, 3) := by decide +kernel
theorem dX9_gathers_64 : decode cX9_gathers 64 = .ok (.return_, 1) := by decide +kernel
theorem dX9_gathers_65 : decode cX9_gathers 65 = .ok (.aload_n 0, 1) := by decide +kernel
theorem dX9_gathers_66 : decode cX9_gathers 66 = .ok (.iload_n 1, 1) := by decide +kernel
theorem dX9_gathers_67 : decode cX9_gathers 67 = .ok (.invokevirtual 216, 3) := by decide +kernel
theorem dX9_gathers_70 : decode cX9_gathers 70 = .ok (.iconst 0, 1) := by decide +kernel
theorem dX9_gathers_71 : decode cX9_gathers 71 = .ok (.istore_n 3, 1) := by decide +kernel
theorem dX9_gathers_72 : decode cX9_gathers 72 = .ok (.iload_n 3, 1) := by decide +kernel
theorem dX9_gathers_73 : decode cX9_gathers 73 = .ok (.iconst 3, 1) := by decide +kernel
theorem dX9_gathers_74 : decode cX9_gathers 74 = .ok (.if_icmp .ge 41, 3) := by decide +kernel
theorem dX9_gathers_77 : decode cX9_gathers 77 = .ok (.aload_n 0, 1) := by decide +kernel
theorem dX9_gathers_78 : decode cX9_gathers 78 = .ok (.iload_n 3, 1) := by decide +kernel
theorem dX9_gathers_79 : decode cX9_gathers 79 = .ok (.i2l, 1) := by decide +kernel
theorem dX9_gathers_80 : decode cX9_gathers 80 = .ok (.invokevirtual 202, 3) := by decide +kernel
theorem dX9_gathers_83 : decode cX9_gathers 83 = .ok (.ifCond .eq 6, 3) := by decide +kernel
theorem dX9_gathers_86 : decode cX9_gathers 86 = .ok (.goto 23, 3) := by decide +kernel
theorem dX9_gathers_89 : decode cX9_gathers 89 = .ok (.aload_n 0, 1) := by decide +kernel
theorem dX9_gathers_90 : decode cX9_gathers 90 = .ok (.iload_n 3, 1) := by decide +kernel
theorem dX9_gathers_91 : decode cX9_gathers 91 = .ok (.iconst 0, 1) := by decide +kernel
theorem dX9_gathers_92 : decode cX9_gathers 92 = .ok (.invokevirtual 206, 3) := by decide +kernel
theorem dX9_gathers_95 : decode cX9_gathers 95 = .ok (.pop, 1) := by decide +kernel
theorem dX9_gathers_96 : decode cX9_gathers 96 = .ok (.aload_n 0, 1) := by decide +kernel
theorem dX9_gathers_97 : decode cX9_gathers 97 = .ok (.iload_n 1, 1) := by decide +kernel
theorem dX9_gathers_98 : decode cX9_gathers 98 = .ok (.iconst 1, 1) := by decide +kernel
theorem dX9_gathers_99 : decode cX9_gathers 99 = .ok (.iadd, 1) := by decide +kernel
theorem dX9_gathers_100 : decode cX9_gathers 100 = .ok (.iload_n 2, 1) := by decide +kernel
theorem dX9_gathers_101 : decode cX9_gathers 101 = .ok (.invokevirtual 287, 3) := by decide +kernel
theorem dX9_gathers_104 : decode cX9_gathers 104 = .ok (.aload_n 0, 1) := by decide +kernel
theorem dX9_gathers_105 : decode cX9_gathers 105 = .ok (.iload_n 1, 1) := by decide +kernel
theorem dX9_gathers_106 : decode cX9_gathers 106 = .ok (.invokevirtual 222, 3) := by decide +kernel
theorem dX9_gathers_109 : decode cX9_gathers 109 = .ok (.iinc 3 1, 3) := by decide +kernel
theorem dX9_gathers_112 : decode cX9_gathers 112 = .ok (.goto (-40), 3) := by decide +kernel
theorem dX9_gathers_115 : decode cX9_gathers 115 = .ok (.return_, 1) := by decide +kernel
theorem dX9_ends_0 : decode cX9_ends 0 = .ok (.aload_n 0, 1) := by decide +kernel
theorem dX9_ends_1 : decode cX9_ends 1 = .ok (.iconst 0, 1) := by decide +kernel
theorem dX9_ends_2 : decode cX9_ends 2 = .ok (.putfield 1, 3) := by decide +kernel
theorem dX9_ends_5 : decode cX9_ends 5 = .ok (.iload_n 1, 1) := by decide +kernel
theorem dX9_ends_6 : decode cX9_ends 6 = .ok (.i2l, 1) := by decide +kernel
theorem dX9_ends_7 : decode cX9_ends 7 = .ok (.lconst 1, 1) := by decide +kernel
theorem dX9_ends_8 : decode cX9_ends 8 = .ok (.ldc2_w 276, 3) := by decide +kernel
theorem dX9_ends_11 : decode cX9_ends 11 = .ok (.invokestatic 128, 3) := by decide +kernel
theorem dX9_ends_14 : decode cX9_ends 14 = .ok (.ifCond .ne 6, 3) := by decide +kernel
theorem dX9_ends_17 : decode cX9_ends 17 = .ok (.bipush (-3), 2) := by decide +kernel
theorem dX9_ends_19 : decode cX9_ends 19 = .ok (.ireturn, 1) := by decide +kernel
theorem dX9_ends_20 : decode cX9_ends 20 = .ok (.aload_n 0, 1) := by decide +kernel
theorem dX9_ends_21 : decode cX9_ends 21 = .ok (.getfield 13, 3) := by decide +kernel
theorem dX9_ends_24 : decode cX9_ends 24 = .ok (.iconst 0, 1) := by decide +kernel
theorem dX9_ends_25 : decode cX9_ends 25 = .ok (.iaload, 1) := by decide +kernel
theorem dX9_ends_26 : decode cX9_ends 26 = .ok (.ifCond .ne 6, 3) := by decide +kernel
theorem dX9_ends_29 : decode cX9_ends 29 = .ok (.bipush (-5), 2) := by decide +kernel
theorem dX9_ends_31 : decode cX9_ends 31 = .ok (.ireturn, 1) := by decide +kernel
theorem dX9_ends_32 : decode cX9_ends 32 = .ok (.aload_n 0, 1) := by decide +kernel
theorem dX9_ends_33 : decode cX9_ends 33 = .ok (.iconst 0, 1) := by decide +kernel
theorem dX9_ends_34 : decode cX9_ends 34 = .ok (.putfield 280, 3) := by decide +kernel
theorem dX9_ends_37 : decode cX9_ends 37 = .ok (.aload_n 0, 1) := by decide +kernel
theorem dX9_ends_38 : decode cX9_ends 38 = .ok (.iconst 0, 1) := by decide +kernel
theorem dX9_ends_39 : decode cX9_ends 39 = .ok (.aload_n 0, 1) := by decide +kernel
theorem dX9_ends_40 : decode cX9_ends 40 = .ok (.iload_n 1, 1) := by decide +kernel
theorem dX9_ends_41 : decode cX9_ends 41 = .ok (.invokevirtual 260, 3) := by decide +kernel
theorem dX9_ends_44 : decode cX9_ends 44 = .ok (.invokevirtual 287, 3) := by decide +kernel
theorem dX9_ends_47 : decode cX9_ends 47 = .ok (.aload_n 0, 1) := by decide +kernel
theorem dX9_ends_48 : decode cX9_ends 48 = .ok (.getfield 280, 3) := by decide +kernel
theorem dX9_ends_51 : decode cX9_ends 51 = .ok (.ireturn, 1) := by decide +kernel
theorem dX9_bitsOf_0 : decode cX9_bitsOf 0 = .ok (.iconst 0, 1) := by decide +kernel
theorem dX9_bitsOf_1 : decode cX9_bitsOf 1 = .ok (.istore_n 1, 1) := by decide +kernel
theorem dX9_bitsOf_2 : decode cX9_bitsOf 2 = .ok (.iconst 0, 1) := by decide +kernel
theorem dX9_bitsOf_3 : decode cX9_bitsOf 3 = .ok (.istore_n 2, 1) := by decide +kernel
theorem dX9_bitsOf_4 : decode cX9_bitsOf 4 = .ok (.iload_n 2, 1) := by decide +kernel
theorem dX9_bitsOf_5 : decode cX9_bitsOf 5 = .ok (.bipush 16, 2) := by decide +kernel
theorem dX9_bitsOf_7 : decode cX9_bitsOf 7 = .ok (.if_icmp .ge 17, 3) := by decide +kernel
theorem dX9_bitsOf_10 : decode cX9_bitsOf 10 = .ok (.iload_n 1, 1) := by decide +kernel
theorem dX9_bitsOf_11 : decode cX9_bitsOf 11 = .ok (.iload_n 0, 1) := by decide +kernel
theorem dX9_bitsOf_12 : decode cX9_bitsOf 12 = .ok (.iload_n 2, 1) := by decide +kernel
theorem dX9_bitsOf_13 : decode cX9_bitsOf 13 = .ok (.ishr, 1) := by decide +kernel
theorem dX9_bitsOf_14 : decode cX9_bitsOf 14 = .ok (.iconst 1, 1) := by decide +kernel
theorem dX9_bitsOf_15 : decode cX9_bitsOf 15 = .ok (.iand, 1) := by decide +kernel
theorem dX9_bitsOf_16 : decode cX9_bitsOf 16 = .ok (.iadd, 1) := by decide +kernel
