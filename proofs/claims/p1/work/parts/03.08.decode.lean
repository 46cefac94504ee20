theorem dX9_feed_37 : decode cX9_feed 37 = .ok (.iload_n 1, 1) := by decide +kernel
theorem dX9_feed_38 : decode cX9_feed 38 = .ok (.goto 39, 3) := by decide +kernel
theorem dX9_feed_41 : decode cX9_feed 41 = .ok (.iload 6, 2) := by decide +kernel
theorem dX9_feed_43 : decode cX9_feed 43 = .ok (.bipush 8, 2) := by decide +kernel
theorem dX9_feed_45 : decode cX9_feed 45 = .ok (.if_icmp .ge 7, 3) := by decide +kernel
theorem dX9_feed_48 : decode cX9_feed 48 = .ok (.iload_n 2, 1) := by decide +kernel
theorem dX9_feed_49 : decode cX9_feed 49 = .ok (.goto 28, 3) := by decide +kernel
theorem dX9_feed_52 : decode cX9_feed 52 = .ok (.iload 6, 2) := by decide +kernel
theorem dX9_feed_54 : decode cX9_feed 54 = .ok (.bipush 12, 2) := by decide +kernel
theorem dX9_feed_56 : decode cX9_feed 56 = .ok (.if_icmp .ge 7, 3) := by decide +kernel
theorem dX9_feed_59 : decode cX9_feed 59 = .ok (.iload_n 3, 1) := by decide +kernel
theorem dX9_feed_60 : decode cX9_feed 60 = .ok (.goto 17, 3) := by decide +kernel
theorem dX9_feed_63 : decode cX9_feed 63 = .ok (.iload 6, 2) := by decide +kernel
theorem dX9_feed_65 : decode cX9_feed 65 = .ok (.bipush 16, 2) := by decide +kernel
theorem dX9_feed_67 : decode cX9_feed 67 = .ok (.if_icmp .ge 8, 3) := by decide +kernel
theorem dX9_feed_70 : decode cX9_feed 70 = .ok (.iload 4, 2) := by decide +kernel
theorem dX9_feed_72 : decode cX9_feed 72 = .ok (.goto 5, 3) := by decide +kernel
theorem dX9_feed_75 : decode cX9_feed 75 = .ok (.iload 5, 2) := by decide +kernel
theorem dX9_feed_77 : decode cX9_feed 77 = .ok (.istore 7, 2) := by decide +kernel
theorem dX9_feed_79 : decode cX9_feed 79 = .ok (.aload_n 0, 1) := by decide +kernel
theorem dX9_feed_80 : decode cX9_feed 80 = .ok (.getfield 21, 3) := by decide +kernel
theorem dX9_feed_83 : decode cX9_feed 83 = .ok (.aload_n 0, 1) := by decide +kernel
theorem dX9_feed_84 : decode cX9_feed 84 = .ok (.getfield 68, 3) := by decide +kernel
theorem dX9_feed_87 : decode cX9_feed 87 = .ok (.iload 7, 2) := by decide +kernel
theorem dX9_feed_89 : decode cX9_feed 89 = .ok (.bipush 24, 2) := by decide +kernel
theorem dX9_feed_91 : decode cX9_feed 91 = .ok (.bipush 8, 2) := by decide +kernel
theorem dX9_feed_93 : decode cX9_feed 93 = .ok (.iload 6, 2) := by decide +kernel
theorem dX9_feed_95 : decode cX9_feed 95 = .ok (.iconst 4, 1) := by decide +kernel
theorem dX9_feed_96 : decode cX9_feed 96 = .ok (.irem, 1) := by decide +kernel
theorem dX9_feed_97 : decode cX9_feed 97 = .ok (.imul, 1) := by decide +kernel
theorem dX9_feed_98 : decode cX9_feed 98 = .ok (.isub, 1) := by decide +kernel
theorem dX9_feed_99 : decode cX9_feed 99 = .ok (.ishr, 1) := by decide +kernel
theorem dX9_feed_100 : decode cX9_feed 100 = .ok (.sipush 255, 3) := by decide +kernel
theorem dX9_feed_103 : decode cX9_feed 103 = .ok (.iand, 1) := by decide +kernel
theorem dX9_feed_104 : decode cX9_feed 104 = .ok (.iastore, 1) := by decide +kernel
theorem dX9_feed_105 : decode cX9_feed 105 = .ok (.aload_n 0, 1) := by decide +kernel
theorem dX9_feed_106 : decode cX9_feed 106 = .ok (.dup, 1) := by decide +kernel
theorem dX9_feed_107 : decode cX9_feed 107 = .ok (.getfield 68, 3) := by decide +kernel
theorem dX9_feed_110 : decode cX9_feed 110 = .ok (.iconst 1, 1) := by decide +kernel
theorem dX9_feed_111 : decode cX9_feed 111 = .ok (.iadd, 1) := by decide +kernel
theorem dX9_feed_112 : decode cX9_feed 112 = .ok (.putfield 68, 3) := by decide +kernel
theorem dX9_feed_115 : decode cX9_feed 115 = .ok (.iinc 6 1, 3) := by decide +kernel
theorem dX9_feed_118 : decode cX9_feed 118 = .ok (.goto (-94), 3) := by decide +kernel
theorem dX9_feed_121 : decode cX9_feed 121 = .ok (.aload_n 0, 1) := by decide +kernel
theorem dX9_feed_122 : decode cX9_feed 122 = .ok (.getfield 68, 3) := by decide +kernel
theorem dX9_feed_125 : decode cX9_feed 125 = .ok (.ireturn, 1) := by decide +kernel
theorem dX9_see_0 : decode cX9_see 0 = .ok (.iload_n 1, 1) := by decide +kernel
theorem dX9_see_1 : decode cX9_see 1 = .ok (.aload_n 0, 1) := by decide +kernel
theorem dX9_see_2 : decode cX9_see 2 = .ok (.getfield 71, 3) := by decide +kernel
theorem dX9_see_5 : decode cX9_see 5 = .ok (.if_icmp .ge 12, 3) := by decide +kernel
theorem dX9_see_17 : decode cX9_see 17 = .ok (.iconst (-1), 1) := by decide +kernel
theorem dX9_see_18 : decode cX9_see 18 = .ok (.ireturn, 1) := by decide +kernel
theorem dX9_next_0 : decode cX9_next 0 = .ok (.aload_n 0, 1) := by decide +kernel
theorem dX9_next_1 : decode cX9_next 1 = .ok (.aload_n 0, 1) := by decide +kernel
theorem dX9_next_2 : decode cX9_next 2 = .ok (.getfield 89, 3) := by decide +kernel
theorem dX9_next_5 : decode cX9_next 5 = .ok (.putfield 86, 3) := by decide +kernel
theorem dX9_next_8 : decode cX9_next 8 = .ok (.aload_n 0, 1) := by decide +kernel
theorem dX9_next_9 : decode cX9_next 9 = .ok (.aload_n 0, 1) := by decide +kernel
theorem dX9_next_10 : decode cX9_next 10 = .ok (.getfield 86, 3) := by decide +kernel
theorem dX9_next_13 : decode cX9_next 13 = .ok (.invokevirtual 92, 3) := by decide +kernel
theorem dX9_next_16 : decode cX9_next 16 = .ok (.bipush 10, 2) := by decide +kernel
theorem dX9_next_18 : decode cX9_next 18 = .ok (.if_icmp .eq 16, 3) := by decide +kernel
theorem dX9_next_21 : decode cX9_next 21 = .ok (.aload_n 0, 1) := by decide +kernel
theorem dX9_next_22 : decode cX9_next 22 = .ok (.aload_n 0, 1) := by decide +kernel
theorem dX9_next_23 : decode cX9_next 23 = .ok (.getfield 86, 3) := by decide +kernel
theorem dX9_next_26 : decode cX9_next 26 = .ok (.invokevirtual 92, 3) := by decide +kernel
theorem dX9_next_29 : decode cX9_next 29 = .ok (.bipush 32, 2) := by decide +kernel
theorem dX9_next_31 : decode cX9_next 31 = .ok (.if_icmp .ne 16, 3) := by decide +kernel
theorem dX9_next_47 : decode cX9_next 47 = .ok (.aload_n 0, 1) := by decide +kernel
theorem dX9_next_48 : decode cX9_next 48 = .ok (.aload_n 0, 1) := by decide +kernel
theorem dX9_next_49 : decode cX9_next 49 = .ok (.getfield 86, 3) := by decide +kernel
theorem dX9_next_52 : decode cX9_next 52 = .ok (.putfield 89, 3) := by decide +kernel
theorem dX9_next_55 : decode cX9_next 55 = .ok (.aload_n 0, 1) := by decide +kernel
theorem dX9_next_56 : decode cX9_next 56 = .ok (.getfield 86, 3) := by decide +kernel
theorem dX9_next_59 : decode cX9_next 59 = .ok (.aload_n 0, 1) := by decide +kernel
theorem dX9_next_60 : decode cX9_next 60 = .ok (.getfield 71, 3) := by decide +kernel
theorem dX9_next_63 : decode cX9_next 63 = .ok (.if_icmp .lt 12, 3) := by decide +kernel
theorem dX9_next_66 : decode cX9_next 66 = .ok (.aload_n 0, 1) := by decide +kernel
theorem dX9_next_67 : decode cX9_next 67 = .ok (.bipush 16, 2) := by decide +kernel
theorem dX9_next_69 : decode cX9_next 69 = .ok (.putfield 96, 3) := by decide +kernel
theorem dX9_next_72 : decode cX9_next 72 = .ok (.goto 198, 3) := by decide +kernel
theorem dX9_next_270 : decode cX9_next 270 = .ok (.return_, 1) := by decide +kernel
theorem dX9_plain_0 : decode cX9_plain 0 = .ok (.aload_n 0, 1) := by decide +kernel
theorem dX9_plain_1 : decode cX9_plain 1 = .ok (.iconst 0, 1) := by decide +kernel
theorem dX9_plain_2 : decode cX9_plain 2 = .ok (.putfield 1, 3) := by decide +kernel
theorem dX9_plain_5 : decode cX9_plain 5 = .ok (.iload_n 1, 1) := by decide +kernel
theorem dX9_plain_6 : decode cX9_plain 6 = .ok (.i2l, 1) := by decide +kernel
theorem dX9_plain_7 : decode cX9_plain 7 = .ok (.lconst 0, 1) := by decide +kernel
theorem dX9_plain_8 : decode cX9_plain 8 = .ok (.aload_n 0, 1) := by decide +kernel
theorem dX9_plain_9 : decode cX9_plain 9 = .ok (.getfield 68, 3) := by decide +kernel
theorem dX9_plain_12 : decode cX9_plain 12 = .ok (.i2l, 1) := by decide +kernel
theorem dX9_plain_13 : decode cX9_plain 13 = .ok (.invokestatic 128, 3) := by decide +kernel
theorem dX9_plain_16 : decode cX9_plain 16 = .ok (.ifCond .ne 6, 3) := by decide +kernel
theorem dX9_plain_19 : decode cX9_plain 19 = .ok (.bipush (-3), 2) := by decide +kernel
theorem dX9_plain_21 : decode cX9_plain 21 = .ok (.ireturn, 1) := by decide +kernel
theorem dX9_plain_22 : decode cX9_plain 22 = .ok (.aload_n 0, 1) := by decide +kernel
theorem dX9_plain_23 : decode cX9_plain 23 = .ok (.iload_n 1, 1) := by decide +kernel
theorem dX9_plain_24 : decode cX9_plain 24 = .ok (.putfield 71, 3) := by decide +kernel
theorem dX9_plain_27 : decode cX9_plain 27 = .ok (.aload_n 0, 1) := by decide +kernel
theorem dX9_plain_28 : decode cX9_plain 28 = .ok (.iconst 0, 1) := by decide +kernel
theorem dX9_plain_29 : decode cX9_plain 29 = .ok (.putfield 68, 3) := by decide +kernel
theorem dX9_plain_32 : decode cX9_plain 32 = .ok (.aload_n 0, 1) := by decide +kernel
theorem dX9_plain_33 : decode cX9_plain 33 = .ok (.iconst 0, 1) := by decide +kernel
theorem dX9_plain_34 : decode cX9_plain 34 = .ok (.putfield 89, 3) := by decide +kernel
theorem dX9_plain_37 : decode cX9_plain 37 = .ok (.aload_n 0, 1) := by decide +kernel
theorem dX9_plain_38 : decode cX9_plain 38 = .ok (.iconst 0, 1) := by decide +kernel
theorem dX9_plain_39 : decode cX9_plain 39 = .ok (.putfield 112, 3) := by decide +kernel
theorem dX9_plain_42 : decode cX9_plain 42 = .ok (.aload_n 0, 1) := by decide +kernel
theorem dX9_plain_43 : decode cX9_plain 43 = .ok (.getfield 24, 3) := by decide +kernel
theorem dX9_plain_46 : decode cX9_plain 46 = .ok (.invokestatic 61, 3) := by decide +kernel
theorem dX9_plain_49 : decode cX9_plain 49 = .ok (.aload_n 0, 1) := by decide +kernel
theorem dX9_plain_50 : decode cX9_plain 50 = .ok (.invokevirtual 121, 3) := by decide +kernel
theorem dX9_plain_53 : decode cX9_plain 53 = .ok (.aload_n 0, 1) := by decide +kernel
theorem dX9_plain_54 : decode cX9_plain 54 = .ok (.getfield 112, 3) := by decide +kernel
theorem dX9_plain_57 : decode cX9_plain 57 = .ok (.ifCond .ne 19, 3) := by decide +kernel
theorem dX9_plain_60 : decode cX9_plain 60 = .ok (.aload_n 0, 1) := by decide +kernel
theorem dX9_plain_61 : decode cX9_plain 61 = .ok (.getfield 96, 3) := by decide +kernel
theorem dX9_plain_64 : decode cX9_plain 64 = .ok (.bipush 16, 2) := by decide +kernel
theorem dX9_plain_66 : decode cX9_plain 66 = .ok (.if_icmp .eq 10, 3) := by decide +kernel
theorem dX9_plain_76 : decode cX9_plain 76 = .ok (.aload_n 0, 1) := by decide +kernel
theorem dX9_plain_77 : decode cX9_plain 77 = .ok (.aload_n 0, 1) := by decide +kernel
theorem dX9_plain_78 : decode cX9_plain 78 = .ok (.getfield 112, 3) := by decide +kernel
theorem dX9_plain_81 : decode cX9_plain 81 = .ok (.putfield 155, 3) := by decide +kernel
theorem dX9_plain_84 : decode cX9_plain 84 = .ok (.aload_n 0, 1) := by decide +kernel
theorem dX9_plain_85 : decode cX9_plain 85 = .ok (.aload_n 0, 1) := by decide +kernel
theorem dX9_plain_86 : decode cX9_plain 86 = .ok (.getfield 112, 3) := by decide +kernel
theorem dX9_plain_89 : decode cX9_plain 89 = .ok (.ifCond .ne 7, 3) := by decide +kernel
theorem dX9_plain_92 : decode cX9_plain 92 = .ok (.iconst (-1), 1) := by decide +kernel
theorem dX9_plain_93 : decode cX9_plain 93 = .ok (.goto 7, 3) := by decide +kernel
theorem dX9_plain_100 : decode cX9_plain 100 = .ok (.putfield 27, 3) := by decide +kernel
theorem dX9_plain_103 : decode cX9_plain 103 = .ok (.aload_n 0, 1) := by decide +kernel
theorem dX9_plain_104 : decode cX9_plain 104 = .ok (.getfield 112, 3) := by decide +kernel
theorem dX9_plain_107 : decode cX9_plain 107 = .ok (.ifCond .eq 11, 3) := by decide +kernel
theorem dX9_plain_118 : decode cX9_plain 118 = .ok (.iconst 0, 1) := by decide +kernel
theorem dX9_plain_119 : decode cX9_plain 119 = .ok (.istore_n 2, 1) := by decide +kernel
theorem dX9_plain_120 : decode cX9_plain 120 = .ok (.iload_n 2, 1) := by decide +kernel
theorem dX9_plain_121 : decode cX9_plain 121 = .ok (.bipush 96, 2) := by decide +kernel
theorem dX9_plain_123 : decode cX9_plain 123 = .ok (.if_icmp .ge 21, 3) := by decide +kernel
theorem dX9_plain_126 : decode cX9_plain 126 = .ok (.aload_n 0, 1) := by decide +kernel
theorem dX9_plain_127 : decode cX9_plain 127 = .ok (.getfield 13, 3) := by decide +kernel
theorem dX9_plain_130 : decode cX9_plain 130 = .ok (.iload_n 2, 1) := by decide +kernel
theorem dX9_plain_131 : decode cX9_plain 131 = .ok (.aload_n 0, 1) := by decide +kernel
theorem dX9_plain_132 : decode cX9_plain 132 = .ok (.getfield 24, 3) := by decide +kernel
theorem dX9_plain_135 : decode cX9_plain 135 = .ok (.iload_n 2, 1) := by decide +kernel
theorem dX9_plain_136 : decode cX9_plain 136 = .ok (.iaload, 1) := by decide +kernel
theorem dX9_plain_137 : decode cX9_plain 137 = .ok (.iastore, 1) := by decide +kernel
theorem dX9_plain_138 : decode cX9_plain 138 = .ok (.iinc 2 1, 3) := by decide +kernel
theorem dX9_plain_141 : decode cX9_plain 141 = .ok (.goto (-21), 3) := by decide +kernel
theorem dX9_plain_144 : decode cX9_plain 144 = .ok (.aload_n 0, 1) := by decide +kernel
theorem dX9_plain_145 : decode cX9_plain 145 = .ok (.getfield 13, 3) := by decide +kernel
theorem dX9_plain_148 : decode cX9_plain 148 = .ok (.bipush 9, 2) := by decide +kernel
theorem dX9_plain_150 : decode cX9_plain 150 = .ok (.iaload, 1) := by decide +kernel
theorem dX9_plain_151 : decode cX9_plain 151 = .ok (.ireturn, 1) := by decide +kernel
theorem dX9_fault_0 : decode cX9_fault 0 = .ok (.aload_n 0, 1) := by decide +kernel
theorem dX9_fault_1 : decode cX9_fault 1 = .ok (.iconst 0, 1) := by decide +kernel
theorem dX9_fault_2 : decode cX9_fault 2 = .ok (.putfield 1, 3) := by decide +kernel
theorem dX9_fault_5 : decode cX9_fault 5 = .ok (.iload_n 1, 1) := by decide +kernel
theorem dX9_fault_6 : decode cX9_fault 6 = .ok (.ifCond .ne 10, 3) := by decide +kernel
theorem dX9_fault_9 : decode cX9_fault 9 = .ok (.aload_n 0, 1) := by decide +kernel
theorem dX9_fault_10 : decode cX9_fault 10 = .ok (.getfield 155, 3) := by decide +kernel
theorem dX9_fault_13 : decode cX9_fault 13 = .ok (.goto 16, 3) := by decide +kernel
theorem dX9_fault_16 : decode cX9_fault 16 = .ok (.iload_n 1, 1) := by decide +kernel
theorem dX9_fault_17 : decode cX9_fault 17 = .ok (.iconst 1, 1) := by decide +kernel
theorem dX9_fault_18 : decode cX9_fault 18 = .ok (.if_icmp .ne 10, 3) := by decide +kernel
theorem dX9_fault_21 : decode cX9_fault 21 = .ok (.aload_n 0, 1) := by decide +kernel
theorem dX9_fault_22 : decode cX9_fault 22 = .ok (.getfield 27, 3) := by decide +kernel
theorem dX9_fault_25 : decode cX9_fault 25 = .ok (.goto 4, 3) := by decide +kernel
theorem dX9_fault_28 : decode cX9_fault 28 = .ok (.iconst (-1), 1) := by decide +kernel
theorem dX9_fault_29 : decode cX9_fault 29 = .ok (.ireturn, 1) := by decide +kernel
theorem dX9_isStrip_0 : decode cX9_isStrip 0 = .ok (.iload_n 1, 1) := by decide +kernel
theorem dX9_isStrip_1 : decode cX9_isStrip 1 = .ok (.i2l, 1) := by decide +kernel
theorem dX9_isStrip_2 : decode cX9_isStrip 2 = .ok (.lconst 0, 1) := by decide +kernel
theorem dX9_isStrip_3 : decode cX9_isStrip 3 = .ok (.aload_n 0, 1) := by decide +kernel
theorem dX9_isStrip_4 : decode cX9_isStrip 4 = .ok (.getfield 13, 3) := by decide +kernel
theorem dX9_isStrip_7 : decode cX9_isStrip 7 = .ok (.iconst 0, 1) := by decide +kernel
theorem dX9_isStrip_8 : decode cX9_isStrip 8 = .ok (.iaload, 1) := by decide +kernel
theorem dX9_isStrip_9 : decode cX9_isStrip 9 = .ok (.iconst 1, 1) := by decide +kernel
theorem dX9_isStrip_10 : decode cX9_isStrip 10 = .ok (.isub, 1) := by decide +kernel
theorem dX9_isStrip_11 : decode cX9_isStrip 11 = .ok (.i2l, 1) := by decide +kernel
theorem dX9_isStrip_12 : decode cX9_isStrip 12 = .ok (.invokestatic 128, 3) := by decide +kernel
theorem dX9_isStrip_15 : decode cX9_isStrip 15 = .ok (.ireturn, 1) := by decide +kernel
theorem dX9_strip_0 : decode cX9_strip 0 = .ok (.aload_n 0, 1) := by decide +kernel
theorem dX9_strip_1 : decode cX9_strip 1 = .ok (.iconst 0, 1) := by decide +kernel
theorem dX9_strip_2 : decode cX9_strip 2 = .ok (.putfield 1, 3) := by decide +kernel
theorem dX9_strip_5 : decode cX9_strip 5 = .ok (.aload_n 0, 1) := by decide +kernel
theorem dX9_strip_6 : decode cX9_strip 6 = .ok (.iload_n 1, 1) := by decide +kernel
theorem dX9_strip_7 : decode cX9_strip 7 = .ok (.invokevirtual 172, 3) := by decide +kernel
theorem dX9_strip_10 : decode cX9_strip 10 = .ok (.ifCond .eq 15, 3) := by decide +kernel
theorem dX9_strip_25 : decode cX9_strip 25 = .ok (.bipush (-2), 2) := by decide +kernel
theorem dX9_strip_27 : decode cX9_strip 27 = .ok (.ireturn, 1) := by decide +kernel
theorem dX9_ofFarm_0 : decode cX9_ofFarm 0 = .ok (.iconst 0, 1) := by decide +kernel
theorem dX9_ofFarm_1 : decode cX9_ofFarm 1 = .ok (.istore_n 3, 1) := by decide +kernel
theorem dX9_ofFarm_2 : decode cX9_ofFarm 2 = .ok (.iconst 0, 1) := by decide +kernel
theorem dX9_ofFarm_3 : decode cX9_ofFarm 3 = .ok (.istore 4, 2) := by decide +kernel
theorem dX9_ofFarm_5 : decode cX9_ofFarm 5 = .ok (.iload 4, 2) := by decide +kernel
theorem dX9_ofFarm_7 : decode cX9_ofFarm 7 = .ok (.aload_n 0, 1) := by decide +kernel
theorem dX9_ofFarm_8 : decode cX9_ofFarm 8 = .ok (.getfield 13, 3) := by decide +kernel
theorem dX9_ofFarm_11 : decode cX9_ofFarm 11 = .ok (.iconst 0, 1) := by decide +kernel
theorem dX9_ofFarm_12 : decode cX9_ofFarm 12 = .ok (.iaload, 1) := by decide +kernel
theorem dX9_ofFarm_13 : decode cX9_ofFarm 13 = .ok (.if_icmp .ge 39, 3) := by decide +kernel
