theorem dX8_strip_103 : decode cX8_strip 103 = .ok (.getfield 27, 3) := by decide +kernel
theorem dX8_strip_106 : decode cX8_strip 106 = .ok (.aload_n 0, 1) := by decide +kernel
theorem dX8_strip_107 : decode cX8_strip 107 = .ok (.getfield 27, 3) := by decide +kernel
theorem dX8_strip_110 : decode cX8_strip 110 = .ok (.getfield 128, 3) := by decide +kernel
theorem dX8_strip_113 : decode cX8_strip 113 = .ok (.iload_n 1, 1) := by decide +kernel
theorem dX8_strip_114 : decode cX8_strip 114 = .ok (.invokevirtual 131, 3) := by decide +kernel
theorem dX8_strip_117 : decode cX8_strip 117 = .ok (.ireturn, 1) := by decide +kernel
theorem dX8_strip_118 : decode cX8_strip 118 = .ok (.bipush (-2), 2) := by decide +kernel
theorem dX8_strip_120 : decode cX8_strip 120 = .ok (.ireturn, 1) := by decide +kernel
theorem dX8_farm_0 : decode cX8_farm 0 = .ok (.iload_n 1, 1) := by decide +kernel
theorem dX8_farm_1 : decode cX8_farm 1 = .ok (.invokestatic 135, 3) := by decide +kernel
theorem dX8_farm_4 : decode cX8_farm 4 = .ok (.ifCond .ne 6, 3) := by decide +kernel
theorem dX8_farm_7 : decode cX8_farm 7 = .ok (.bipush (-2), 2) := by decide +kernel
theorem dX8_farm_9 : decode cX8_farm 9 = .ok (.ireturn, 1) := by decide +kernel
theorem dX8_farm_10 : decode cX8_farm 10 = .ok (.iload_n 2, 1) := by decide +kernel
theorem dX8_farm_11 : decode cX8_farm 11 = .ok (.tableswitch 80 0 3 #[29, 45, 61, 71], 29) := by decide +kernel
theorem dX8_farm_40 : decode cX8_farm 40 = .ok (.aload_n 0, 1) := by decide +kernel
theorem dX8_farm_41 : decode cX8_farm 41 = .ok (.getfield 27, 3) := by decide +kernel
theorem dX8_farm_44 : decode cX8_farm 44 = .ok (.aload_n 0, 1) := by decide +kernel
theorem dX8_farm_45 : decode cX8_farm 45 = .ok (.getfield 27, 3) := by decide +kernel
theorem dX8_farm_48 : decode cX8_farm 48 = .ok (.getfield 125, 3) := by decide +kernel
theorem dX8_farm_51 : decode cX8_farm 51 = .ok (.iload_n 1, 1) := by decide +kernel
theorem dX8_farm_52 : decode cX8_farm 52 = .ok (.invokevirtual 138, 3) := by decide +kernel
theorem dX8_farm_55 : decode cX8_farm 55 = .ok (.ireturn, 1) := by decide +kernel
theorem dX8_farm_56 : decode cX8_farm 56 = .ok (.aload_n 0, 1) := by decide +kernel
theorem dX8_farm_57 : decode cX8_farm 57 = .ok (.getfield 27, 3) := by decide +kernel
theorem dX8_farm_60 : decode cX8_farm 60 = .ok (.aload_n 0, 1) := by decide +kernel
theorem dX8_farm_61 : decode cX8_farm 61 = .ok (.getfield 27, 3) := by decide +kernel
theorem dX8_farm_64 : decode cX8_farm 64 = .ok (.getfield 112, 3) := by decide +kernel
theorem dX8_farm_67 : decode cX8_farm 67 = .ok (.iload_n 1, 1) := by decide +kernel
theorem dX8_farm_68 : decode cX8_farm 68 = .ok (.invokevirtual 138, 3) := by decide +kernel
theorem dX8_farm_71 : decode cX8_farm 71 = .ok (.ireturn, 1) := by decide +kernel
theorem dX8_farm_72 : decode cX8_farm 72 = .ok (.aload_n 0, 1) := by decide +kernel
theorem dX8_farm_73 : decode cX8_farm 73 = .ok (.getfield 27, 3) := by decide +kernel
theorem dX8_farm_76 : decode cX8_farm 76 = .ok (.getfield 142, 3) := by decide +kernel
theorem dX8_farm_79 : decode cX8_farm 79 = .ok (.iload_n 1, 1) := by decide +kernel
theorem dX8_farm_80 : decode cX8_farm 80 = .ok (.iaload, 1) := by decide +kernel
theorem dX8_farm_81 : decode cX8_farm 81 = .ok (.ireturn, 1) := by decide +kernel
theorem dX8_farm_82 : decode cX8_farm 82 = .ok (.aload_n 0, 1) := by decide +kernel
theorem dX8_farm_83 : decode cX8_farm 83 = .ok (.getfield 27, 3) := by decide +kernel
theorem dX8_farm_86 : decode cX8_farm 86 = .ok (.iload_n 1, 1) := by decide +kernel
theorem dX8_farm_87 : decode cX8_farm 87 = .ok (.invokevirtual 145, 3) := by decide +kernel
theorem dX8_farm_90 : decode cX8_farm 90 = .ok (.ireturn, 1) := by decide +kernel
theorem dX8_farm_91 : decode cX8_farm 91 = .ok (.bipush (-2), 2) := by decide +kernel
theorem dX8_farm_93 : decode cX8_farm 93 = .ok (.ireturn, 1) := by decide +kernel
theorem dX8_light_0 : decode cX8_light 0 = .ok (.aload_n 0, 1) := by decide +kernel
theorem dX8_light_1 : decode cX8_light 1 = .ok (.getfield 27, 3) := by decide +kernel
theorem dX8_light_4 : decode cX8_light 4 = .ok (.iload_n 1, 1) := by decide +kernel
theorem dX8_light_5 : decode cX8_light 5 = .ok (.invokevirtual 108, 3) := by decide +kernel
theorem dX8_light_8 : decode cX8_light 8 = .ok (.ifCond .eq 14, 3) := by decide +kernel
theorem dX8_light_11 : decode cX8_light 11 = .ok (.aload_n 0, 1) := by decide +kernel
theorem dX8_light_12 : decode cX8_light 12 = .ok (.getfield 27, 3) := by decide +kernel
theorem dX8_light_15 : decode cX8_light 15 = .ok (.iload_n 2, 1) := by decide +kernel
theorem dX8_light_16 : decode cX8_light 16 = .ok (.invokevirtual 108, 3) := by decide +kernel
theorem dX8_light_19 : decode cX8_light 19 = .ok (.ifCond .ne 6, 3) := by decide +kernel
theorem dX8_light_22 : decode cX8_light 22 = .ok (.bipush (-2), 2) := by decide +kernel
theorem dX8_light_24 : decode cX8_light 24 = .ok (.ireturn, 1) := by decide +kernel
theorem dX8_light_25 : decode cX8_light 25 = .ok (.aload_n 0, 1) := by decide +kernel
theorem dX8_light_26 : decode cX8_light 26 = .ok (.getfield 27, 3) := by decide +kernel
theorem dX8_light_29 : decode cX8_light 29 = .ok (.iload_n 1, 1) := by decide +kernel
theorem dX8_light_30 : decode cX8_light 30 = .ok (.iload_n 2, 1) := by decide +kernel
theorem dX8_light_31 : decode cX8_light 31 = .ok (.invokevirtual 131, 3) := by decide +kernel
theorem dX8_light_34 : decode cX8_light 34 = .ok (.ireturn, 1) := by decide +kernel
theorem dX8_lit_0 : decode cX8_lit 0 = .ok (.aload_n 0, 1) := by decide +kernel
theorem dX8_lit_1 : decode cX8_lit 1 = .ok (.getfield 27, 3) := by decide +kernel
theorem dX8_lit_4 : decode cX8_lit 4 = .ok (.iload_n 1, 1) := by decide +kernel
theorem dX8_lit_5 : decode cX8_lit 5 = .ok (.invokevirtual 108, 3) := by decide +kernel
theorem dX8_lit_8 : decode cX8_lit 8 = .ok (.ifCond .ne 6, 3) := by decide +kernel
theorem dX8_lit_11 : decode cX8_lit 11 = .ok (.bipush (-2), 2) := by decide +kernel
theorem dX8_lit_13 : decode cX8_lit 13 = .ok (.ireturn, 1) := by decide +kernel
theorem dX8_lit_14 : decode cX8_lit 14 = .ok (.aload_n 0, 1) := by decide +kernel
theorem dX8_lit_15 : decode cX8_lit 15 = .ok (.getfield 27, 3) := by decide +kernel
theorem dX8_lit_18 : decode cX8_lit 18 = .ok (.iload_n 1, 1) := by decide +kernel
theorem dX8_lit_19 : decode cX8_lit 19 = .ok (.invokevirtual 149, 3) := by decide +kernel
theorem dX8_lit_22 : decode cX8_lit 22 = .ok (.ireturn, 1) := by decide +kernel
theorem dX8_shaded_0 : decode cX8_shaded 0 = .ok (.aload_n 0, 1) := by decide +kernel
theorem dX8_shaded_1 : decode cX8_shaded 1 = .ok (.getfield 27, 3) := by decide +kernel
theorem dX8_shaded_4 : decode cX8_shaded 4 = .ok (.iload_n 1, 1) := by decide +kernel
theorem dX8_shaded_5 : decode cX8_shaded 5 = .ok (.invokevirtual 108, 3) := by decide +kernel
theorem dX8_shaded_8 : decode cX8_shaded 8 = .ok (.ifCond .ne 6, 3) := by decide +kernel
theorem dX8_shaded_11 : decode cX8_shaded 11 = .ok (.bipush (-2), 2) := by decide +kernel
theorem dX8_shaded_13 : decode cX8_shaded 13 = .ok (.ireturn, 1) := by decide +kernel
theorem dX8_shaded_14 : decode cX8_shaded 14 = .ok (.aload_n 0, 1) := by decide +kernel
theorem dX8_shaded_15 : decode cX8_shaded 15 = .ok (.getfield 27, 3) := by decide +kernel
theorem dX8_shaded_18 : decode cX8_shaded 18 = .ok (.iload_n 1, 1) := by decide +kernel
theorem dX8_shaded_19 : decode cX8_shaded 19 = .ok (.invokevirtual 152, 3) := by decide +kernel
theorem dX8_shaded_22 : decode cX8_shaded 22 = .ok (.ireturn, 1) := by decide +kernel
theorem dX8_high_0 : decode cX8_high 0 = .ok (.aload_n 0, 1) := by decide +kernel
theorem dX8_high_1 : decode cX8_high 1 = .ok (.getfield 27, 3) := by decide +kernel
theorem dX8_high_4 : decode cX8_high 4 = .ok (.iload_n 1, 1) := by decide +kernel
theorem dX8_high_5 : decode cX8_high 5 = .ok (.invokevirtual 108, 3) := by decide +kernel
theorem dX8_high_8 : decode cX8_high 8 = .ok (.ifCond .eq 14, 3) := by decide +kernel
theorem dX8_high_11 : decode cX8_high 11 = .ok (.aload_n 0, 1) := by decide +kernel
theorem dX8_high_12 : decode cX8_high 12 = .ok (.getfield 27, 3) := by decide +kernel
theorem dX8_high_15 : decode cX8_high 15 = .ok (.iload_n 2, 1) := by decide +kernel
theorem dX8_high_16 : decode cX8_high 16 = .ok (.invokevirtual 108, 3) := by decide +kernel
theorem dX8_high_19 : decode cX8_high 19 = .ok (.ifCond .ne 6, 3) := by decide +kernel
theorem dX8_high_22 : decode cX8_high 22 = .ok (.bipush (-2), 2) := by decide +kernel
theorem dX8_high_24 : decode cX8_high 24 = .ok (.ireturn, 1) := by decide +kernel
theorem dX8_high_25 : decode cX8_high 25 = .ok (.aload_n 0, 1) := by decide +kernel
theorem dX8_high_26 : decode cX8_high 26 = .ok (.getfield 27, 3) := by decide +kernel
theorem dX8_high_29 : decode cX8_high 29 = .ok (.iload_n 1, 1) := by decide +kernel
theorem dX8_high_30 : decode cX8_high 30 = .ok (.iload_n 2, 1) := by decide +kernel
theorem dX8_high_31 : decode cX8_high 31 = .ok (.invokevirtual 155, 3) := by decide +kernel
theorem dX8_high_34 : decode cX8_high 34 = .ok (.ireturn, 1) := by decide +kernel
theorem dX8_highFor_0 : decode cX8_highFor 0 = .ok (.iload_n 1, 1) := by decide +kernel
theorem dX8_highFor_1 : decode cX8_highFor 1 = .ok (.ifCond .eq 14, 3) := by decide +kernel
theorem dX8_highFor_4 : decode cX8_highFor 4 = .ok (.aload_n 0, 1) := by decide +kernel
theorem dX8_highFor_5 : decode cX8_highFor 5 = .ok (.getfield 27, 3) := by decide +kernel
theorem dX8_highFor_8 : decode cX8_highFor 8 = .ok (.iload_n 1, 1) := by decide +kernel
theorem dX8_highFor_9 : decode cX8_highFor 9 = .ok (.invokevirtual 158, 3) := by decide +kernel
theorem dX8_highFor_12 : decode cX8_highFor 12 = .ok (.ifCond .ne 6, 3) := by decide +kernel
theorem dX8_highFor_15 : decode cX8_highFor 15 = .ok (.bipush (-3), 2) := by decide +kernel
theorem dX8_highFor_17 : decode cX8_highFor 17 = .ok (.ireturn, 1) := by decide +kernel
theorem dX8_highFor_18 : decode cX8_highFor 18 = .ok (.iconst (-1), 1) := by decide +kernel
theorem dX8_highFor_19 : decode cX8_highFor 19 = .ok (.istore_n 3, 1) := by decide +kernel
theorem dX8_highFor_20 : decode cX8_highFor 20 = .ok (.iconst (-1), 1) := by decide +kernel
theorem dX8_highFor_21 : decode cX8_highFor 21 = .ok (.istore 4, 2) := by decide +kernel
theorem dX8_highFor_23 : decode cX8_highFor 23 = .ok (.iconst 0, 1) := by decide +kernel
theorem dX8_highFor_24 : decode cX8_highFor 24 = .ok (.istore 5, 2) := by decide +kernel
theorem dX8_highFor_26 : decode cX8_highFor 26 = .ok (.iload 5, 2) := by decide +kernel
theorem dX8_highFor_28 : decode cX8_highFor 28 = .ok (.aload_n 0, 1) := by decide +kernel
theorem dX8_highFor_29 : decode cX8_highFor 29 = .ok (.getfield 27, 3) := by decide +kernel
theorem dX8_highFor_32 : decode cX8_highFor 32 = .ok (.getfield 161, 3) := by decide +kernel
theorem dX8_highFor_35 : decode cX8_highFor 35 = .ok (.if_icmp .ge 45, 3) := by decide +kernel
theorem dX8_highFor_38 : decode cX8_highFor 38 = .ok (.aload_n 0, 1) := by decide +kernel
theorem dX8_highFor_39 : decode cX8_highFor 39 = .ok (.getfield 27, 3) := by decide +kernel
theorem dX8_highFor_42 : decode cX8_highFor 42 = .ok (.iload 5, 2) := by decide +kernel
theorem dX8_highFor_44 : decode cX8_highFor 44 = .ok (.iload_n 1, 1) := by decide +kernel
theorem dX8_highFor_45 : decode cX8_highFor 45 = .ok (.invokevirtual 164, 3) := by decide +kernel
theorem dX8_highFor_48 : decode cX8_highFor 48 = .ok (.istore 6, 2) := by decide +kernel
theorem dX8_highFor_50 : decode cX8_highFor 50 = .ok (.iload 6, 2) := by decide +kernel
theorem dX8_highFor_52 : decode cX8_highFor 52 = .ok (.iconst (-1), 1) := by decide +kernel
theorem dX8_highFor_53 : decode cX8_highFor 53 = .ok (.if_icmp .eq 21, 3) := by decide +kernel
theorem dX8_highFor_56 : decode cX8_highFor 56 = .ok (.iload_n 3, 1) := by decide +kernel
theorem dX8_highFor_57 : decode cX8_highFor 57 = .ok (.iconst (-1), 1) := by decide +kernel
theorem dX8_highFor_58 : decode cX8_highFor 58 = .ok (.if_icmp .eq 9, 3) := by decide +kernel
theorem dX8_highFor_61 : decode cX8_highFor 61 = .ok (.iload 6, 2) := by decide +kernel
theorem dX8_highFor_63 : decode cX8_highFor 63 = .ok (.iload_n 3, 1) := by decide +kernel
theorem dX8_highFor_64 : decode cX8_highFor 64 = .ok (.if_icmp .ge 10, 3) := by decide +kernel
theorem dX8_highFor_67 : decode cX8_highFor 67 = .ok (.iload 6, 2) := by decide +kernel
theorem dX8_highFor_69 : decode cX8_highFor 69 = .ok (.istore_n 3, 1) := by decide +kernel
theorem dX8_highFor_70 : decode cX8_highFor 70 = .ok (.iload 5, 2) := by decide +kernel
theorem dX8_highFor_72 : decode cX8_highFor 72 = .ok (.istore 4, 2) := by decide +kernel
theorem dX8_highFor_74 : decode cX8_highFor 74 = .ok (.iinc 5 1, 3) := by decide +kernel
theorem dX8_highFor_77 : decode cX8_highFor 77 = .ok (.goto (-51), 3) := by decide +kernel
theorem dX8_highFor_80 : decode cX8_highFor 80 = .ok (.iload_n 2, 1) := by decide +kernel
theorem dX8_highFor_81 : decode cX8_highFor 81 = .ok (.ifCond .eq 8, 3) := by decide +kernel
theorem dX8_highFor_84 : decode cX8_highFor 84 = .ok (.iload 4, 2) := by decide +kernel
theorem dX8_highFor_86 : decode cX8_highFor 86 = .ok (.goto 4, 3) := by decide +kernel
theorem dX8_highFor_89 : decode cX8_highFor 89 = .ok (.iload_n 3, 1) := by decide +kernel
theorem dX8_highFor_90 : decode cX8_highFor 90 = .ok (.ireturn, 1) := by decide +kernel
theorem dX8_height_0 : decode cX8_height 0 = .ok (.iload_n 1, 1) := by decide +kernel
theorem dX8_height_1 : decode cX8_height 1 = .ok (.iconst 1, 1) := by decide +kernel
theorem dX8_height_2 : decode cX8_height 2 = .ok (.if_icmp .lt 9, 3) := by decide +kernel
theorem dX8_height_5 : decode cX8_height 5 = .ok (.iload_n 1, 1) := by decide +kernel
theorem dX8_height_6 : decode cX8_height 6 = .ok (.bipush 30, 2) := by decide +kernel
theorem dX8_height_8 : decode cX8_height 8 = .ok (.if_icmp .le 6, 3) := by decide +kernel
theorem dX8_height_11 : decode cX8_height 11 = .ok (.bipush (-3), 2) := by decide +kernel
theorem dX8_height_13 : decode cX8_height 13 = .ok (.ireturn, 1) := by decide +kernel
theorem dX8_height_14 : decode cX8_height 14 = .ok (.aload_n 0, 1) := by decide +kernel
theorem dX8_height_15 : decode cX8_height 15 = .ok (.getfield 27, 3) := by decide +kernel
theorem dX8_height_18 : decode cX8_height 18 = .ok (.getfield 167, 3) := by decide +kernel
theorem dX8_height_21 : decode cX8_height 21 = .ok (.istore_n 2, 1) := by decide +kernel
theorem dX8_height_22 : decode cX8_height 22 = .ok (.aload_n 0, 1) := by decide +kernel
theorem dX8_height_23 : decode cX8_height 23 = .ok (.getfield 27, 3) := by decide +kernel
theorem dX8_height_26 : decode cX8_height 26 = .ok (.iload_n 1, 1) := by decide +kernel
theorem dX8_height_27 : decode cX8_height 27 = .ok (.putfield 167, 3) := by decide +kernel
theorem dX8_height_30 : decode cX8_height 30 = .ok (.iload_n 2, 1) := by decide +kernel
theorem dX8_height_31 : decode cX8_height 31 = .ok (.ireturn, 1) := by decide +kernel
theorem dX8_fell_0 : decode cX8_fell 0 = .ok (.aload_n 0, 1) := by decide +kernel
theorem dX8_fell_1 : decode cX8_fell 1 = .ok (.getfield 27, 3) := by decide +kernel
theorem dX8_fell_4 : decode cX8_fell 4 = .ok (.iload_n 1, 1) := by decide +kernel
theorem dX8_fell_5 : decode cX8_fell 5 = .ok (.invokevirtual 108, 3) := by decide +kernel
theorem dX8_fell_8 : decode cX8_fell 8 = .ok (.ifCond .ne 6, 3) := by decide +kernel
theorem dX8_fell_11 : decode cX8_fell 11 = .ok (.bipush (-2), 2) := by decide +kernel
theorem dX8_fell_13 : decode cX8_fell 13 = .ok (.ireturn, 1) := by decide +kernel
theorem dX8_fell_14 : decode cX8_fell 14 = .ok (.aload_n 0, 1) := by decide +kernel
theorem dX8_fell_15 : decode cX8_fell 15 = .ok (.getfield 27, 3) := by decide +kernel
theorem dX8_fell_18 : decode cX8_fell 18 = .ok (.getfield 119, 3) := by decide +kernel
theorem dX8_fell_21 : decode cX8_fell 21 = .ok (.iload_n 1, 1) := by decide +kernel
theorem dX8_fell_22 : decode cX8_fell 22 = .ok (.iaload, 1) := by decide +kernel
theorem dX8_fell_23 : decode cX8_fell 23 = .ok (.istore_n 2, 1) := by decide +kernel
theorem dX8_fell_24 : decode cX8_fell 24 = .ok (.iload_n 2, 1) := by decide +kernel
theorem dX8_fell_25 : decode cX8_fell 25 = .ok (.ifCond .ne 6, 3) := by decide +kernel
theorem dX8_fell_28 : decode cX8_fell 28 = .ok (.bipush (-5), 2) := by decide +kernel
theorem dX8_fell_30 : decode cX8_fell 30 = .ok (.ireturn, 1) := by decide +kernel
theorem dX8_fell_31 : decode cX8_fell 31 = .ok (.aload_n 0, 1) := by decide +kernel
theorem dX8_fell_32 : decode cX8_fell 32 = .ok (.getfield 27, 3) := by decide +kernel
theorem dX8_fell_35 : decode cX8_fell 35 = .ok (.getfield 119, 3) := by decide +kernel
theorem dX8_fell_38 : decode cX8_fell 38 = .ok (.iload_n 1, 1) := by decide +kernel
theorem dX8_fell_39 : decode cX8_fell 39 = .ok (.iconst 0, 1) := by decide +kernel
theorem dX8_fell_40 : decode cX8_fell 40 = .ok (.iastore, 1) := by decide +kernel
theorem dX8_fell_41 : decode cX8_fell 41 = .ok (.iload_n 2, 1) := by decide +kernel
theorem dX8_fell_42 : decode cX8_fell 42 = .ok (.ireturn, 1) := by decide +kernel
theorem dX8_minute_0 : decode cX8_minute 0 = .ok (.aload_n 0, 1) := by decide +kernel
theorem dX8_minute_1 : decode cX8_minute 1 = .ok (.getfield 27, 3) := by decide +kernel
theorem dX8_minute_4 : decode cX8_minute 4 = .ok (.iload_n 1, 1) := by decide +kernel
theorem dX8_minute_5 : decode cX8_minute 5 = .ok (.i2l, 1) := by decide +kernel
theorem dX8_minute_6 : decode cX8_minute 6 = .ok (.invokevirtual 170, 3) := by decide +kernel
theorem dX8_minute_9 : decode cX8_minute 9 = .ok (.istore_n 2, 1) := by decide +kernel
theorem dX8_minute_10 : decode cX8_minute 10 = .ok (.iload_n 2, 1) := by decide +kernel
theorem dX8_minute_11 : decode cX8_minute 11 = .ok (.ifCond .eq 16, 3) := by decide +kernel
theorem dX8_minute_14 : decode cX8_minute 14 = .ok (.iload_n 2, 1) := by decide +kernel
theorem dX8_minute_15 : decode cX8_minute 15 = .ok (.iconst 1, 1) := by decide +kernel
theorem dX8_minute_16 : decode cX8_minute 16 = .ok (.if_icmp .ne 8, 3) := by decide +kernel
theorem dX8_minute_19 : decode cX8_minute 19 = .ok (.bipush (-2), 2) := by decide +kernel
theorem dX8_minute_21 : decode cX8_minute 21 = .ok (.goto 5, 3) := by decide +kernel
theorem dX8_minute_24 : decode cX8_minute 24 = .ok (.bipush (-5), 2) := by decide +kernel
theorem dX8_minute_26 : decode cX8_minute 26 = .ok (.ireturn, 1) := by decide +kernel
theorem dX8_minute_27 : decode cX8_minute 27 = .ok (.aload_n 0, 1) := by decide +kernel
theorem dX8_minute_28 : decode cX8_minute 28 = .ok (.getfield 27, 3) := by decide +kernel
theorem dX8_minute_31 : decode cX8_minute 31 = .ok (.aload_n 0, 1) := by decide +kernel
theorem dX8_minute_32 : decode cX8_minute 32 = .ok (.getfield 27, 3) := by decide +kernel
theorem dX8_minute_35 : decode cX8_minute 35 = .ok (.aload_n 0, 1) := by decide +kernel
theorem dX8_minute_36 : decode cX8_minute 36 = .ok (.getfield 27, 3) := by decide +kernel
theorem dX8_minute_39 : decode cX8_minute 39 = .ok (.getfield 128, 3) := by decide +kernel
theorem dX8_minute_42 : decode cX8_minute 42 = .ok (.iload_n 1, 1) := by decide +kernel
theorem dX8_minute_43 : decode cX8_minute 43 = .ok (.i2l, 1) := by decide +kernel
theorem dX8_minute_44 : decode cX8_minute 44 = .ok (.invokevirtual 174, 3) := by decide +kernel
theorem dX8_minute_47 : decode cX8_minute 47 = .ok (.iconst 1, 1) := by decide +kernel
theorem dX8_minute_48 : decode cX8_minute 48 = .ok (.invokevirtual 178, 3) := by decide +kernel
theorem dX8_minute_51 : decode cX8_minute 51 = .ok (.ireturn, 1) := by decide +kernel
theorem dX8_judge_0 : decode cX8_judge 0 = .ok (.iload_n 1, 1) := by decide +kernel
theorem dX8_judge_1 : decode cX8_judge 1 = .ok (.invokestatic 182, 3) := by decide +kernel
theorem dX8_judge_4 : decode cX8_judge 4 = .ok (.ifCond .eq 12, 3) := by decide +kernel
theorem dX8_judge_7 : decode cX8_judge 7 = .ok (.iload_n 2, 1) := by decide +kernel
theorem dX8_judge_8 : decode cX8_judge 8 = .ok (.ifCond .lt 8, 3) := by decide +kernel
theorem dX8_judge_11 : decode cX8_judge 11 = .ok (.iload_n 2, 1) := by decide +kernel
theorem dX8_judge_12 : decode cX8_judge 12 = .ok (.iconst 3, 1) := by decide +kernel
theorem dX8_judge_13 : decode cX8_judge 13 = .ok (.if_icmp .le 6, 3) := by decide +kernel
theorem dX8_judge_16 : decode cX8_judge 16 = .ok (.bipush (-2), 2) := by decide +kernel
theorem dX8_judge_18 : decode cX8_judge 18 = .ok (.ireturn, 1) := by decide +kernel
theorem dX8_judge_19 : decode cX8_judge 19 = .ok (.aload_n 0, 1) := by decide +kernel
theorem dX8_judge_20 : decode cX8_judge 20 = .ok (.getfield 44, 3) := by decide +kernel
theorem dX8_judge_23 : decode cX8_judge 23 = .ok (.iload_n 1, 1) := by decide +kernel
theorem dX8_judge_24 : decode cX8_judge 24 = .ok (.aaload, 1) := by decide +kernel
theorem dX8_judge_25 : decode cX8_judge 25 = .ok (.astore_n 3, 1) := by decide +kernel
theorem dX8_judge_26 : decode cX8_judge 26 = .ok (.aload_n 3, 1) := by decide +kernel
theorem dX8_judge_27 : decode cX8_judge 27 = .ok (.getfield 185, 3) := by decide +kernel
theorem dX8_judge_30 : decode cX8_judge 30 = .ok (.ifCond .eq 6, 3) := by decide +kernel
theorem dX8_judge_33 : decode cX8_judge 33 = .ok (.bipush (-6), 2) := by decide +kernel
theorem dX8_judge_35 : decode cX8_judge 35 = .ok (.ireturn, 1) := by decide +kernel
theorem dX8_judge_36 : decode cX8_judge 36 = .ok (.aload_n 0, 1) := by decide +kernel
theorem dX8_judge_37 : decode cX8_judge 37 = .ok (.getfield 31, 3) := by decide +kernel
theorem dX8_judge_40 : decode cX8_judge 40 = .ok (.aload_n 0, 1) := by decide +kernel
theorem dX8_judge_41 : decode cX8_judge 41 = .ok (.getfield 27, 3) := by decide +kernel
theorem dX8_judge_44 : decode cX8_judge 44 = .ok (.invokevirtual 95, 3) := by decide +kernel
theorem dX8_judge_47 : decode cX8_judge 47 = .ok (.aload_n 0, 1) := by decide +kernel
theorem dX8_judge_48 : decode cX8_judge 48 = .ok (.getfield 31, 3) := by decide +kernel
theorem dX8_judge_51 : decode cX8_judge 51 = .ok (.aload_n 3, 1) := by decide +kernel
theorem dX8_judge_52 : decode cX8_judge 52 = .ok (.invokevirtual 189, 3) := by decide +kernel
theorem dX8_judge_55 : decode cX8_judge 55 = .ok (.istore 4, 2) := by decide +kernel
theorem dX8_judge_57 : decode cX8_judge 57 = .ok (.iload 4, 2) := by decide +kernel
theorem dX8_judge_59 : decode cX8_judge 59 = .ok (.aload_n 3, 1) := by decide +kernel
theorem dX8_judge_60 : decode cX8_judge 60 = .ok (.getfield 193, 3) := by decide +kernel
theorem dX8_judge_63 : decode cX8_judge 63 = .ok (.if_icmp .lt 7, 3) := by decide +kernel
theorem dX8_judge_66 : decode cX8_judge 66 = .ok (.iconst 1, 1) := by decide +kernel
theorem dX8_judge_67 : decode cX8_judge 67 = .ok (.goto 4, 3) := by decide +kernel
theorem dX8_judge_70 : decode cX8_judge 70 = .ok (.iconst 0, 1) := by decide +kernel
theorem dX8_judge_71 : decode cX8_judge 71 = .ok (.istore 5, 2) := by decide +kernel
theorem dX8_judge_73 : decode cX8_judge 73 = .ok (.iload_n 2, 1) := by decide +kernel
theorem dX8_judge_74 : decode cX8_judge 74 = .ok (.tableswitch 91 0 2 #[26, 38, 61], 26) := by decide +kernel
theorem dX8_judge_100 : decode cX8_judge 100 = .ok (.iload 5, 2) := by decide +kernel
theorem dX8_judge_102 : decode cX8_judge 102 = .ok (.ifCond .eq 7, 3) := by decide +kernel
theorem dX8_judge_105 : decode cX8_judge 105 = .ok (.iconst (-1), 1) := by decide +kernel
theorem dX8_judge_106 : decode cX8_judge 106 = .ok (.goto 5, 3) := by decide +kernel
theorem dX8_judge_109 : decode cX8_judge 109 = .ok (.iload 4, 2) := by decide +kernel
theorem dX8_judge_111 : decode cX8_judge 111 = .ok (.ireturn, 1) := by decide +kernel
theorem dX8_judge_112 : decode cX8_judge 112 = .ok (.iload 5, 2) := by decide +kernel
theorem dX8_judge_114 : decode cX8_judge 114 = .ok (.ifCond .eq 7, 3) := by decide +kernel
theorem dX8_judge_117 : decode cX8_judge 117 = .ok (.iconst 0, 1) := by decide +kernel
theorem dX8_judge_118 : decode cX8_judge 118 = .ok (.goto 16, 3) := by decide +kernel
theorem dX8_judge_121 : decode cX8_judge 121 = .ok (.aload_n 0, 1) := by decide +kernel
theorem dX8_judge_122 : decode cX8_judge 122 = .ok (.getfield 31, 3) := by decide +kernel
theorem dX8_judge_125 : decode cX8_judge 125 = .ok (.aload_n 3, 1) := by decide +kernel
theorem dX8_judge_126 : decode cX8_judge 126 = .ok (.iload 4, 2) := by decide +kernel
theorem dX8_judge_128 : decode cX8_judge 128 = .ok (.invokevirtual 196, 3) := by decide +kernel
theorem dX8_judge_131 : decode cX8_judge 131 = .ok (.invokevirtual 170, 3) := by decide +kernel
theorem dX8_judge_134 : decode cX8_judge 134 = .ok (.ireturn, 1) := by decide +kernel
theorem dX8_judge_135 : decode cX8_judge 135 = .ok (.aload_n 0, 1) := by decide +kernel
theorem dX8_judge_136 : decode cX8_judge 136 = .ok (.getfield 31, 3) := by decide +kernel
theorem dX8_judge_139 : decode cX8_judge 139 = .ok (.aload_n 0, 1) := by decide +kernel
theorem dX8_judge_140 : decode cX8_judge 140 = .ok (.getfield 31, 3) := by decide +kernel
theorem dX8_judge_143 : decode cX8_judge 143 = .ok (.getfield 125, 3) := by decide +kernel
theorem dX8_judge_146 : decode cX8_judge 146 = .ok (.invokevirtual 200, 3) := by decide +kernel
theorem dX8_judge_149 : decode cX8_judge 149 = .ok (.aload_n 0, 1) := by decide +kernel
theorem dX8_judge_150 : decode cX8_judge 150 = .ok (.getfield 27, 3) := by decide +kernel
theorem dX8_judge_153 : decode cX8_judge 153 = .ok (.aload_n 0, 1) := by decide +kernel
theorem dX8_judge_154 : decode cX8_judge 154 = .ok (.getfield 27, 3) := by decide +kernel
theorem dX8_judge_157 : decode cX8_judge 157 = .ok (.getfield 125, 3) := by decide +kernel
theorem dX8_judge_160 : decode cX8_judge 160 = .ok (.invokevirtual 200, 3) := by decide +kernel
theorem dX8_judge_163 : decode cX8_judge 163 = .ok (.isub, 1) := by decide +kernel
theorem dX8_judge_164 : decode cX8_judge 164 = .ok (.ireturn, 1) := by decide +kernel
theorem dX8_judge_165 : decode cX8_judge 165 = .ok (.aload_n 0, 1) := by decide +kernel
theorem dX8_judge_166 : decode cX8_judge 166 = .ok (.getfield 31, 3) := by decide +kernel
theorem dX8_judge_169 : decode cX8_judge 169 = .ok (.invokevirtual 204, 3) := by decide +kernel
theorem dX8_judge_172 : decode cX8_judge 172 = .ok (.ireturn, 1) := by decide +kernel
theorem dX8_perform_0 : decode cX8_perform 0 = .ok (.iload_n 1, 1) := by decide +kernel
theorem dX8_perform_1 : decode cX8_perform 1 = .ok (.invokestatic 182, 3) := by decide +kernel
theorem dX8_perform_4 : decode cX8_perform 4 = .ok (.ifCond .ne 6, 3) := by decide +kernel
theorem dX8_perform_7 : decode cX8_perform 7 = .ok (.bipush (-2), 2) := by decide +kernel
theorem dX8_perform_9 : decode cX8_perform 9 = .ok (.ireturn, 1) := by decide +kernel
theorem dX8_perform_10 : decode cX8_perform 10 = .ok (.aload_n 0, 1) := by decide +kernel
theorem dX8_perform_11 : decode cX8_perform 11 = .ok (.getfield 44, 3) := by decide +kernel
theorem dX8_perform_14 : decode cX8_perform 14 = .ok (.iload_n 1, 1) := by decide +kernel
theorem dX8_perform_15 : decode cX8_perform 15 = .ok (.aaload, 1) := by decide +kernel
theorem dX8_perform_16 : decode cX8_perform 16 = .ok (.getfield 185, 3) := by decide +kernel
theorem dX8_perform_19 : decode cX8_perform 19 = .ok (.ifCond .eq 6, 3) := by decide +kernel
theorem dX8_perform_22 : decode cX8_perform 22 = .ok (.bipush (-6), 2) := by decide +kernel
theorem dX8_perform_24 : decode cX8_perform 24 = .ok (.ireturn, 1) := by decide +kernel
theorem dX8_perform_25 : decode cX8_perform 25 = .ok (.aload_n 0, 1) := by decide +kernel
theorem dX8_perform_26 : decode cX8_perform 26 = .ok (.getfield 27, 3) := by decide +kernel
theorem dX8_perform_29 : decode cX8_perform 29 = .ok (.aload_n 0, 1) := by decide +kernel
theorem dX8_perform_30 : decode cX8_perform 30 = .ok (.getfield 44, 3) := by decide +kernel
theorem dX8_perform_33 : decode cX8_perform 33 = .ok (.iload_n 1, 1) := by decide +kernel
theorem dX8_perform_34 : decode cX8_perform 34 = .ok (.aaload, 1) := by decide +kernel
theorem dX8_perform_35 : decode cX8_perform 35 = .ok (.invokevirtual 189, 3) := by decide +kernel
theorem dX8_perform_38 : decode cX8_perform 38 = .ok (.ireturn, 1) := by decide +kernel
theorem dX8_fill_0 : decode cX8_fill 0 = .ok (.iload_n 1, 1) := by decide +kernel
theorem dX8_fill_1 : decode cX8_fill 1 = .ok (.ifCond .lt 9, 3) := by decide +kernel
theorem dX8_fill_4 : decode cX8_fill 4 = .ok (.iload_n 1, 1) := by decide +kernel
theorem dX8_fill_5 : decode cX8_fill 5 = .ok (.bipush 99, 2) := by decide +kernel
theorem dX8_fill_7 : decode cX8_fill 7 = .ok (.if_icmp .le 6, 3) := by decide +kernel
theorem dX8_fill_10 : decode cX8_fill 10 = .ok (.bipush (-3), 2) := by decide +kernel
theorem dX8_fill_12 : decode cX8_fill 12 = .ok (.ireturn, 1) := by decide +kernel
theorem dX8_fill_13 : decode cX8_fill 13 = .ok (.aload_n 0, 1) := by decide +kernel
theorem dX8_fill_14 : decode cX8_fill 14 = .ok (.getfield 27, 3) := by decide +kernel
theorem dX8_fill_17 : decode cX8_fill 17 = .ok (.sipush 999, 3) := by decide +kernel
theorem dX8_fill_20 : decode cX8_fill 20 = .ok (.aload_n 0, 1) := by decide +kernel
theorem dX8_fill_21 : decode cX8_fill 21 = .ok (.getfield 27, 3) := by decide +kernel
theorem dX8_fill_24 : decode cX8_fill 24 = .ok (.getfield 208, 3) := by decide +kernel
theorem dX8_fill_27 : decode cX8_fill 27 = .ok (.iload_n 1, 1) := by decide +kernel
theorem dX8_fill_28 : decode cX8_fill 28 = .ok (.iadd, 1) := by decide +kernel
theorem dX8_fill_29 : decode cX8_fill 29 = .ok (.invokestatic 211, 3) := by decide +kernel
theorem dX8_fill_32 : decode cX8_fill 32 = .ok (.putfield 208, 3) := by decide +kernel
theorem dX8_fill_35 : decode cX8_fill 35 = .ok (.aload_n 0, 1) := by decide +kernel
theorem dX8_fill_36 : decode cX8_fill 36 = .ok (.getfield 27, 3) := by decide +kernel
theorem dX8_fill_39 : decode cX8_fill 39 = .ok (.getfield 208, 3) := by decide +kernel
theorem dX8_fill_42 : decode cX8_fill 42 = .ok (.ireturn, 1) := by decide +kernel
theorem dX8_night_0 : decode cX8_night 0 = .ok (.iload_n 2, 1) := by decide +kernel
theorem dX8_night_1 : decode cX8_night 1 = .ok (.iconst 1, 1) := by decide +kernel
theorem dX8_night_2 : decode cX8_night 2 = .ok (.if_icmp .lt 9, 3) := by decide +kernel
theorem dX8_night_5 : decode cX8_night 5 = .ok (.iload_n 2, 1) := by decide +kernel
theorem dX8_night_6 : decode cX8_night 6 = .ok (.bipush 60, 2) := by decide +kernel
theorem dX8_night_8 : decode cX8_night 8 = .ok (.if_icmp .le 6, 3) := by decide +kernel
theorem dX8_night_11 : decode cX8_night 11 = .ok (.bipush (-3), 2) := by decide +kernel
theorem dX8_night_13 : decode cX8_night 13 = .ok (.ireturn, 1) := by decide +kernel
theorem dX8_night_14 : decode cX8_night 14 = .ok (.iload_n 2, 1) := by decide +kernel
theorem dX8_night_15 : decode cX8_night 15 = .ok (.aload_n 0, 1) := by decide +kernel
theorem dX8_night_16 : decode cX8_night 16 = .ok (.getfield 27, 3) := by decide +kernel
theorem dX8_night_19 : decode cX8_night 19 = .ok (.getfield 208, 3) := by decide +kernel
theorem dX8_night_22 : decode cX8_night 22 = .ok (.invokestatic 211, 3) := by decide +kernel
theorem dX8_night_25 : decode cX8_night 25 = .ok (.istore_n 3, 1) := by decide +kernel
theorem dX8_night_26 : decode cX8_night 26 = .ok (.aload_n 0, 1) := by decide +kernel
theorem dX8_night_27 : decode cX8_night 27 = .ok (.getfield 27, 3) := by decide +kernel
theorem dX8_night_30 : decode cX8_night 30 = .ok (.getfield 161, 3) := by decide +kernel
theorem dX8_night_33 : decode cX8_night 33 = .ok (.ifCond .eq 22, 3) := by decide +kernel
theorem dX8_night_36 : decode cX8_night 36 = .ok (.iload_n 3, 1) := by decide +kernel
theorem dX8_night_37 : decode cX8_night 37 = .ok (.ifCond .eq 18, 3) := by decide +kernel
theorem dX8_night_40 : decode cX8_night 40 = .ok (.aload_n 0, 1) := by decide +kernel
theorem dX8_night_41 : decode cX8_night 41 = .ok (.getfield 27, 3) := by decide +kernel
theorem dX8_night_44 : decode cX8_night 44 = .ok (.getfield 216, 3) := by decide +kernel
theorem dX8_night_47 : decode cX8_night 47 = .ok (.iload_n 3, 1) := by decide +kernel
theorem dX8_night_48 : decode cX8_night 48 = .ok (.iadd, 1) := by decide +kernel
theorem dX8_night_49 : decode cX8_night 49 = .ok (.sipush 9999, 3) := by decide +kernel
theorem dX8_night_52 : decode cX8_night 52 = .ok (.if_icmp .le 6, 3) := by decide +kernel
theorem dX8_night_55 : decode cX8_night 55 = .ok (.bipush (-5), 2) := by decide +kernel
theorem dX8_night_57 : decode cX8_night 57 = .ok (.ireturn, 1) := by decide +kernel
theorem dX8_night_58 : decode cX8_night 58 = .ok (.iload_n 1, 1) := by decide +kernel
theorem dX8_night_59 : decode cX8_night 59 = .ok (.istore 4, 2) := by decide +kernel
theorem dX8_night_61 : decode cX8_night 61 = .ok (.iconst 0, 1) := by decide +kernel
theorem dX8_night_62 : decode cX8_night 62 = .ok (.istore 5, 2) := by decide +kernel
theorem dX8_night_64 : decode cX8_night 64 = .ok (.iconst 0, 1) := by decide +kernel
theorem dX8_night_65 : decode cX8_night 65 = .ok (.istore 6, 2) := by decide +kernel
theorem dX8_night_67 : decode cX8_night 67 = .ok (.iload 6, 2) := by decide +kernel
theorem dX8_night_69 : decode cX8_night 69 = .ok (.iload_n 3, 1) := by decide +kernel
theorem dX8_night_70 : decode cX8_night 70 = .ok (.if_icmp .ge 104, 3) := by decide +kernel
theorem dX8_night_73 : decode cX8_night 73 = .ok (.iload 4, 2) := by decide +kernel
theorem dX8_night_75 : decode cX8_night 75 = .ok (.invokestatic 219, 3) := by decide +kernel
theorem dX8_night_78 : decode cX8_night 78 = .ok (.istore 4, 2) := by decide +kernel
theorem dX8_night_80 : decode cX8_night 80 = .ok (.aload_n 0, 1) := by decide +kernel
theorem dX8_night_81 : decode cX8_night 81 = .ok (.getfield 27, 3) := by decide +kernel
theorem dX8_night_84 : decode cX8_night 84 = .ok (.aload_n 0, 1) := by decide +kernel
theorem dX8_night_85 : decode cX8_night 85 = .ok (.getfield 27, 3) := by decide +kernel
theorem dX8_night_88 : decode cX8_night 88 = .ok (.getfield 128, 3) := by decide +kernel
theorem dX8_night_91 : decode cX8_night 91 = .ok (.iload 4, 2) := by decide +kernel
theorem dX8_night_93 : decode cX8_night 93 = .ok (.bipush 16, 2) := by decide +kernel
theorem dX8_night_95 : decode cX8_night 95 = .ok (.iushr, 1) := by decide +kernel
theorem dX8_night_96 : decode cX8_night 96 = .ok (.iconst 3, 1) := by decide +kernel
theorem dX8_night_97 : decode cX8_night 97 = .ok (.irem, 1) := by decide +kernel
theorem dX8_night_98 : decode cX8_night 98 = .ok (.i2l, 1) := by decide +kernel
theorem dX8_night_99 : decode cX8_night 99 = .ok (.invokevirtual 174, 3) := by decide +kernel
theorem dX8_night_102 : decode cX8_night 102 = .ok (.istore 7, 2) := by decide +kernel
theorem dX8_night_104 : decode cX8_night 104 = .ok (.iload 4, 2) := by decide +kernel
theorem dX8_night_106 : decode cX8_night 106 = .ok (.invokestatic 219, 3) := by decide +kernel
theorem dX8_night_109 : decode cX8_night 109 = .ok (.istore 4, 2) := by decide +kernel
theorem dX8_night_111 : decode cX8_night 111 = .ok (.iload 4, 2) := by decide +kernel
theorem dX8_night_113 : decode cX8_night 113 = .ok (.bipush 16, 2) := by decide +kernel
theorem dX8_night_115 : decode cX8_night 115 = .ok (.iushr, 1) := by decide +kernel
theorem dX8_night_116 : decode cX8_night 116 = .ok (.bipush 100, 2) := by decide +kernel
theorem dX8_night_118 : decode cX8_night 118 = .ok (.irem, 1) := by decide +kernel
theorem dX8_night_119 : decode cX8_night 119 = .ok (.aload_n 0, 1) := by decide +kernel
theorem dX8_night_120 : decode cX8_night 120 = .ok (.getfield 27, 3) := by decide +kernel
theorem dX8_night_123 : decode cX8_night 123 = .ok (.getfield 222, 3) := by decide +kernel
theorem dX8_night_126 : decode cX8_night 126 = .ok (.if_icmp .lt 7, 3) := by decide +kernel
theorem dX8_night_129 : decode cX8_night 129 = .ok (.iconst 1, 1) := by decide +kernel
theorem dX8_night_130 : decode cX8_night 130 = .ok (.goto 4, 3) := by decide +kernel
theorem dX8_night_133 : decode cX8_night 133 = .ok (.iconst 0, 1) := by decide +kernel
theorem dX8_night_134 : decode cX8_night 134 = .ok (.istore 8, 2) := by decide +kernel
theorem dX8_night_136 : decode cX8_night 136 = .ok (.iload 5, 2) := by decide +kernel
theorem dX8_night_138 : decode cX8_night 138 = .ok (.aload_n 0, 1) := by decide +kernel
theorem dX8_night_139 : decode cX8_night 139 = .ok (.getfield 27, 3) := by decide +kernel
theorem dX8_night_142 : decode cX8_night 142 = .ok (.iload 7, 2) := by decide +kernel
theorem dX8_night_144 : decode cX8_night 144 = .ok (.iconst (-1), 1) := by decide +kernel
theorem dX8_night_145 : decode cX8_night 145 = .ok (.if_icmp .ne 13, 3) := by decide +kernel
theorem dX8_night_148 : decode cX8_night 148 = .ok (.aload_n 0, 1) := by decide +kernel
theorem dX8_night_149 : decode cX8_night 149 = .ok (.getfield 27, 3) := by decide +kernel
theorem dX8_night_152 : decode cX8_night 152 = .ok (.getfield 128, 3) := by decide +kernel
theorem dX8_night_155 : decode cX8_night 155 = .ok (.goto 5, 3) := by decide +kernel
theorem dX8_night_158 : decode cX8_night 158 = .ok (.iload 7, 2) := by decide +kernel
theorem dX8_night_160 : decode cX8_night 160 = .ok (.iload 8, 2) := by decide +kernel
theorem dX8_night_162 : decode cX8_night 162 = .ok (.invokevirtual 178, 3) := by decide +kernel
theorem dX8_night_165 : decode cX8_night 165 = .ok (.iadd, 1) := by decide +kernel
theorem dX8_night_166 : decode cX8_night 166 = .ok (.istore 5, 2) := by decide +kernel
theorem dX8_night_168 : decode cX8_night 168 = .ok (.iinc 6 1, 3) := by decide +kernel
theorem dX8_night_171 : decode cX8_night 171 = .ok (.goto (-104), 3) := by decide +kernel
theorem dX8_night_174 : decode cX8_night 174 = .ok (.iload 5, 2) := by decide +kernel
theorem dX8_night_176 : decode cX8_night 176 = .ok (.ireturn, 1) := by decide +kernel
theorem dX8_walk_0 : decode cX8_walk 0 = .ok (.aload_n 0, 1) := by decide +kernel
theorem dX8_walk_1 : decode cX8_walk 1 = .ok (.getfield 27, 3) := by decide +kernel
theorem dX8_walk_4 : decode cX8_walk 4 = .ok (.iload_n 1, 1) := by decide +kernel
theorem dX8_walk_5 : decode cX8_walk 5 = .ok (.invokevirtual 108, 3) := by decide +kernel
theorem dX8_walk_8 : decode cX8_walk 8 = .ok (.ifCond .eq 14, 3) := by decide +kernel
theorem dX8_walk_11 : decode cX8_walk 11 = .ok (.aload_n 0, 1) := by decide +kernel
theorem dX8_walk_12 : decode cX8_walk 12 = .ok (.getfield 27, 3) := by decide +kernel
theorem dX8_walk_15 : decode cX8_walk 15 = .ok (.iload_n 2, 1) := by decide +kernel
theorem dX8_walk_16 : decode cX8_walk 16 = .ok (.invokevirtual 108, 3) := by decide +kernel
theorem dX8_walk_19 : decode cX8_walk 19 = .ok (.ifCond .ne 6, 3) := by decide +kernel
theorem dX8_walk_22 : decode cX8_walk 22 = .ok (.bipush (-2), 2) := by decide +kernel
theorem dX8_walk_24 : decode cX8_walk 24 = .ok (.ireturn, 1) := by decide +kernel
theorem dX8_walk_25 : decode cX8_walk 25 = .ok (.iload_n 3, 1) := by decide +kernel
theorem dX8_walk_26 : decode cX8_walk 26 = .ok (.ifCond .lt 16, 3) := by decide +kernel
theorem dX8_walk_29 : decode cX8_walk 29 = .ok (.iload_n 3, 1) := by decide +kernel
theorem dX8_walk_30 : decode cX8_walk 30 = .ok (.aload_n 0, 1) := by decide +kernel
theorem dX8_walk_31 : decode cX8_walk 31 = .ok (.getfield 27, 3) := by decide +kernel
theorem dX8_walk_34 : decode cX8_walk 34 = .ok (.getfield 116, 3) := by decide +kernel
theorem dX8_walk_37 : decode cX8_walk 37 = .ok (.iload_n 1, 1) := by decide +kernel
theorem dX8_walk_38 : decode cX8_walk 38 = .ok (.iaload, 1) := by decide +kernel
theorem dX8_walk_39 : decode cX8_walk 39 = .ok (.if_icmp .le 6, 3) := by decide +kernel
theorem dX8_walk_42 : decode cX8_walk 42 = .ok (.bipush (-3), 2) := by decide +kernel
theorem dX8_walk_44 : decode cX8_walk 44 = .ok (.ireturn, 1) := by decide +kernel
theorem dX8_walk_45 : decode cX8_walk 45 = .ok (.iload_n 1, 1) := by decide +kernel
theorem dX8_walk_46 : decode cX8_walk 46 = .ok (.iload_n 2, 1) := by decide +kernel
theorem dX8_walk_47 : decode cX8_walk 47 = .ok (.if_icmp .eq 22, 3) := by decide +kernel
theorem dX8_walk_50 : decode cX8_walk 50 = .ok (.aload_n 0, 1) := by decide +kernel
theorem dX8_walk_51 : decode cX8_walk 51 = .ok (.getfield 27, 3) := by decide +kernel
theorem dX8_walk_54 : decode cX8_walk 54 = .ok (.getfield 116, 3) := by decide +kernel
theorem dX8_walk_57 : decode cX8_walk 57 = .ok (.iload_n 2, 1) := by decide +kernel
theorem dX8_walk_58 : decode cX8_walk 58 = .ok (.iaload, 1) := by decide +kernel
theorem dX8_walk_59 : decode cX8_walk 59 = .ok (.iload_n 3, 1) := by decide +kernel
theorem dX8_walk_60 : decode cX8_walk 60 = .ok (.iadd, 1) := by decide +kernel
theorem dX8_walk_61 : decode cX8_walk 61 = .ok (.bipush 9, 2) := by decide +kernel
theorem dX8_walk_63 : decode cX8_walk 63 = .ok (.if_icmp .le 6, 3) := by decide +kernel
theorem dX8_walk_66 : decode cX8_walk 66 = .ok (.bipush (-4), 2) := by decide +kernel
theorem dX8_walk_68 : decode cX8_walk 68 = .ok (.ireturn, 1) := by decide +kernel
theorem dX8_walk_69 : decode cX8_walk 69 = .ok (.aload_n 0, 1) := by decide +kernel
theorem dX8_walk_70 : decode cX8_walk 70 = .ok (.getfield 27, 3) := by decide +kernel
theorem dX8_walk_73 : decode cX8_walk 73 = .ok (.getfield 116, 3) := by decide +kernel
theorem dX8_walk_76 : decode cX8_walk 76 = .ok (.iload_n 1, 1) := by decide +kernel
theorem dX8_walk_77 : decode cX8_walk 77 = .ok (.dup2, 1) := by decide +kernel
theorem dX8_walk_78 : decode cX8_walk 78 = .ok (.iaload, 1) := by decide +kernel
theorem dX8_walk_79 : decode cX8_walk 79 = .ok (.iload_n 3, 1) := by decide +kernel
theorem dX8_walk_80 : decode cX8_walk 80 = .ok (.isub, 1) := by decide +kernel
theorem dX8_walk_81 : decode cX8_walk 81 = .ok (.iastore, 1) := by decide +kernel
theorem dX8_walk_82 : decode cX8_walk 82 = .ok (.aload_n 0, 1) := by decide +kernel
theorem dX8_walk_83 : decode cX8_walk 83 = .ok (.getfield 27, 3) := by decide +kernel
theorem dX8_walk_86 : decode cX8_walk 86 = .ok (.getfield 116, 3) := by decide +kernel
theorem dX8_walk_89 : decode cX8_walk 89 = .ok (.iload_n 2, 1) := by decide +kernel
theorem dX8_walk_90 : decode cX8_walk 90 = .ok (.dup2, 1) := by decide +kernel
theorem dX8_walk_91 : decode cX8_walk 91 = .ok (.iaload, 1) := by decide +kernel
theorem dX8_walk_92 : decode cX8_walk 92 = .ok (.iload_n 3, 1) := by decide +kernel
theorem dX8_walk_93 : decode cX8_walk 93 = .ok (.iadd, 1) := by decide +kernel
theorem dX8_walk_94 : decode cX8_walk 94 = .ok (.iastore, 1) := by decide +kernel
theorem dX8_walk_95 : decode cX8_walk 95 = .ok (.iconst 0, 1) := by decide +kernel
theorem dX8_walk_96 : decode cX8_walk 96 = .ok (.ireturn, 1) := by decide +kernel
theorem dX8_most_0 : decode cX8_most 0 = .ok (.aload_n 0, 1) := by decide +kernel
theorem dX8_most_1 : decode cX8_most 1 = .ok (.iload_n 2, 1) := by decide +kernel
theorem dX8_most_2 : decode cX8_most 2 = .ok (.iconst 1, 1) := by decide +kernel
theorem dX8_most_3 : decode cX8_most 3 = .ok (.invokestatic 225, 3) := by decide +kernel
theorem dX8_most_6 : decode cX8_most 6 = .ok (.iload_n 1, 1) := by decide +kernel
theorem dX8_most_7 : decode cX8_most 7 = .ok (.bipush 8, 2) := by decide +kernel
theorem dX8_most_9 : decode cX8_most 9 = .ok (.invokevirtual 229, 3) := by decide +kernel
theorem dX8_most_12 : decode cX8_most 12 = .ok (.istore_n 3, 1) := by decide +kernel
theorem dX8_most_13 : decode cX8_most 13 = .ok (.iload_n 3, 1) := by decide +kernel
theorem dX8_most_14 : decode cX8_most 14 = .ok (.ifCond .eq 5, 3) := by decide +kernel
theorem dX8_most_17 : decode cX8_most 17 = .ok (.iload_n 3, 1) := by decide +kernel
theorem dX8_most_18 : decode cX8_most 18 = .ok (.ireturn, 1) := by decide +kernel
theorem dX8_most_19 : decode cX8_most 19 = .ok (.iload_n 2, 1) := by decide +kernel
theorem dX8_most_20 : decode cX8_most 20 = .ok (.iconst 1, 1) := by decide +kernel
theorem dX8_most_21 : decode cX8_most 21 = .ok (.if_icmp .ne 9, 3) := by decide +kernel
theorem dX8_most_24 : decode cX8_most 24 = .ok (.aload_n 0, 1) := by decide +kernel
theorem dX8_most_25 : decode cX8_most 25 = .ok (.iload_n 1, 1) := by decide +kernel
theorem dX8_most_26 : decode cX8_most 26 = .ok (.invokevirtual 233, 3) := by decide +kernel
theorem dX8_most_29 : decode cX8_most 29 = .ok (.ireturn, 1) := by decide +kernel
theorem dX8_most_30 : decode cX8_most 30 = .ok (.aload_n 0, 1) := by decide +kernel
theorem dX8_most_31 : decode cX8_most 31 = .ok (.iconst 0, 1) := by decide +kernel
theorem dX8_most_32 : decode cX8_most 32 = .ok (.iconst (-1), 1) := by decide +kernel
theorem dX8_most_33 : decode cX8_most 33 = .ok (.iload_n 1, 1) := by decide +kernel
theorem dX8_most_34 : decode cX8_most 34 = .ok (.invokevirtual 236, 3) := by decide +kernel
theorem dX8_most_37 : decode cX8_most 37 = .ok (.aload_n 0, 1) := by decide +kernel
theorem dX8_most_38 : decode cX8_most 38 = .ok (.iload_n 1, 1) := by decide +kernel
theorem dX8_most_39 : decode cX8_most 39 = .ok (.iload_n 2, 1) := by decide +kernel
theorem dX8_most_40 : decode cX8_most 40 = .ok (.aload_n 0, 1) := by decide +kernel
theorem dX8_most_41 : decode cX8_most 41 = .ok (.getfield 58, 3) := by decide +kernel
theorem dX8_most_44 : decode cX8_most 44 = .ok (.getfield 240, 3) := by decide +kernel
theorem dX8_most_47 : decode cX8_most 47 = .ok (.invokevirtual 243, 3) := by decide +kernel
theorem dX8_most_50 : decode cX8_most 50 = .ok (.ireturn, 1) := by decide +kernel
theorem dX8_dearest_0 : decode cX8_dearest 0 = .ok (.aload_n 0, 1) := by decide +kernel
theorem dX8_dearest_1 : decode cX8_dearest 1 = .ok (.iload_n 2, 1) := by decide +kernel
theorem dX8_dearest_2 : decode cX8_dearest 2 = .ok (.iconst 0, 1) := by decide +kernel
theorem dX8_dearest_3 : decode cX8_dearest 3 = .ok (.invokestatic 225, 3) := by decide +kernel
theorem dX8_dearest_6 : decode cX8_dearest 6 = .ok (.iload_n 1, 1) := by decide +kernel
theorem dX8_dearest_7 : decode cX8_dearest 7 = .ok (.bipush 8, 2) := by decide +kernel
theorem dX8_dearest_9 : decode cX8_dearest 9 = .ok (.invokevirtual 229, 3) := by decide +kernel
theorem dX8_dearest_12 : decode cX8_dearest 12 = .ok (.istore_n 3, 1) := by decide +kernel
theorem dX8_dearest_13 : decode cX8_dearest 13 = .ok (.iload_n 3, 1) := by decide +kernel
theorem dX8_dearest_14 : decode cX8_dearest 14 = .ok (.ifCond .eq 5, 3) := by decide +kernel
theorem dX8_dearest_17 : decode cX8_dearest 17 = .ok (.iload_n 3, 1) := by decide +kernel
theorem dX8_dearest_18 : decode cX8_dearest 18 = .ok (.ireturn, 1) := by decide +kernel
theorem dX8_dearest_19 : decode cX8_dearest 19 = .ok (.aload_n 0, 1) := by decide +kernel
theorem dX8_dearest_20 : decode cX8_dearest 20 = .ok (.iconst 1, 1) := by decide +kernel
theorem dX8_dearest_21 : decode cX8_dearest 21 = .ok (.iconst (-1), 1) := by decide +kernel
theorem dX8_dearest_22 : decode cX8_dearest 22 = .ok (.iload_n 1, 1) := by decide +kernel
theorem dX8_dearest_23 : decode cX8_dearest 23 = .ok (.invokevirtual 236, 3) := by decide +kernel
theorem dX8_dearest_26 : decode cX8_dearest 26 = .ok (.aload_n 0, 1) := by decide +kernel
theorem dX8_dearest_27 : decode cX8_dearest 27 = .ok (.iload_n 1, 1) := by decide +kernel
theorem dX8_dearest_28 : decode cX8_dearest 28 = .ok (.iload_n 2, 1) := by decide +kernel
theorem dX8_dearest_29 : decode cX8_dearest 29 = .ok (.aload_n 0, 1) := by decide +kernel
theorem dX8_dearest_30 : decode cX8_dearest 30 = .ok (.getfield 58, 3) := by decide +kernel
theorem dX8_dearest_33 : decode cX8_dearest 33 = .ok (.getfield 240, 3) := by decide +kernel
theorem dX8_dearest_36 : decode cX8_dearest 36 = .ok (.invokevirtual 243, 3) := by decide +kernel
theorem dX8_dearest_39 : decode cX8_dearest 39 = .ok (.ireturn, 1) := by decide +kernel
theorem dX8_fairest_0 : decode cX8_fairest 0 = .ok (.aload_n 0, 1) := by decide +kernel
theorem dX8_fairest_1 : decode cX8_fairest 1 = .ok (.iload_n 2, 1) := by decide +kernel
theorem dX8_fairest_2 : decode cX8_fairest 2 = .ok (.iconst 1, 1) := by decide +kernel
theorem dX8_fairest_3 : decode cX8_fairest 3 = .ok (.invokestatic 225, 3) := by decide +kernel
theorem dX8_fairest_6 : decode cX8_fairest 6 = .ok (.iload_n 1, 1) := by decide +kernel
theorem dX8_fairest_7 : decode cX8_fairest 7 = .ok (.bipush 8, 2) := by decide +kernel
theorem dX8_fairest_9 : decode cX8_fairest 9 = .ok (.invokevirtual 229, 3) := by decide +kernel
theorem dX8_fairest_12 : decode cX8_fairest 12 = .ok (.istore_n 3, 1) := by decide +kernel
theorem dX8_fairest_13 : decode cX8_fairest 13 = .ok (.iload_n 3, 1) := by decide +kernel
theorem dX8_fairest_14 : decode cX8_fairest 14 = .ok (.ifCond .eq 5, 3) := by decide +kernel
theorem dX8_fairest_17 : decode cX8_fairest 17 = .ok (.iload_n 3, 1) := by decide +kernel
theorem dX8_fairest_18 : decode cX8_fairest 18 = .ok (.ireturn, 1) := by decide +kernel
theorem dX8_fairest_19 : decode cX8_fairest 19 = .ok (.aload_n 0, 1) := by decide +kernel
theorem dX8_fairest_20 : decode cX8_fairest 20 = .ok (.iconst 2, 1) := by decide +kernel
theorem dX8_fairest_21 : decode cX8_fairest 21 = .ok (.iconst (-1), 1) := by decide +kernel
theorem dX8_fairest_22 : decode cX8_fairest 22 = .ok (.iload_n 1, 1) := by decide +kernel
theorem dX8_fairest_23 : decode cX8_fairest 23 = .ok (.invokevirtual 236, 3) := by decide +kernel
theorem dX8_fairest_26 : decode cX8_fairest 26 = .ok (.aload_n 0, 1) := by decide +kernel
theorem dX8_fairest_27 : decode cX8_fairest 27 = .ok (.getfield 58, 3) := by decide +kernel
theorem dX8_fairest_30 : decode cX8_fairest 30 = .ok (.getfield 240, 3) := by decide +kernel
theorem dX8_fairest_33 : decode cX8_fairest 33 = .ok (.istore 4, 2) := by decide +kernel
theorem dX8_fairest_35 : decode cX8_fairest 35 = .ok (.aload_n 0, 1) := by decide +kernel
theorem dX8_fairest_36 : decode cX8_fairest 36 = .ok (.iload_n 1, 1) := by decide +kernel
theorem dX8_fairest_37 : decode cX8_fairest 37 = .ok (.iload_n 2, 1) := by decide +kernel
theorem dX8_fairest_38 : decode cX8_fairest 38 = .ok (.iload_n 2, 1) := by decide +kernel
theorem dX8_fairest_39 : decode cX8_fairest 39 = .ok (.ifCond .ne 11, 3) := by decide +kernel
theorem dX8_fairest_42 : decode cX8_fairest 42 = .ok (.iload 4, 2) := by decide +kernel
theorem dX8_fairest_44 : decode cX8_fairest 44 = .ok (.invokestatic 247, 3) := by decide +kernel
theorem dX8_fairest_47 : decode cX8_fairest 47 = .ok (.goto 8, 3) := by decide +kernel
theorem dX8_fairest_50 : decode cX8_fairest 50 = .ok (.iload 4, 2) := by decide +kernel
theorem dX8_fairest_52 : decode cX8_fairest 52 = .ok (.invokestatic 250, 3) := by decide +kernel
theorem dX8_fairest_55 : decode cX8_fairest 55 = .ok (.invokevirtual 243, 3) := by decide +kernel
theorem dX8_fairest_58 : decode cX8_fairest 58 = .ok (.ireturn, 1) := by decide +kernel
theorem dX8_alone_0 : decode cX8_alone 0 = .ok (.aload_n 0, 1) := by decide +kernel
theorem dX8_alone_1 : decode cX8_alone 1 = .ok (.iload_n 1, 1) := by decide +kernel
theorem dX8_alone_2 : decode cX8_alone 2 = .ok (.invokestatic 135, 3) := by decide +kernel
theorem dX8_alone_5 : decode cX8_alone 5 = .ok (.ifCond .eq 15, 3) := by decide +kernel
theorem dX8_alone_8 : decode cX8_alone 8 = .ok (.iload_n 3, 1) := by decide +kernel
theorem dX8_alone_9 : decode cX8_alone 9 = .ok (.iconst 0, 1) := by decide +kernel
theorem dX8_alone_10 : decode cX8_alone 10 = .ok (.invokestatic 225, 3) := by decide +kernel
theorem dX8_alone_13 : decode cX8_alone 13 = .ok (.ifCond .eq 7, 3) := by decide +kernel
theorem dX8_alone_16 : decode cX8_alone 16 = .ok (.iconst 1, 1) := by decide +kernel
theorem dX8_alone_17 : decode cX8_alone 17 = .ok (.goto 4, 3) := by decide +kernel
theorem dX8_alone_20 : decode cX8_alone 20 = .ok (.iconst 0, 1) := by decide +kernel
theorem dX8_alone_21 : decode cX8_alone 21 = .ok (.iload_n 2, 1) := by decide +kernel
theorem dX8_alone_22 : decode cX8_alone 22 = .ok (.bipush 8, 2) := by decide +kernel
theorem dX8_alone_24 : decode cX8_alone 24 = .ok (.invokevirtual 229, 3) := by decide +kernel
theorem dX8_alone_27 : decode cX8_alone 27 = .ok (.istore 4, 2) := by decide +kernel
theorem dX8_alone_29 : decode cX8_alone 29 = .ok (.iload 4, 2) := by decide +kernel
theorem dX8_alone_31 : decode cX8_alone 31 = .ok (.ifCond .eq 6, 3) := by decide +kernel
theorem dX8_alone_34 : decode cX8_alone 34 = .ok (.iload 4, 2) := by decide +kernel
theorem dX8_alone_36 : decode cX8_alone 36 = .ok (.ireturn, 1) := by decide +kernel
theorem dX8_alone_37 : decode cX8_alone 37 = .ok (.aload_n 0, 1) := by decide +kernel
theorem dX8_alone_38 : decode cX8_alone 38 = .ok (.iconst 3, 1) := by decide +kernel
theorem dX8_alone_39 : decode cX8_alone 39 = .ok (.iload_n 1, 1) := by decide +kernel
theorem dX8_alone_40 : decode cX8_alone 40 = .ok (.iload_n 2, 1) := by decide +kernel
theorem dX8_alone_41 : decode cX8_alone 41 = .ok (.invokevirtual 236, 3) := by decide +kernel
