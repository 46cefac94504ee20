theorem dX8_strip_103 : decode cX8_strip 103 = .ok (.getfield 27, 3) := by decide +kernel
theorem dX8_strip_106 : decode cX8_strip 106 = .ok (.aload_n 0, 1) := by decide +kernel
theorem dX8_strip_107 : decode cX8_strip 107 = .ok (.getfield 27, 3) := by decide +kernel
theorem dX8_strip_110 : decode cX8_strip 110 = .ok (.getfield 128, 3) := by decide +kernel
theorem dX8_strip_113 : decode cX8_strip 113 = .ok (.iload_n 1, 1) := by decide +kernel
theorem dX8_strip_114 : decode cX8_strip 114 = .ok (.invokevirtual 131, 3) := by decide +kernel
theorem dX8_strip_117 : decode cX8_strip 117 = .ok (.ireturn, 1) := by decide +kernel
theorem dX8_strip_118 : decode cX8_strip 118 = .ok (.bipush (-2), 2) := by decide +kernel
theorem dX8_strip_120 : decode cX8_strip 120 = .ok (.ireturn, 1) := by decide +kernel
theorem dX8_farm_0 : decode cX8_farm 0 = .ok (.iload_n 1, 1) := by decide +kernel
theorem dX8_farm_1 : decode cX8_farm 1 = .ok (.invokestatic 135, 3) := by decide +kernel
theorem dX8_farm_4 : decode cX8_farm 4 = .ok (.ifCond .ne 6, 3) := by decide +kernel
theorem dX8_farm_7 : decode cX8_farm 7 = .ok (.bipush (-2), 2) := by decide +kernel
theorem dX8_farm_9 : decode cX8_farm 9 = .ok (.ireturn, 1) := by decide +kernel
theorem dX8_farm_10 : decode cX8_farm 10 = .ok (.iload_n 2, 1) := by decide +kernel
theorem dX8_farm_11 : decode cX8_farm 11 = .ok (.tableswitch 80 0 3 #[29, 45, 61, 71], 29) := by decide +kernel
theorem dX8_farm_40 : decode cX8_farm 40 = .ok (.aload_n 0, 1) := by decide +kernel
theorem dX8_farm_41 : decode cX8_farm 41 = .ok (.getfield 27, 3) := by decide +kernel
theorem dX8_farm_44 : decode cX8_farm 44 = .ok (.aload_n 0, 1) := by decide +kernel
theorem dX8_farm_45 : decode cX8_farm 45 = .ok (.getfield 27, 3) := by decide +kernel
theorem dX8_farm_48 : decode cX8_farm 48 = .ok (.getfield 125, 3) := by decide +kernel
theorem dX8_farm_51 : decode cX8_farm 51 = .ok (.iload_n 1, 1) := by decide +kernel
theorem dX8_farm_52 : decode cX8_farm 52 = .ok (.invokevirtual 138, 3) := by decide +kernel
theorem dX8_farm_55 : decode cX8_farm 55 = .ok (.ireturn, 1) := by decide +kernel
theorem dX8_farm_56 : decode cX8_farm 56 = .ok (.aload_n 0, 1) := by decide +kernel
theorem dX8_farm_57 : decode cX8_farm 57 = .ok (.getfield 27, 3) := by decide +kernel
theorem dX8_farm_60 : decode cX8_farm 60 = .ok (.aload_n 0, 1) := by decide +kernel
theorem dX8_farm_61 : decode cX8_farm 61 = .ok (.getfield 27, 3) := by decide +kernel
theorem dX8_farm_64 : decode cX8_farm 64 = .ok (.getfield 112, 3) := by decide +kernel
theorem dX8_farm_67 : decode cX8_farm 67 = .ok (.iload_n 1, 1) := by decide +kernel
theorem dX8_farm_68 : decode cX8_farm 68 = .ok (.invokevirtual 138, 3) := by decide +kernel
theorem dX8_farm_71 : decode cX8_farm 71 = .ok (.ireturn, 1) := by decide +kernel
theorem dX8_farm_72 : decode cX8_farm 72 = .ok (.aload_n 0, 1) := by decide +kernel
theorem dX8_farm_73 : decode cX8_farm 73 = .ok (.getfield 27, 3) := by decide +kernel
theorem dX8_farm_76 : decode cX8_farm 76 = .ok (.getfield 142, 3) := by decide +kernel
theorem dX8_farm_79 : decode cX8_farm 79 = .ok (.iload_n 1, 1) := by decide +kernel
theorem dX8_farm_80 : decode cX8_farm 80 = .ok (.iaload, 1) := by decide +kernel
theorem dX8_farm_81 : decode cX8_farm 81 = .ok (.ireturn, 1) := by decide +kernel
theorem dX8_farm_82 : decode cX8_farm 82 = .ok (.aload_n 0, 1) := by decide +kernel
theorem dX8_farm_83 : decode cX8_farm 83 = .ok (.getfield 27, 3) := by decide +kernel
theorem dX8_farm_86 : decode cX8_farm 86 = .ok (.iload_n 1, 1) := by decide +kernel
theorem dX8_farm_87 : decode cX8_farm 87 = .ok (.invokevirtual 145, 3) := by decide +kernel
theorem dX8_farm_90 : decode cX8_farm 90 = .ok (.ireturn, 1) := by decide +kernel
theorem dX8_farm_91 : decode cX8_farm 91 = .ok (.bipush (-2), 2) := by decide +kernel
theorem dX8_farm_93 : decode cX8_farm 93 = .ok (.ireturn, 1) := by decide +kernel
theorem dX8_light_0 : decode cX8_light 0 = .ok (.aload_n 0, 1) := by decide +kernel
theorem dX8_light_1 : decode cX8_light 1 = .ok (.getfield 27, 3) := by decide +kernel
theorem dX8_light_4 : decode cX8_light 4 = .ok (.iload_n 1, 1) := by decide +kernel
theorem dX8_light_5 : decode cX8_light 5 = .ok (.invokevirtual 108, 3) := by decide +kernel
theorem dX8_light_8 : decode cX8_light 8 = .ok (.ifCond .eq 14, 3) := by decide +kernel
theorem dX8_light_11 : decode cX8_light 11 = .ok (.aload_n 0, 1) := by decide +kernel
theorem dX8_light_12 : decode cX8_light 12 = .ok (.getfield 27, 3) := by decide +kernel
theorem dX8_light_15 : decode cX8_light 15 = .ok (.iload_n 2, 1) := by decide +kernel
theorem dX8_light_16 : decode cX8_light 16 = .ok (.invokevirtual 108, 3) := by decide +kernel
theorem dX8_light_19 : decode cX8_light 19 = .ok (.ifCond .ne 6, 3) := by decide +kernel
theorem dX8_light_22 : decode cX8_light 22 = .ok (.bipush (-2), 2) := by decide +kernel
theorem dX8_light_24 : decode cX8_light 24 = .ok (.ireturn, 1) := by decide +kernel
theorem dX8_light_25 : decode cX8_light 25 = .ok (.aload_n 0, 1) := by decide +kernel
theorem dX8_light_26 : decode cX8_light 26 = .ok (.getfield 27, 3) := by decide +kernel
theorem dX8_light_29 : decode cX8_light 29 = .ok (.iload_n 1, 1) := by decide +kernel
theorem dX8_light_30 : decode cX8_light 30 = .ok (.iload_n 2, 1) := by decide +kernel
theorem dX8_light_31 : decode cX8_light 31 = .ok (.invokevirtual 131, 3) := by decide +kernel
theorem dX8_light_34 : decode cX8_light 34 = .ok (.ireturn, 1) := by decide +kernel
theorem dX8_lit_0 : decode cX8_lit 0 = .ok (.aload_n 0, 1) := by decide +kernel
theorem dX8_lit_1 : decode cX8_lit 1 = .ok (.getfield 27, 3) := by decide +kernel
theorem dX8_lit_4 : decode cX8_lit 4 = .ok (.iload_n 1, 1) := by decide +kernel
theorem dX8_lit_5 : decode cX8_lit 5 = .ok (.invokevirtual 108, 3) := by decide +kernel
theorem dX8_lit_8 : decode cX8_lit 8 = .ok (.ifCond .ne 6, 3) := by decide +kernel
theorem dX8_lit_11 : decode cX8_lit 11 = .ok (.bipush (-2), 2) := by decide +kernel
theorem dX8_lit_13 : decode cX8_lit 13 = .ok (.ireturn, 1) := by decide +kernel
theorem dX8_lit_14 : decode cX8_lit 14 = .ok (.aload_n 0, 1) := by decide +kernel
theorem dX8_lit_15 : decode cX8_lit 15 = .ok (.getfield 27, 3) := by decide +kernel
theorem dX8_lit_18 : decode cX8_lit 18 = .ok (.iload_n 1, 1) := by decide +kernel
theorem dX8_lit_19 : decode cX8_lit 19 = .ok (.invokevirtual 149, 3) := by decide +kernel
theorem dX8_lit_22 : decode cX8_lit 22 = .ok (.ireturn, 1) := by decide +kernel
theorem dX8_shaded_0 : decode cX8_shaded 0 = .ok (.aload_n 0, 1) := by decide +kernel
theorem dX8_shaded_1 : decode cX8_shaded 1 = .ok (.getfield 27, 3) := by decide +kernel
theorem dX8_shaded_4 : decode cX8_shaded 4 = .ok (.iload_n 1, 1) := by decide +kernel
theorem dX8_shaded_5 : decode cX8_shaded 5 = .ok (.invokevirtual 108, 3) := by decide +kernel
theorem dX8_shaded_8 : decode cX8_shaded 8 = .ok (.ifCond .ne 6, 3) := by decide +kernel
theorem dX8_shaded_11 : decode cX8_shaded 11 = .ok (.bipush (-2), 2) := by decide +kernel
theorem dX8_shaded_13 : decode cX8_shaded 13 = .ok (.ireturn, 1) := by decide +kernel
theorem dX8_shaded_14 : decode cX8_shaded 14 = .ok (.aload_n 0, 1) := by decide +kernel
theorem dX8_shaded_15 : decode cX8_shaded 15 = .ok (.getfield 27, 3) := by decide +kernel
theorem dX8_shaded_18 : decode cX8_shaded 18 = .ok (.iload_n 1, 1) := by decide +kernel
theorem dX8_shaded_19 : decode cX8_shaded 19 = .ok (.invokevirtual 152, 3) := by decide +kernel
theorem dX8_shaded_22 : decode cX8_shaded 22 = .ok (.ireturn, 1) := by decide +kernel
theorem dX8_high_0 : decode cX8_high 0 = .ok (.aload_n 0, 1) := by decide +kernel
theorem dX8_high_1 : decode cX8_high 1 = .ok (.getfield 27, 3) := by decide +kernel
theorem dX8_high_4 : decode cX8_high 4 = .ok (.iload_n 1, 1) := by decide +kernel
theorem dX8_high_5 : decode cX8_high 5 = .ok (.invokevirtual 108, 3) := by decide +kernel
theorem dX8_high_8 : decode cX8_high 8 = .ok (.ifCond .eq 14, 3) := by decide +kernel
theorem dX8_high_11 : decode cX8_high 11 = .ok (.aload_n 0, 1) := by decide +kernel
theorem dX8_high_12 : decode cX8_high 12 = .ok (.getfield 27, 3) := by decide +kernel
theorem dX8_high_15 : decode cX8_high 15 = .ok (.iload_n 2, 1) := by decide +kernel
theorem dX8_high_16 : decode cX8_high 16 = .ok (.invokevirtual 108, 3) := by decide +kernel
theorem dX8_high_19 : decode cX8_high 19 = .ok (.ifCond .ne 6, 3) := by decide +kernel
theorem dX8_high_22 : decode cX8_high 22 = .ok (.bipush (-2), 2) := by decide +kernel
theorem dX8_high_24 : decode cX8_high 24 = .ok (.ireturn, 1) := by decide +kernel
theorem dX8_high_25 : decode cX8_high 25 = .ok (.aload_n 0, 1) := by decide +kernel
theorem dX8_high_26 : decode cX8_high 26 = .ok (.getfield 27, 3) := by decide +kernel
theorem dX8_high_29 : decode cX8_high 29 = .ok (.iload_n 1, 1) := by decide +kernel
theorem dX8_high_30 : decode cX8_high 30 = .ok (.iload_n 2, 1) := by decide +kernel
theorem dX8_high_31 : decode cX8_high 31 = .ok (.invokevirtual 155, 3) := by decide +kernel
theorem dX8_high_34 : decode cX8_high 34 = .ok (.ireturn, 1) := by decide +kernel
theorem dX8_highFor_0 : decode cX8_highFor 0 = .ok (.iload_n 1, 1) := by decide +kernel
theorem dX8_highFor_1 : decode cX8_highFor 1 = .ok (.ifCond .eq 14, 3) := by decide +kernel
theorem dX8_highFor_4 : decode cX8_highFor 4 = .ok (.aload_n 0, 1) := by decide +kernel
theorem dX8_highFor_5 : decode cX8_highFor 5 = .ok (.getfield 27, 3) := by decide +kernel
theorem dX8_highFor_8 : decode cX8_highFor 8 = .ok (.iload_n 1, 1) := by decide +kernel
theorem dX8_highFor_9 : decode cX8_highFor 9 = .ok (.invokevirtual 158, 3) := by decide +kernel
theorem dX8_highFor_12 : decode cX8_highFor 12 = .ok (.ifCond .ne 6, 3) := by decide +kernel
theorem dX8_highFor_15 : decode cX8_highFor 15 = .ok (.bipush (-3), 2) := by decide +kernel
theorem dX8_highFor_17 : decode cX8_highFor 17 = .ok (.ireturn, 1) := by decide +kernel
theorem dX8_highFor_18 : decode cX8_highFor 18 = .ok (.iconst (-1), 1) := by decide +kernel
theorem dX8_highFor_19 : decode cX8_highFor 19 = .ok (.istore_n 3, 1) := by decide +kernel
theorem dX8_highFor_20 : decode cX8_highFor 20 = .ok (.iconst (-1), 1) := by decide +kernel
theorem dX8_highFor_21 : decode cX8_highFor 21 = .ok (.istore 4, 2) := by decide +kernel
theorem dX8_highFor_23 : decode cX8_highFor 23 = .ok (.iconst 0, 1) := by decide +kernel
theorem dX8_highFor_24 : decode cX8_highFor 24 = .ok (.istore 5, 2) := by decide +kernel
theorem dX8_highFor_26 : decode cX8_highFor 26 = .ok (.iload 5, 2) := by decide +kernel
theorem dX8_highFor_28 : decode cX8_highFor 28 = .ok (.aload_n 0, 1) := by decide +kernel
theorem dX8_highFor_29 : decode cX8_highFor 29 = .ok (.getfield 27, 3) := by decide +kernel
theorem dX8_highFor_32 : decode cX8_highFor 32 = .ok (.getfield 161, 3) := by decide +kernel
theorem dX8_highFor_35 : decode cX8_highFor 35 = .ok (.if_icmp .ge 45, 3) := by decide +kernel
theorem dX8_highFor_38 : decode cX8_highFor 38 = .ok (.aload_n 0, 1) := by decide +kernel
theorem dX8_highFor_39 : decode cX8_highFor 39 = .ok (.getfield 27, 3) := by decide +kernel
theorem dX8_highFor_42 : decode cX8_highFor 42 = .ok (.iload 5, 2) := by decide +kernel
theorem dX8_highFor_44 : decode cX8_highFor 44 = .ok (.iload_n 1, 1) := by decide +kernel
theorem dX8_highFor_45 : decode cX8_highFor 45 = .ok (.invokevirtual 164, 3) := by decide +kernel
theorem dX8_highFor_48 : decode cX8_highFor 48 = .ok (.istore 6, 2) := by decide +kernel
theorem dX8_highFor_50 : decode cX8_highFor 50 = .ok (.iload 6, 2) := by decide +kernel
theorem dX8_highFor_52 : decode cX8_highFor 52 = .ok (.iconst (-1), 1) := by decide +kernel
theorem dX8_highFor_53 : decode cX8_highFor 53 = .ok (.if_icmp .eq 21, 3) := by decide +kernel
theorem dX8_highFor_56 : decode cX8_highFor 56 = .ok (.iload_n 3, 1) := by decide +kernel
theorem dX8_highFor_57 : decode cX8_highFor 57 = .ok (.iconst (-1), 1) := by decide +kernel
theorem dX8_highFor_58 : decode cX8_highFor 58 = .ok (.if_icmp .eq 9, 3) := by decide +kernel
theorem dX8_highFor_61 : decode cX8_highFor 61 = .ok (.iload 6, 2) := by decide +kernel
theorem dX8_highFor_63 : decode cX8_highFor 63 = .ok (.iload_n 3, 1) := by decide +kernel
theorem dX8_highFor_64 : decode cX8_highFor 64 = .ok (.if_icmp .ge 10, 3) := by decide +kernel
theorem dX8_highFor_67 : decode cX8_highFor 67 = .ok (.iload 6, 2) := by decide +kernel
theorem dX8_highFor_69 : decode cX8_highFor 69 = .ok (.istore_n 3, 1) := by decide +kernel
theorem dX8_highFor_70 : decode cX8_highFor 70 = .ok (.iload 5, 2) := by decide +kernel
theorem dX8_highFor_72 : decode cX8_highFor 72 = .ok (.istore 4, 2) := by decide +kernel
theorem dX8_highFor_74 : decode cX8_highFor 74 = .ok (.iinc 5 1, 3) := by decide +kernel
theorem dX8_highFor_77 : decode cX8_highFor 77 = .ok (.goto (-51), 3) := by decide +kernel
theorem dX8_highFor_80 : decode cX8_highFor 80 = .ok (.iload_n 2, 1) := by decide +kernel
theorem dX8_highFor_81 : decode cX8_highFor 81 = .ok (.ifCond .eq 8, 3) := by decide +kernel
theorem dX8_highFor_84 : decode cX8_highFor 84 = .ok (.iload 4, 2) := by decide +kernel
theorem dX8_highFor_86 : decode cX8_highFor 86 = .ok (.goto 4, 3) := by decide +kernel
theorem dX8_highFor_89 : decode cX8_highFor 89 = .ok (.iload_n 3, 1) := by decide +kernel
theorem dX8_highFor_90 : decode cX8_highFor 90 = .ok (.ireturn, 1) := by decide +kernel
theorem dX8_height_0 : decode cX8_height 0 = .ok (.iload_n 1, 1) := by decide +kernel
theorem dX8_height_1 : decode cX8_height 1 = .ok (.iconst 1, 1) := by decide +kernel
theorem dX8_height_2 : decode cX8_height 2 = .ok (.if_icmp .lt 9, 3) := by decide +kernel
theorem dX8_height_5 : decode cX8_height 5 = .ok (.iload_n 1, 1) := by decide +kernel
theorem dX8_height_6 : decode cX8_height 6 = .ok (.bipush 30, 2) := by decide +kernel
theorem dX8_height_8 : decode cX8_height 8 = .ok (.if_icmp .le 6, 3) := by decide +kernel
theorem dX8_height_11 : decode cX8_height 11 = .ok (.bipush (-3), 2) := by decide +kernel
theorem dX8_height_13 : decode cX8_height 13 = .ok (.ireturn, 1) := by decide +kernel
theorem dX8_height_14 : decode cX8_height 14 = .ok (.aload_n 0, 1) := by decide +kernel
theorem dX8_height_15 : decode cX8_height 15 = .ok (.getfield 27, 3) := by decide +kernel
theorem dX8_height_18 : decode cX8_height 18 = .ok (.getfield 167, 3) := by decide +kernel
theorem dX8_height_21 : decode cX8_height 21 = .ok (.istore_n 2, 1) := by decide +kernel
theorem dX8_height_22 : decode cX8_height 22 = .ok (.aload_n 0, 1) := by decide +kernel
theorem dX8_height_23 : decode cX8_height 23 = .ok (.getfield 27, 3) := by decide +kernel
theorem dX8_height_26 : decode cX8_height 26 = .ok (.iload_n 1, 1) := by decide +kernel
theorem dX8_height_27 : decode cX8_height 27 = .ok (.putfield 167, 3) := by decide +kernel
theorem dX8_height_30 : decode cX8_height 30 = .ok (.iload_n 2, 1) := by decide +kernel
theorem dX8_height_31 : decode cX8_height 31 = .ok (.ireturn, 1) := by decide +kernel
theorem dX8_fell_0 : decode cX8_fell 0 = .ok (.aload_n 0, 1) := by decide +kernel
theorem dX8_fell_1 : decode cX8_fell 1 = .ok (.getfield 27, 3) := by decide +kernel
theorem dX8_fell_4 : decode cX8_fell 4 = .ok (.iload_n 1, 1) := by decide +kernel
theorem dX8_fell_5 : decode cX8_fell 5 = .ok (.invokevirtual 108, 3) := by decide +kernel
theorem dX8_fell_8 : decode cX8_fell 8 = .ok (.ifCond .ne 6, 3) := by decide +kernel
theorem dX8_fell_11 : decode cX8_fell 11 = .ok (.bipush (-2), 2) := by decide +kernel
theorem dX8_fell_13 : decode cX8_fell 13 = .ok (.ireturn, 1) := by decide +kernel
theorem dX8_fell_14 : decode cX8_fell 14 = .ok (.aload_n 0, 1) := by decide +kernel
theorem dX8_fell_15 : decode cX8_fell 15 = .ok (.getfield 27, 3) := by decide +kernel
theorem dX8_fell_18 : decode cX8_fell 18 = .ok (.getfield 119, 3) := by decide +kernel
theorem dX8_fell_21 : decode cX8_fell 21 = .ok (.iload_n 1, 1) := by decide +kernel
theorem dX8_fell_22 : decode cX8_fell 22 = .ok (.iaload, 1) := by decide +kernel
theorem dX8_fell_23 : decode cX8_fell 23 = .ok (.istore_n 2, 1) := by decide +kernel
theorem dX8_fell_24 : decode cX8_fell 24 = .ok (.iload_n 2, 1) := by decide +kernel
theorem dX8_fell_25 : decode cX8_fell 25 = .ok (.ifCond .ne 6, 3) := by decide +kernel
theorem dX8_fell_28 : decode cX8_fell 28 = .ok (.bipush (-5), 2) := by decide +kernel
theorem dX8_fell_30 : decode cX8_fell 30 = .ok (.ireturn, 1) := by decide +kernel
theorem dX8_fell_31 : decode cX8_fell 31 = .ok (.aload_n 0, 1) := by decide +kernel
theorem dX8_fell_32 : decode cX8_fell 32 = .ok (.getfield 27, 3) := by decide +kernel
theorem dX8_fell_35 : decode cX8_fell 35 = .ok (.getfield 119, 3) := by decide +kernel
theorem dX8_fell_38 : decode cX8_fell 38 = .ok (.iload_n 1, 1) := by decide +kernel
theorem dX8_fell_39 : decode cX8_fell 39 = .ok (.iconst 0, 1) := by decide +kernel
theorem dX8_fell_40 : decode cX8_fell 40 = .ok (.iastore, 1) := by decide +kernel
theorem dX8_fell_41 : decode cX8_fell 41 = .ok (.iload_n 2, 1) := by decide +kernel
theorem dX8_fell_42 : decode cX8_fell 42 = .ok (.ireturn, 1) := by decide +kernel
theorem dX8_minute_0 : decode cX8_minute 0 = .ok (.aload_n 0, 1) := by decide +kernel
theorem dX8_minute_1 : decode cX8_minute 1 = .ok (.getfield 27, 3) := by decide +kernel
theorem dX8_minute_4 : decode cX8_minute 4 = .ok (.iload_n 1, 1) := by decide +kernel
theorem dX8_minute_5 : decode cX8_minute 5 = .ok (.i2l, 1) := by decide +kernel
theorem dX8_minute_6 : decode cX8_minute 6 = .ok (.invokevirtual 170, 3) := by decide +kernel
