theorem dX9_ofFarm_52 : decode cX9_ofFarm 52 = .ok (.iload_n 3, 1) := by decide +kernel
theorem dX9_ofFarm_53 : decode cX9_ofFarm 53 = .ok (.ireturn, 1) := by decide +kernel
theorem dX9_stripsOf_0 : decode cX9_stripsOf 0 = .ok (.iconst 0, 1) := by decide +kernel
theorem dX9_stripsOf_1 : decode cX9_stripsOf 1 = .ok (.istore_n 2, 1) := by decide +kernel
theorem dX9_stripsOf_2 : decode cX9_stripsOf 2 = .ok (.iconst 0, 1) := by decide +kernel
theorem dX9_stripsOf_3 : decode cX9_stripsOf 3 = .ok (.istore_n 3, 1) := by decide +kernel
theorem dX9_stripsOf_4 : decode cX9_stripsOf 4 = .ok (.iload_n 3, 1) := by decide +kernel
theorem dX9_stripsOf_5 : decode cX9_stripsOf 5 = .ok (.aload_n 0, 1) := by decide +kernel
theorem dX9_stripsOf_6 : decode cX9_stripsOf 6 = .ok (.getfield 13, 3) := by decide +kernel
theorem dX9_stripsOf_9 : decode cX9_stripsOf 9 = .ok (.iconst 0, 1) := by decide +kernel
theorem dX9_stripsOf_10 : decode cX9_stripsOf 10 = .ok (.iaload, 1) := by decide +kernel
theorem dX9_stripsOf_11 : decode cX9_stripsOf 11 = .ok (.if_icmp .ge 32, 3) := by decide +kernel
theorem dX9_stripsOf_43 : decode cX9_stripsOf 43 = .ok (.iload_n 2, 1) := by decide +kernel
theorem dX9_stripsOf_44 : decode cX9_stripsOf 44 = .ok (.ireturn, 1) := by decide +kernel
theorem dX9_farm_0 : decode cX9_farm 0 = .ok (.aload_n 0, 1) := by decide +kernel
theorem dX9_farm_1 : decode cX9_farm 1 = .ok (.iconst 0, 1) := by decide +kernel
theorem dX9_farm_2 : decode cX9_farm 2 = .ok (.putfield 1, 3) := by decide +kernel
theorem dX9_farm_5 : decode cX9_farm 5 = .ok (.iload_n 1, 1) := by decide +kernel
theorem dX9_farm_6 : decode cX9_farm 6 = .ok (.i2l, 1) := by decide +kernel
theorem dX9_farm_7 : decode cX9_farm 7 = .ok (.lconst 0, 1) := by decide +kernel
theorem dX9_farm_8 : decode cX9_farm 8 = .ok (.ldc2_w 175, 3) := by decide +kernel
theorem dX9_farm_11 : decode cX9_farm 11 = .ok (.invokestatic 128, 3) := by decide +kernel
theorem dX9_farm_14 : decode cX9_farm 14 = .ok (.ifCond .eq 15, 3) := by decide +kernel
theorem dX9_farm_17 : decode cX9_farm 17 = .ok (.iload_n 2, 1) := by decide +kernel
theorem dX9_farm_18 : decode cX9_farm 18 = .ok (.i2l, 1) := by decide +kernel
theorem dX9_farm_19 : decode cX9_farm 19 = .ok (.lconst 0, 1) := by decide +kernel
theorem dX9_farm_20 : decode cX9_farm 20 = .ok (.ldc2_w 180, 3) := by decide +kernel
theorem dX9_farm_23 : decode cX9_farm 23 = .ok (.invokestatic 128, 3) := by decide +kernel
theorem dX9_farm_26 : decode cX9_farm 26 = .ok (.ifCond .ne 6, 3) := by decide +kernel
theorem dX9_farm_29 : decode cX9_farm 29 = .ok (.bipush (-2), 2) := by decide +kernel
theorem dX9_farm_31 : decode cX9_farm 31 = .ok (.ireturn, 1) := by decide +kernel
theorem dX9_farm_32 : decode cX9_farm 32 = .ok (.iload_n 2, 1) := by decide +kernel
theorem dX9_farm_33 : decode cX9_farm 33 = .ok (.ifCond .ne 13, 3) := by decide +kernel
theorem dX9_farm_36 : decode cX9_farm 36 = .ok (.aload_n 0, 1) := by decide +kernel
theorem dX9_farm_37 : decode cX9_farm 37 = .ok (.iload_n 1, 1) := by decide +kernel
theorem dX9_farm_38 : decode cX9_farm 38 = .ok (.bipush 80, 2) := by decide +kernel
theorem dX9_farm_40 : decode cX9_farm 40 = .ok (.invokevirtual 182, 3) := by decide +kernel
theorem dX9_farm_43 : decode cX9_farm 43 = .ok (.goto 40, 3) := by decide +kernel
theorem dX9_farm_46 : decode cX9_farm 46 = .ok (.iload_n 2, 1) := by decide +kernel
theorem dX9_farm_47 : decode cX9_farm 47 = .ok (.iconst 1, 1) := by decide +kernel
theorem dX9_farm_48 : decode cX9_farm 48 = .ok (.if_icmp .ne 13, 3) := by decide +kernel
theorem dX9_farm_51 : decode cX9_farm 51 = .ok (.aload_n 0, 1) := by decide +kernel
theorem dX9_farm_52 : decode cX9_farm 52 = .ok (.iload_n 1, 1) := by decide +kernel
theorem dX9_farm_53 : decode cX9_farm 53 = .ok (.bipush 16, 2) := by decide +kernel
theorem dX9_farm_55 : decode cX9_farm 55 = .ok (.invokevirtual 182, 3) := by decide +kernel
theorem dX9_farm_58 : decode cX9_farm 58 = .ok (.goto 25, 3) := by decide +kernel
theorem dX9_farm_61 : decode cX9_farm 61 = .ok (.iload_n 2, 1) := by decide +kernel
theorem dX9_farm_62 : decode cX9_farm 62 = .ok (.iconst 2, 1) := by decide +kernel
theorem dX9_farm_63 : decode cX9_farm 63 = .ok (.if_icmp .ne 15, 3) := by decide +kernel
theorem dX9_farm_66 : decode cX9_farm 66 = .ok (.aload_n 0, 1) := by decide +kernel
theorem dX9_farm_67 : decode cX9_farm 67 = .ok (.getfield 13, 3) := by decide +kernel
theorem dX9_farm_70 : decode cX9_farm 70 = .ok (.bipush 10, 2) := by decide +kernel
theorem dX9_farm_72 : decode cX9_farm 72 = .ok (.iload_n 1, 1) := by decide +kernel
theorem dX9_farm_73 : decode cX9_farm 73 = .ok (.iadd, 1) := by decide +kernel
theorem dX9_farm_74 : decode cX9_farm 74 = .ok (.iaload, 1) := by decide +kernel
theorem dX9_farm_75 : decode cX9_farm 75 = .ok (.goto 8, 3) := by decide +kernel
theorem dX9_farm_78 : decode cX9_farm 78 = .ok (.aload_n 0, 1) := by decide +kernel
theorem dX9_farm_79 : decode cX9_farm 79 = .ok (.iload_n 1, 1) := by decide +kernel
theorem dX9_farm_80 : decode cX9_farm 80 = .ok (.invokevirtual 185, 3) := by decide +kernel
theorem dX9_farm_83 : decode cX9_farm 83 = .ok (.ireturn, 1) := by decide +kernel
theorem dX9_light_0 : decode cX9_light 0 = .ok (.aload_n 0, 1) := by decide +kernel
theorem dX9_light_1 : decode cX9_light 1 = .ok (.iconst 0, 1) := by decide +kernel
theorem dX9_light_2 : decode cX9_light 2 = .ok (.putfield 1, 3) := by decide +kernel
theorem dX9_light_5 : decode cX9_light 5 = .ok (.aload_n 0, 1) := by decide +kernel
theorem dX9_light_6 : decode cX9_light 6 = .ok (.iload_n 1, 1) := by decide +kernel
theorem dX9_light_7 : decode cX9_light 7 = .ok (.invokevirtual 172, 3) := by decide +kernel
theorem dX9_light_10 : decode cX9_light 10 = .ok (.ifCond .eq 20, 3) := by decide +kernel
theorem dX9_light_30 : decode cX9_light 30 = .ok (.bipush (-2), 2) := by decide +kernel
theorem dX9_light_32 : decode cX9_light 32 = .ok (.ireturn, 1) := by decide +kernel
theorem dX9_lit_0 : decode cX9_lit 0 = .ok (.aload_n 0, 1) := by decide +kernel
theorem dX9_lit_1 : decode cX9_lit 1 = .ok (.iconst 0, 1) := by decide +kernel
theorem dX9_lit_2 : decode cX9_lit 2 = .ok (.putfield 1, 3) := by decide +kernel
theorem dX9_lit_5 : decode cX9_lit 5 = .ok (.aload_n 0, 1) := by decide +kernel
theorem dX9_lit_6 : decode cX9_lit 6 = .ok (.iload_n 1, 1) := by decide +kernel
theorem dX9_lit_7 : decode cX9_lit 7 = .ok (.invokevirtual 172, 3) := by decide +kernel
theorem dX9_lit_10 : decode cX9_lit 10 = .ok (.ifCond .eq 17, 3) := by decide +kernel
theorem dX9_lit_27 : decode cX9_lit 27 = .ok (.bipush (-2), 2) := by decide +kernel
theorem dX9_lit_29 : decode cX9_lit 29 = .ok (.ireturn, 1) := by decide +kernel
theorem dX9_shaded_0 : decode cX9_shaded 0 = .ok (.aload_n 0, 1) := by decide +kernel
theorem dX9_shaded_1 : decode cX9_shaded 1 = .ok (.iconst 0, 1) := by decide +kernel
theorem dX9_shaded_2 : decode cX9_shaded 2 = .ok (.putfield 1, 3) := by decide +kernel
theorem dX9_shaded_5 : decode cX9_shaded 5 = .ok (.aload_n 0, 1) := by decide +kernel
theorem dX9_shaded_6 : decode cX9_shaded 6 = .ok (.iload_n 1, 1) := by decide +kernel
theorem dX9_shaded_7 : decode cX9_shaded 7 = .ok (.invokevirtual 172, 3) := by decide +kernel
theorem dX9_shaded_10 : decode cX9_shaded 10 = .ok (.ifCond .ne 6, 3) := by decide +kernel
theorem dX9_shaded_13 : decode cX9_shaded 13 = .ok (.bipush (-2), 2) := by decide +kernel
theorem dX9_shaded_15 : decode cX9_shaded 15 = .ok (.ireturn, 1) := by decide +kernel
theorem dX9_high_0 : decode cX9_high 0 = .ok (.aload_n 0, 1) := by decide +kernel
theorem dX9_high_1 : decode cX9_high 1 = .ok (.iconst 0, 1) := by decide +kernel
theorem dX9_high_2 : decode cX9_high 2 = .ok (.putfield 1, 3) := by decide +kernel
theorem dX9_high_5 : decode cX9_high 5 = .ok (.aload_n 0, 1) := by decide +kernel
theorem dX9_high_6 : decode cX9_high 6 = .ok (.iload_n 1, 1) := by decide +kernel
theorem dX9_high_7 : decode cX9_high 7 = .ok (.invokevirtual 172, 3) := by decide +kernel
theorem dX9_high_10 : decode cX9_high 10 = .ok (.ifCond .eq 11, 3) := by decide +kernel
theorem dX9_high_21 : decode cX9_high 21 = .ok (.bipush (-2), 2) := by decide +kernel
theorem dX9_high_23 : decode cX9_high 23 = .ok (.ireturn, 1) := by decide +kernel
theorem dX9_isSet_0 : decode cX9_isSet 0 = .ok (.iload_n 1, 1) := by decide +kernel
theorem dX9_isSet_1 : decode cX9_isSet 1 = .ok (.i2l, 1) := by decide +kernel
theorem dX9_isSet_2 : decode cX9_isSet 2 = .ok (.lconst 0, 1) := by decide +kernel
theorem dX9_isSet_3 : decode cX9_isSet 3 = .ok (.iconst 1, 1) := by decide +kernel
theorem dX9_isSet_4 : decode cX9_isSet 4 = .ok (.aload_n 0, 1) := by decide +kernel
theorem dX9_isSet_5 : decode cX9_isSet 5 = .ok (.getfield 13, 3) := by decide +kernel
theorem dX9_isSet_8 : decode cX9_isSet 8 = .ok (.iconst 0, 1) := by decide +kernel
theorem dX9_isSet_9 : decode cX9_isSet 9 = .ok (.iaload, 1) := by decide +kernel
theorem dX9_isSet_10 : decode cX9_isSet 10 = .ok (.ishl, 1) := by decide +kernel
theorem dX9_isSet_11 : decode cX9_isSet 11 = .ok (.iconst 1, 1) := by decide +kernel
theorem dX9_isSet_12 : decode cX9_isSet 12 = .ok (.isub, 1) := by decide +kernel
theorem dX9_isSet_13 : decode cX9_isSet 13 = .ok (.i2l, 1) := by decide +kernel
theorem dX9_isSet_14 : decode cX9_isSet 14 = .ok (.invokestatic 128, 3) := by decide +kernel
theorem dX9_isSet_17 : decode cX9_isSet 17 = .ok (.ireturn, 1) := by decide +kernel
theorem dX9_highFor_0 : decode cX9_highFor 0 = .ok (.aload_n 0, 1) := by decide +kernel
theorem dX9_highFor_1 : decode cX9_highFor 1 = .ok (.iconst 0, 1) := by decide +kernel
theorem dX9_highFor_2 : decode cX9_highFor 2 = .ok (.putfield 1, 3) := by decide +kernel
theorem dX9_highFor_5 : decode cX9_highFor 5 = .ok (.aload_n 0, 1) := by decide +kernel
theorem dX9_highFor_6 : decode cX9_highFor 6 = .ok (.iload_n 1, 1) := by decide +kernel
theorem dX9_highFor_7 : decode cX9_highFor 7 = .ok (.invokevirtual 191, 3) := by decide +kernel
theorem dX9_highFor_10 : decode cX9_highFor 10 = .ok (.ifCond .eq 7, 3) := by decide +kernel
theorem dX9_highFor_13 : decode cX9_highFor 13 = .ok (.iload_n 1, 1) := by decide +kernel
theorem dX9_highFor_14 : decode cX9_highFor 14 = .ok (.ifCond .ne 6, 3) := by decide +kernel
theorem dX9_highFor_17 : decode cX9_highFor 17 = .ok (.bipush (-3), 2) := by decide +kernel
theorem dX9_highFor_19 : decode cX9_highFor 19 = .ok (.ireturn, 1) := by decide +kernel
theorem dX9_height_0 : decode cX9_height 0 = .ok (.aload_n 0, 1) := by decide +kernel
theorem dX9_height_1 : decode cX9_height 1 = .ok (.iconst 0, 1) := by decide +kernel
theorem dX9_height_2 : decode cX9_height 2 = .ok (.putfield 1, 3) := by decide +kernel
theorem dX9_height_5 : decode cX9_height 5 = .ok (.iload_n 1, 1) := by decide +kernel
theorem dX9_height_6 : decode cX9_height 6 = .ok (.i2l, 1) := by decide +kernel
theorem dX9_height_7 : decode cX9_height 7 = .ok (.lconst 1, 1) := by decide +kernel
theorem dX9_height_8 : decode cX9_height 8 = .ok (.ldc2_w 194, 3) := by decide +kernel
theorem dX9_height_11 : decode cX9_height 11 = .ok (.invokestatic 128, 3) := by decide +kernel
theorem dX9_height_14 : decode cX9_height 14 = .ok (.ifCond .ne 6, 3) := by decide +kernel
theorem dX9_height_17 : decode cX9_height 17 = .ok (.bipush (-3), 2) := by decide +kernel
theorem dX9_height_19 : decode cX9_height 19 = .ok (.ireturn, 1) := by decide +kernel
theorem dX9_height_20 : decode cX9_height 20 = .ok (.aload_n 0, 1) := by decide +kernel
theorem dX9_height_21 : decode cX9_height 21 = .ok (.getfield 13, 3) := by decide +kernel
theorem dX9_height_24 : decode cX9_height 24 = .ok (.iconst 3, 1) := by decide +kernel
theorem dX9_height_25 : decode cX9_height 25 = .ok (.iaload, 1) := by decide +kernel
theorem dX9_height_26 : decode cX9_height 26 = .ok (.istore_n 2, 1) := by decide +kernel
theorem dX9_height_27 : decode cX9_height 27 = .ok (.aload_n 0, 1) := by decide +kernel
theorem dX9_height_28 : decode cX9_height 28 = .ok (.getfield 13, 3) := by decide +kernel
theorem dX9_height_31 : decode cX9_height 31 = .ok (.iconst 3, 1) := by decide +kernel
theorem dX9_height_32 : decode cX9_height 32 = .ok (.iload_n 1, 1) := by decide +kernel
theorem dX9_height_33 : decode cX9_height 33 = .ok (.iastore, 1) := by decide +kernel
theorem dX9_height_34 : decode cX9_height 34 = .ok (.iload_n 2, 1) := by decide +kernel
theorem dX9_height_35 : decode cX9_height 35 = .ok (.ireturn, 1) := by decide +kernel
theorem dX9_fell_0 : decode cX9_fell 0 = .ok (.aload_n 0, 1) := by decide +kernel
theorem dX9_fell_1 : decode cX9_fell 1 = .ok (.iconst 0, 1) := by decide +kernel
theorem dX9_fell_2 : decode cX9_fell 2 = .ok (.putfield 1, 3) := by decide +kernel
theorem dX9_fell_5 : decode cX9_fell 5 = .ok (.aload_n 0, 1) := by decide +kernel
theorem dX9_fell_6 : decode cX9_fell 6 = .ok (.iload_n 1, 1) := by decide +kernel
theorem dX9_fell_7 : decode cX9_fell 7 = .ok (.invokevirtual 172, 3) := by decide +kernel
theorem dX9_fell_10 : decode cX9_fell 10 = .ok (.ifCond .ne 6, 3) := by decide +kernel
theorem dX9_fell_13 : decode cX9_fell 13 = .ok (.bipush (-2), 2) := by decide +kernel
theorem dX9_fell_15 : decode cX9_fell 15 = .ok (.ireturn, 1) := by decide +kernel
theorem dX9_then_0 : decode cX9_then 0 = .ok (.lload_n 1, 1) := by decide +kernel
theorem dX9_then_1 : decode cX9_then 1 = .ok (.lconst 1, 1) := by decide +kernel
theorem dX9_then_2 : decode cX9_then 2 = .ok (.lcmp, 1) := by decide +kernel
theorem dX9_then_3 : decode cX9_then 3 = .ok (.ifCond .ne 9, 3) := by decide +kernel
theorem dX9_then_6 : decode cX9_then 6 = .ok (.iload_n 0, 1) := by decide +kernel
theorem dX9_then_7 : decode cX9_then 7 = .ok (.iconst 1, 1) := by decide +kernel
theorem dX9_then_8 : decode cX9_then 8 = .ok (.isub, 1) := by decide +kernel
theorem dX9_then_9 : decode cX9_then 9 = .ok (.goto 18, 3) := by decide +kernel
theorem dX9_then_12 : decode cX9_then 12 = .ok (.lload_n 1, 1) := by decide +kernel
theorem dX9_then_13 : decode cX9_then 13 = .ok (.ldc2_w 196, 3) := by decide +kernel
theorem dX9_then_16 : decode cX9_then 16 = .ok (.lcmp, 1) := by decide +kernel
theorem dX9_then_17 : decode cX9_then 17 = .ok (.ifCond .ne 9, 3) := by decide +kernel
theorem dX9_then_20 : decode cX9_then 20 = .ok (.iload_n 0, 1) := by decide +kernel
theorem dX9_then_21 : decode cX9_then 21 = .ok (.iconst 1, 1) := by decide +kernel
theorem dX9_then_22 : decode cX9_then 22 = .ok (.iadd, 1) := by decide +kernel
theorem dX9_then_23 : decode cX9_then 23 = .ok (.goto 4, 3) := by decide +kernel
theorem dX9_then_26 : decode cX9_then 26 = .ok (.iload_n 0, 1) := by decide +kernel
theorem dX9_then_27 : decode cX9_then 27 = .ok (.ireturn, 1) := by decide +kernel
theorem dX9_refuses_0 : decode cX9_refuses 0 = .ok (.lload_n 1, 1) := by decide +kernel
theorem dX9_refuses_1 : decode cX9_refuses 1 = .ok (.lconst 0, 1) := by decide +kernel
theorem dX9_refuses_2 : decode cX9_refuses 2 = .ok (.ldc2_w 196, 3) := by decide +kernel
theorem dX9_refuses_5 : decode cX9_refuses 5 = .ok (.invokestatic 128, 3) := by decide +kernel
theorem dX9_refuses_8 : decode cX9_refuses 8 = .ok (.ifCond .eq 20, 3) := by decide +kernel
theorem dX9_refuses_11 : decode cX9_refuses 11 = .ok (.aload_n 0, 1) := by decide +kernel
theorem dX9_refuses_12 : decode cX9_refuses 12 = .ok (.aload_n 0, 1) := by decide +kernel
theorem dX9_refuses_13 : decode cX9_refuses 13 = .ok (.getfield 13, 3) := by decide +kernel
theorem dX9_refuses_16 : decode cX9_refuses 16 = .ok (.iconst 2, 1) := by decide +kernel
theorem dX9_refuses_17 : decode cX9_refuses 17 = .ok (.iaload, 1) := by decide +kernel
theorem dX9_refuses_18 : decode cX9_refuses 18 = .ok (.lload_n 1, 1) := by decide +kernel
theorem dX9_refuses_19 : decode cX9_refuses 19 = .ok (.invokestatic 198, 3) := by decide +kernel
theorem dX9_refuses_22 : decode cX9_refuses 22 = .ok (.invokevirtual 172, 3) := by decide +kernel
theorem dX9_refuses_25 : decode cX9_refuses 25 = .ok (.ifCond .ne 5, 3) := by decide +kernel
theorem dX9_refuses_28 : decode cX9_refuses 28 = .ok (.iconst 1, 1) := by decide +kernel
theorem dX9_refuses_29 : decode cX9_refuses 29 = .ok (.ireturn, 1) := by decide +kernel
theorem dX9_minute_0 : decode cX9_minute 0 = .ok (.aload_n 0, 1) := by decide +kernel
theorem dX9_minute_1 : decode cX9_minute 1 = .ok (.iconst 0, 1) := by decide +kernel
theorem dX9_minute_2 : decode cX9_minute 2 = .ok (.putfield 1, 3) := by decide +kernel
theorem dX9_minute_5 : decode cX9_minute 5 = .ok (.aload_n 0, 1) := by decide +kernel
theorem dX9_minute_6 : decode cX9_minute 6 = .ok (.iload_n 1, 1) := by decide +kernel
theorem dX9_minute_7 : decode cX9_minute 7 = .ok (.i2l, 1) := by decide +kernel
theorem dX9_minute_8 : decode cX9_minute 8 = .ok (.invokevirtual 202, 3) := by decide +kernel
theorem dX9_minute_11 : decode cX9_minute 11 = .ok (.istore_n 2, 1) := by decide +kernel
theorem dX9_minute_12 : decode cX9_minute 12 = .ok (.iload_n 2, 1) := by decide +kernel
theorem dX9_minute_13 : decode cX9_minute 13 = .ok (.iconst 1, 1) := by decide +kernel
theorem dX9_minute_14 : decode cX9_minute 14 = .ok (.if_icmp .ne 8, 3) := by decide +kernel
theorem dX9_minute_17 : decode cX9_minute 17 = .ok (.bipush (-2), 2) := by decide +kernel
theorem dX9_minute_19 : decode cX9_minute 19 = .ok (.goto 18, 3) := by decide +kernel
