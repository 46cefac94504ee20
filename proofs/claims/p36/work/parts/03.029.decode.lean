theorem dX9_light_0 : decode cX9_light 0 = .ok (.aload_n 0, 1) := by decide +kernel
theorem dX9_light_1 : decode cX9_light 1 = .ok (.iconst 0, 1) := by decide +kernel
theorem dX9_light_2 : decode cX9_light 2 = .ok (.putfield 1, 3) := by decide +kernel
theorem dX9_light_5 : decode cX9_light 5 = .ok (.aload_n 0, 1) := by decide +kernel
theorem dX9_light_6 : decode cX9_light 6 = .ok (.iload_n 1, 1) := by decide +kernel
theorem dX9_light_7 : decode cX9_light 7 = .ok (.invokevirtual 172, 3) := by decide +kernel
theorem dX9_light_10 : decode cX9_light 10 = .ok (.ifCond .eq 20, 3) := by decide +kernel
theorem dX9_light_13 : decode cX9_light 13 = .ok (.aload_n 0, 1) := by decide +kernel
theorem dX9_light_14 : decode cX9_light 14 = .ok (.iload_n 2, 1) := by decide +kernel
theorem dX9_light_15 : decode cX9_light 15 = .ok (.invokevirtual 172, 3) := by decide +kernel
theorem dX9_light_18 : decode cX9_light 18 = .ok (.ifCond .eq 12, 3) := by decide +kernel
theorem dX9_light_21 : decode cX9_light 21 = .ok (.aload_n 0, 1) := by decide +kernel
theorem dX9_light_22 : decode cX9_light 22 = .ok (.iload_n 1, 1) := by decide +kernel
theorem dX9_light_23 : decode cX9_light 23 = .ok (.iload_n 2, 1) := by decide +kernel
theorem dX9_light_24 : decode cX9_light 24 = .ok (.invokevirtual 177, 3) := by decide +kernel
theorem dX9_light_27 : decode cX9_light 27 = .ok (.goto 5, 3) := by decide +kernel
theorem dX9_light_30 : decode cX9_light 30 = .ok (.bipush (-2), 2) := by decide +kernel
theorem dX9_light_32 : decode cX9_light 32 = .ok (.ireturn, 1) := by decide +kernel
theorem dX9_litBy_0 : decode cX9_litBy 0 = .ok (.iconst 0, 1) := by decide +kernel
theorem dX9_litBy_1 : decode cX9_litBy 1 = .ok (.istore_n 3, 1) := by decide +kernel
theorem dX9_litBy_2 : decode cX9_litBy 2 = .ok (.iconst 0, 1) := by decide +kernel
theorem dX9_litBy_3 : decode cX9_litBy 3 = .ok (.istore 4, 2) := by decide +kernel
theorem dX9_litBy_5 : decode cX9_litBy 5 = .ok (.iload 4, 2) := by decide +kernel
theorem dX9_litBy_7 : decode cX9_litBy 7 = .ok (.aload_n 0, 1) := by decide +kernel
theorem dX9_litBy_8 : decode cX9_litBy 8 = .ok (.getfield 13, 3) := by decide +kernel
theorem dX9_litBy_11 : decode cX9_litBy 11 = .ok (.iconst 0, 1) := by decide +kernel
theorem dX9_litBy_12 : decode cX9_litBy 12 = .ok (.iaload, 1) := by decide +kernel
theorem dX9_litBy_13 : decode cX9_litBy 13 = .ok (.if_icmp .ge 31, 3) := by decide +kernel
theorem dX9_litBy_16 : decode cX9_litBy 16 = .ok (.iload_n 3, 1) := by decide +kernel
theorem dX9_litBy_17 : decode cX9_litBy 17 = .ok (.aload_n 0, 1) := by decide +kernel
theorem dX9_litBy_18 : decode cX9_litBy 18 = .ok (.iload_n 1, 1) := by decide +kernel
theorem dX9_litBy_19 : decode cX9_litBy 19 = .ok (.iload 4, 2) := by decide +kernel
theorem dX9_litBy_21 : decode cX9_litBy 21 = .ok (.iload_n 2, 1) := by decide +kernel
theorem dX9_litBy_22 : decode cX9_litBy 22 = .ok (.invokevirtual 168, 3) := by decide +kernel
theorem dX9_litBy_25 : decode cX9_litBy 25 = .ok (.ifCond .le 10, 3) := by decide +kernel
theorem dX9_litBy_28 : decode cX9_litBy 28 = .ok (.iconst 1, 1) := by decide +kernel
theorem dX9_litBy_29 : decode cX9_litBy 29 = .ok (.iload 4, 2) := by decide +kernel
theorem dX9_litBy_31 : decode cX9_litBy 31 = .ok (.ishl, 1) := by decide +kernel
theorem dX9_litBy_32 : decode cX9_litBy 32 = .ok (.goto 4, 3) := by decide +kernel
theorem dX9_litBy_35 : decode cX9_litBy 35 = .ok (.iconst 0, 1) := by decide +kernel
theorem dX9_litBy_36 : decode cX9_litBy 36 = .ok (.ior, 1) := by decide +kernel
theorem dX9_litBy_37 : decode cX9_litBy 37 = .ok (.istore_n 3, 1) := by decide +kernel
theorem dX9_litBy_38 : decode cX9_litBy 38 = .ok (.iinc 4 1, 3) := by decide +kernel
theorem dX9_litBy_41 : decode cX9_litBy 41 = .ok (.goto (-36), 3) := by decide +kernel
theorem dX9_litBy_44 : decode cX9_litBy 44 = .ok (.iload_n 3, 1) := by decide +kernel
theorem dX9_litBy_45 : decode cX9_litBy 45 = .ok (.ireturn, 1) := by decide +kernel
theorem dX9_lit_0 : decode cX9_lit 0 = .ok (.aload_n 0, 1) := by decide +kernel
theorem dX9_lit_1 : decode cX9_lit 1 = .ok (.iconst 0, 1) := by decide +kernel
theorem dX9_lit_2 : decode cX9_lit 2 = .ok (.putfield 1, 3) := by decide +kernel
theorem dX9_lit_5 : decode cX9_lit 5 = .ok (.aload_n 0, 1) := by decide +kernel
theorem dX9_lit_6 : decode cX9_lit 6 = .ok (.iload_n 1, 1) := by decide +kernel
theorem dX9_lit_7 : decode cX9_lit 7 = .ok (.invokevirtual 172, 3) := by decide +kernel
theorem dX9_lit_10 : decode cX9_lit 10 = .ok (.ifCond .eq 17, 3) := by decide +kernel
theorem dX9_lit_13 : decode cX9_lit 13 = .ok (.aload_n 0, 1) := by decide +kernel
theorem dX9_lit_14 : decode cX9_lit 14 = .ok (.iload_n 1, 1) := by decide +kernel
theorem dX9_lit_15 : decode cX9_lit 15 = .ok (.aload_n 0, 1) := by decide +kernel
theorem dX9_lit_16 : decode cX9_lit 16 = .ok (.getfield 13, 3) := by decide +kernel
theorem dX9_lit_19 : decode cX9_lit 19 = .ok (.iconst 3, 1) := by decide +kernel
theorem dX9_lit_20 : decode cX9_lit 20 = .ok (.iaload, 1) := by decide +kernel
theorem dX9_lit_21 : decode cX9_lit 21 = .ok (.invokevirtual 188, 3) := by decide +kernel
theorem dX9_lit_24 : decode cX9_lit 24 = .ok (.goto 5, 3) := by decide +kernel
theorem dX9_lit_27 : decode cX9_lit 27 = .ok (.bipush (-2), 2) := by decide +kernel
theorem dX9_lit_29 : decode cX9_lit 29 = .ok (.ireturn, 1) := by decide +kernel
theorem dX9_shaded_0 : decode cX9_shaded 0 = .ok (.aload_n 0, 1) := by decide +kernel
theorem dX9_shaded_1 : decode cX9_shaded 1 = .ok (.iconst 0, 1) := by decide +kernel
theorem dX9_shaded_2 : decode cX9_shaded 2 = .ok (.putfield 1, 3) := by decide +kernel
theorem dX9_shaded_5 : decode cX9_shaded 5 = .ok (.aload_n 0, 1) := by decide +kernel
theorem dX9_shaded_6 : decode cX9_shaded 6 = .ok (.iload_n 1, 1) := by decide +kernel
theorem dX9_shaded_7 : decode cX9_shaded 7 = .ok (.invokevirtual 172, 3) := by decide +kernel
theorem dX9_shaded_10 : decode cX9_shaded 10 = .ok (.ifCond .ne 6, 3) := by decide +kernel
theorem dX9_shaded_13 : decode cX9_shaded 13 = .ok (.bipush (-2), 2) := by decide +kernel
theorem dX9_shaded_15 : decode cX9_shaded 15 = .ok (.ireturn, 1) := by decide +kernel
theorem dX9_shaded_16 : decode cX9_shaded 16 = .ok (.iconst 0, 1) := by decide +kernel
theorem dX9_shaded_17 : decode cX9_shaded 17 = .ok (.istore_n 2, 1) := by decide +kernel
theorem dX9_shaded_18 : decode cX9_shaded 18 = .ok (.iconst 0, 1) := by decide +kernel
theorem dX9_shaded_19 : decode cX9_shaded 19 = .ok (.istore_n 3, 1) := by decide +kernel
theorem dX9_shaded_20 : decode cX9_shaded 20 = .ok (.iload_n 3, 1) := by decide +kernel
theorem dX9_shaded_21 : decode cX9_shaded 21 = .ok (.aload_n 0, 1) := by decide +kernel
theorem dX9_shaded_22 : decode cX9_shaded 22 = .ok (.getfield 13, 3) := by decide +kernel
theorem dX9_shaded_25 : decode cX9_shaded 25 = .ok (.iconst 0, 1) := by decide +kernel
theorem dX9_shaded_26 : decode cX9_shaded 26 = .ok (.iaload, 1) := by decide +kernel
theorem dX9_shaded_27 : decode cX9_shaded 27 = .ok (.if_icmp .ge 43, 3) := by decide +kernel
theorem dX9_shaded_30 : decode cX9_shaded 30 = .ok (.iload_n 2, 1) := by decide +kernel
theorem dX9_shaded_31 : decode cX9_shaded 31 = .ok (.aload_n 0, 1) := by decide +kernel
theorem dX9_shaded_32 : decode cX9_shaded 32 = .ok (.iload_n 1, 1) := by decide +kernel
theorem dX9_shaded_33 : decode cX9_shaded 33 = .ok (.iload_n 3, 1) := by decide +kernel
theorem dX9_shaded_34 : decode cX9_shaded 34 = .ok (.invokevirtual 165, 3) := by decide +kernel
theorem dX9_shaded_37 : decode cX9_shaded 37 = .ok (.ifCond .le 24, 3) := by decide +kernel
theorem dX9_shaded_40 : decode cX9_shaded 40 = .ok (.aload_n 0, 1) := by decide +kernel
theorem dX9_shaded_41 : decode cX9_shaded 41 = .ok (.iload_n 1, 1) := by decide +kernel
theorem dX9_shaded_42 : decode cX9_shaded 42 = .ok (.iload_n 3, 1) := by decide +kernel
theorem dX9_shaded_43 : decode cX9_shaded 43 = .ok (.aload_n 0, 1) := by decide +kernel
theorem dX9_shaded_44 : decode cX9_shaded 44 = .ok (.getfield 13, 3) := by decide +kernel
theorem dX9_shaded_47 : decode cX9_shaded 47 = .ok (.iconst 3, 1) := by decide +kernel
theorem dX9_shaded_48 : decode cX9_shaded 48 = .ok (.iaload, 1) := by decide +kernel
theorem dX9_shaded_49 : decode cX9_shaded 49 = .ok (.invokevirtual 161, 3) := by decide +kernel
theorem dX9_shaded_52 : decode cX9_shaded 52 = .ok (.ifCond .eq 9, 3) := by decide +kernel
theorem dX9_shaded_55 : decode cX9_shaded 55 = .ok (.iconst 1, 1) := by decide +kernel
theorem dX9_shaded_56 : decode cX9_shaded 56 = .ok (.iload_n 3, 1) := by decide +kernel
theorem dX9_shaded_57 : decode cX9_shaded 57 = .ok (.ishl, 1) := by decide +kernel
theorem dX9_shaded_58 : decode cX9_shaded 58 = .ok (.goto 4, 3) := by decide +kernel
theorem dX9_shaded_61 : decode cX9_shaded 61 = .ok (.iconst 0, 1) := by decide +kernel
theorem dX9_shaded_62 : decode cX9_shaded 62 = .ok (.ior, 1) := by decide +kernel
theorem dX9_shaded_63 : decode cX9_shaded 63 = .ok (.istore_n 2, 1) := by decide +kernel
theorem dX9_shaded_64 : decode cX9_shaded 64 = .ok (.iinc 3 1, 3) := by decide +kernel
theorem dX9_shaded_67 : decode cX9_shaded 67 = .ok (.goto (-47), 3) := by decide +kernel
theorem dX9_shaded_70 : decode cX9_shaded 70 = .ok (.iload_n 2, 1) := by decide +kernel
theorem dX9_shaded_71 : decode cX9_shaded 71 = .ok (.ireturn, 1) := by decide +kernel
theorem dX9_high_0 : decode cX9_high 0 = .ok (.aload_n 0, 1) := by decide +kernel
theorem dX9_high_1 : decode cX9_high 1 = .ok (.iconst 0, 1) := by decide +kernel
theorem dX9_high_2 : decode cX9_high 2 = .ok (.putfield 1, 3) := by decide +kernel
theorem dX9_high_5 : decode cX9_high 5 = .ok (.aload_n 0, 1) := by decide +kernel
theorem dX9_high_6 : decode cX9_high 6 = .ok (.iload_n 1, 1) := by decide +kernel
theorem dX9_high_7 : decode cX9_high 7 = .ok (.invokevirtual 172, 3) := by decide +kernel
theorem dX9_high_10 : decode cX9_high 10 = .ok (.ifCond .eq 11, 3) := by decide +kernel
theorem dX9_high_13 : decode cX9_high 13 = .ok (.aload_n 0, 1) := by decide +kernel
theorem dX9_high_14 : decode cX9_high 14 = .ok (.iload_n 2, 1) := by decide +kernel
theorem dX9_high_15 : decode cX9_high 15 = .ok (.invokevirtual 172, 3) := by decide +kernel
theorem dX9_high_18 : decode cX9_high 18 = .ok (.ifCond .ne 6, 3) := by decide +kernel
theorem dX9_high_21 : decode cX9_high 21 = .ok (.bipush (-2), 2) := by decide +kernel
theorem dX9_high_23 : decode cX9_high 23 = .ok (.ireturn, 1) := by decide +kernel
theorem dX9_high_24 : decode cX9_high 24 = .ok (.iconst 1, 1) := by decide +kernel
theorem dX9_high_25 : decode cX9_high 25 = .ok (.istore_n 3, 1) := by decide +kernel
theorem dX9_high_26 : decode cX9_high 26 = .ok (.iload_n 3, 1) := by decide +kernel
theorem dX9_high_27 : decode cX9_high 27 = .ok (.bipush 100, 2) := by decide +kernel
theorem dX9_high_29 : decode cX9_high 29 = .ok (.if_icmp .ge 21, 3) := by decide +kernel
theorem dX9_high_32 : decode cX9_high 32 = .ok (.aload_n 0, 1) := by decide +kernel
theorem dX9_high_33 : decode cX9_high 33 = .ok (.iload_n 1, 1) := by decide +kernel
theorem dX9_high_34 : decode cX9_high 34 = .ok (.iload_n 2, 1) := by decide +kernel
theorem dX9_high_35 : decode cX9_high 35 = .ok (.iload_n 3, 1) := by decide +kernel
theorem dX9_high_36 : decode cX9_high 36 = .ok (.invokevirtual 168, 3) := by decide +kernel
theorem dX9_high_39 : decode cX9_high 39 = .ok (.ifCond .le 5, 3) := by decide +kernel
theorem dX9_high_42 : decode cX9_high 42 = .ok (.iload_n 3, 1) := by decide +kernel
theorem dX9_high_43 : decode cX9_high 43 = .ok (.ireturn, 1) := by decide +kernel
theorem dX9_high_44 : decode cX9_high 44 = .ok (.iinc 3 1, 3) := by decide +kernel
theorem dX9_high_47 : decode cX9_high 47 = .ok (.goto (-21), 3) := by decide +kernel
theorem dX9_high_50 : decode cX9_high 50 = .ok (.iconst (-1), 1) := by decide +kernel
theorem dX9_high_51 : decode cX9_high 51 = .ok (.ireturn, 1) := by decide +kernel
theorem dX9_isSet_0 : decode cX9_isSet 0 = .ok (.iload_n 1, 1) := by decide +kernel
theorem dX9_isSet_1 : decode cX9_isSet 1 = .ok (.i2l, 1) := by decide +kernel
theorem dX9_isSet_2 : decode cX9_isSet 2 = .ok (.lconst 0, 1) := by decide +kernel
theorem dX9_isSet_3 : decode cX9_isSet 3 = .ok (.iconst 1, 1) := by decide +kernel
theorem dX9_isSet_4 : decode cX9_isSet 4 = .ok (.aload_n 0, 1) := by decide +kernel
theorem dX9_isSet_5 : decode cX9_isSet 5 = .ok (.getfield 13, 3) := by decide +kernel
theorem dX9_isSet_8 : decode cX9_isSet 8 = .ok (.iconst 0, 1) := by decide +kernel
theorem dX9_isSet_9 : decode cX9_isSet 9 = .ok (.iaload, 1) := by decide +kernel
theorem dX9_isSet_10 : decode cX9_isSet 10 = .ok (.ishl, 1) := by decide +kernel
theorem dX9_isSet_11 : decode cX9_isSet 11 = .ok (.iconst 1, 1) := by decide +kernel
theorem dX9_isSet_12 : decode cX9_isSet 12 = .ok (.isub, 1) := by decide +kernel
theorem dX9_isSet_13 : decode cX9_isSet 13 = .ok (.i2l, 1) := by decide +kernel
theorem dX9_isSet_14 : decode cX9_isSet 14 = .ok (.invokestatic 128, 3) := by decide +kernel
theorem dX9_isSet_17 : decode cX9_isSet 17 = .ok (.ireturn, 1) := by decide +kernel
theorem dX9_highFor_0 : decode cX9_highFor 0 = .ok (.aload_n 0, 1) := by decide +kernel
theorem dX9_highFor_1 : decode cX9_highFor 1 = .ok (.iconst 0, 1) := by decide +kernel
theorem dX9_highFor_2 : decode cX9_highFor 2 = .ok (.putfield 1, 3) := by decide +kernel
theorem dX9_highFor_5 : decode cX9_highFor 5 = .ok (.aload_n 0, 1) := by decide +kernel
theorem dX9_highFor_6 : decode cX9_highFor 6 = .ok (.iload_n 1, 1) := by decide +kernel
theorem dX9_highFor_7 : decode cX9_highFor 7 = .ok (.invokevirtual 191, 3) := by decide +kernel
theorem dX9_highFor_10 : decode cX9_highFor 10 = .ok (.ifCond .eq 7, 3) := by decide +kernel
theorem dX9_highFor_13 : decode cX9_highFor 13 = .ok (.iload_n 1, 1) := by decide +kernel
theorem dX9_highFor_14 : decode cX9_highFor 14 = .ok (.ifCond .ne 6, 3) := by decide +kernel
theorem dX9_highFor_17 : decode cX9_highFor 17 = .ok (.bipush (-3), 2) := by decide +kernel
theorem dX9_highFor_19 : decode cX9_highFor 19 = .ok (.ireturn, 1) := by decide +kernel
theorem dX9_highFor_20 : decode cX9_highFor 20 = .ok (.iconst 1, 1) := by decide +kernel
theorem dX9_highFor_21 : decode cX9_highFor 21 = .ok (.istore_n 3, 1) := by decide +kernel
theorem dX9_highFor_22 : decode cX9_highFor 22 = .ok (.iload_n 3, 1) := by decide +kernel
theorem dX9_highFor_23 : decode cX9_highFor 23 = .ok (.bipush 100, 2) := by decide +kernel
theorem dX9_highFor_25 : decode cX9_highFor 25 = .ok (.if_icmp .ge 54, 3) := by decide +kernel
theorem dX9_highFor_28 : decode cX9_highFor 28 = .ok (.iconst 0, 1) := by decide +kernel
theorem dX9_highFor_29 : decode cX9_highFor 29 = .ok (.istore 4, 2) := by decide +kernel
theorem dX9_highFor_31 : decode cX9_highFor 31 = .ok (.iload 4, 2) := by decide +kernel
theorem dX9_highFor_33 : decode cX9_highFor 33 = .ok (.aload_n 0, 1) := by decide +kernel
theorem dX9_highFor_34 : decode cX9_highFor 34 = .ok (.getfield 13, 3) := by decide +kernel
theorem dX9_highFor_37 : decode cX9_highFor 37 = .ok (.iconst 0, 1) := by decide +kernel
theorem dX9_highFor_38 : decode cX9_highFor 38 = .ok (.iaload, 1) := by decide +kernel
theorem dX9_highFor_39 : decode cX9_highFor 39 = .ok (.if_icmp .ge 34, 3) := by decide +kernel
theorem dX9_highFor_42 : decode cX9_highFor 42 = .ok (.iload_n 1, 1) := by decide +kernel
theorem dX9_highFor_43 : decode cX9_highFor 43 = .ok (.aload_n 0, 1) := by decide +kernel
theorem dX9_highFor_44 : decode cX9_highFor 44 = .ok (.iload 4, 2) := by decide +kernel
theorem dX9_highFor_46 : decode cX9_highFor 46 = .ok (.iload_n 3, 1) := by decide +kernel
theorem dX9_highFor_47 : decode cX9_highFor 47 = .ok (.invokevirtual 188, 3) := by decide +kernel
theorem dX9_highFor_50 : decode cX9_highFor 50 = .ok (.iconst (-1), 1) := by decide +kernel
theorem dX9_highFor_51 : decode cX9_highFor 51 = .ok (.ixor, 1) := by decide +kernel
theorem dX9_highFor_52 : decode cX9_highFor 52 = .ok (.iand, 1) := by decide +kernel
theorem dX9_highFor_53 : decode cX9_highFor 53 = .ok (.ifCond .ne 14, 3) := by decide +kernel
theorem dX9_highFor_56 : decode cX9_highFor 56 = .ok (.iload_n 2, 1) := by decide +kernel
theorem dX9_highFor_57 : decode cX9_highFor 57 = .ok (.ifCond .eq 8, 3) := by decide +kernel
theorem dX9_highFor_60 : decode cX9_highFor 60 = .ok (.iload 4, 2) := by decide +kernel
theorem dX9_highFor_62 : decode cX9_highFor 62 = .ok (.goto 4, 3) := by decide +kernel
theorem dX9_highFor_65 : decode cX9_highFor 65 = .ok (.iload_n 3, 1) := by decide +kernel
theorem dX9_highFor_66 : decode cX9_highFor 66 = .ok (.ireturn, 1) := by decide +kernel
theorem dX9_highFor_67 : decode cX9_highFor 67 = .ok (.iinc 4 1, 3) := by decide +kernel
theorem dX9_highFor_70 : decode cX9_highFor 70 = .ok (.goto (-39), 3) := by decide +kernel
theorem dX9_highFor_73 : decode cX9_highFor 73 = .ok (.iinc 3 1, 3) := by decide +kernel
theorem dX9_highFor_76 : decode cX9_highFor 76 = .ok (.goto (-54), 3) := by decide +kernel
theorem dX9_highFor_79 : decode cX9_highFor 79 = .ok (.iconst (-1), 1) := by decide +kernel
theorem dX9_highFor_80 : decode cX9_highFor 80 = .ok (.ireturn, 1) := by decide +kernel
theorem dX9_height_0 : decode cX9_height 0 = .ok (.aload_n 0, 1) := by decide +kernel
theorem dX9_height_1 : decode cX9_height 1 = .ok (.iconst 0, 1) := by decide +kernel
theorem dX9_height_2 : decode cX9_height 2 = .ok (.putfield 1, 3) := by decide +kernel
