theorem dX9_isShaded_18 : decode cX9_isShaded 18 = .ok (.goto 4, 3) := by decide +kernel
theorem dX9_isShaded_21 : decode cX9_isShaded 21 = .ok (.iload_n 1, 1) := by decide +kernel
theorem dX9_isShaded_22 : decode cX9_isShaded 22 = .ok (.istore 5, 2) := by decide +kernel
theorem dX9_isShaded_24 : decode cX9_isShaded 24 = .ok (.iload 4, 2) := by decide +kernel
theorem dX9_isShaded_26 : decode cX9_isShaded 26 = .ok (.iconst 1, 1) := by decide +kernel
theorem dX9_isShaded_27 : decode cX9_isShaded 27 = .ok (.iadd, 1) := by decide +kernel
theorem dX9_isShaded_28 : decode cX9_isShaded 28 = .ok (.istore 6, 2) := by decide +kernel
theorem dX9_isShaded_30 : decode cX9_isShaded 30 = .ok (.iload 6, 2) := by decide +kernel
theorem dX9_isShaded_32 : decode cX9_isShaded 32 = .ok (.iload 5, 2) := by decide +kernel
theorem dX9_isShaded_34 : decode cX9_isShaded 34 = .ok (.if_icmp .ge 38, 3) := by decide +kernel
theorem dX9_isShaded_37 : decode cX9_isShaded 37 = .ok (.aload_n 0, 1) := by decide +kernel
theorem dX9_isShaded_38 : decode cX9_isShaded 38 = .ok (.getfield 13, 3) := by decide +kernel
theorem dX9_isShaded_41 : decode cX9_isShaded 41 = .ok (.bipush 48, 2) := by decide +kernel
theorem dX9_isShaded_43 : decode cX9_isShaded 43 = .ok (.iload 6, 2) := by decide +kernel
theorem dX9_isShaded_45 : decode cX9_isShaded 45 = .ok (.iadd, 1) := by decide +kernel
theorem dX9_isShaded_46 : decode cX9_isShaded 46 = .ok (.iaload, 1) := by decide +kernel
theorem dX9_isShaded_47 : decode cX9_isShaded 47 = .ok (.iload 5, 2) := by decide +kernel
theorem dX9_isShaded_49 : decode cX9_isShaded 49 = .ok (.iload 4, 2) := by decide +kernel
theorem dX9_isShaded_51 : decode cX9_isShaded 51 = .ok (.isub, 1) := by decide +kernel
theorem dX9_isShaded_52 : decode cX9_isShaded 52 = .ok (.imul, 1) := by decide +kernel
theorem dX9_isShaded_53 : decode cX9_isShaded 53 = .ok (.iload_n 3, 1) := by decide +kernel
theorem dX9_isShaded_54 : decode cX9_isShaded 54 = .ok (.iload 6, 2) := by decide +kernel
theorem dX9_isShaded_56 : decode cX9_isShaded 56 = .ok (.iload_n 2, 1) := by decide +kernel
theorem dX9_isShaded_57 : decode cX9_isShaded 57 = .ok (.invokestatic 158, 3) := by decide +kernel
theorem dX9_isShaded_60 : decode cX9_isShaded 60 = .ok (.imul, 1) := by decide +kernel
theorem dX9_isShaded_61 : decode cX9_isShaded 61 = .ok (.if_icmp .le 5, 3) := by decide +kernel
theorem dX9_isShaded_64 : decode cX9_isShaded 64 = .ok (.iconst 1, 1) := by decide +kernel
theorem dX9_isShaded_65 : decode cX9_isShaded 65 = .ok (.ireturn, 1) := by decide +kernel
theorem dX9_isShaded_66 : decode cX9_isShaded 66 = .ok (.iinc 6 1, 3) := by decide +kernel
theorem dX9_isShaded_69 : decode cX9_isShaded 69 = .ok (.goto (-39), 3) := by decide +kernel
theorem dX9_isShaded_72 : decode cX9_isShaded 72 = .ok (.iconst 0, 1) := by decide +kernel
theorem dX9_isShaded_73 : decode cX9_isShaded 73 = .ok (.ireturn, 1) := by decide +kernel
theorem dX9_lightBy_0 : decode cX9_lightBy 0 = .ok (.aload_n 0, 1) := by decide +kernel
theorem dX9_lightBy_1 : decode cX9_lightBy 1 = .ok (.iload_n 1, 1) := by decide +kernel
theorem dX9_lightBy_2 : decode cX9_lightBy 2 = .ok (.iload_n 2, 1) := by decide +kernel
theorem dX9_lightBy_3 : decode cX9_lightBy 3 = .ok (.iload_n 3, 1) := by decide +kernel
theorem dX9_lightBy_4 : decode cX9_lightBy 4 = .ok (.invokevirtual 161, 3) := by decide +kernel
theorem dX9_lightBy_7 : decode cX9_lightBy 7 = .ok (.ifCond .eq 7, 3) := by decide +kernel
theorem dX9_lightBy_10 : decode cX9_lightBy 10 = .ok (.iconst 0, 1) := by decide +kernel
theorem dX9_lightBy_11 : decode cX9_lightBy 11 = .ok (.goto 9, 3) := by decide +kernel
theorem dX9_lightBy_14 : decode cX9_lightBy 14 = .ok (.aload_n 0, 1) := by decide +kernel
theorem dX9_lightBy_15 : decode cX9_lightBy 15 = .ok (.iload_n 1, 1) := by decide +kernel
theorem dX9_lightBy_16 : decode cX9_lightBy 16 = .ok (.iload_n 2, 1) := by decide +kernel
theorem dX9_lightBy_17 : decode cX9_lightBy 17 = .ok (.invokevirtual 165, 3) := by decide +kernel
theorem dX9_lightBy_20 : decode cX9_lightBy 20 = .ok (.ireturn, 1) := by decide +kernel
theorem dX9_lightOf_0 : decode cX9_lightOf 0 = .ok (.aload_n 0, 1) := by decide +kernel
theorem dX9_lightOf_1 : decode cX9_lightOf 1 = .ok (.iload_n 1, 1) := by decide +kernel
theorem dX9_lightOf_2 : decode cX9_lightOf 2 = .ok (.iload_n 2, 1) := by decide +kernel
theorem dX9_lightOf_3 : decode cX9_lightOf 3 = .ok (.aload_n 0, 1) := by decide +kernel
theorem dX9_lightOf_4 : decode cX9_lightOf 4 = .ok (.getfield 13, 3) := by decide +kernel
theorem dX9_lightOf_7 : decode cX9_lightOf 7 = .ok (.iconst 3, 1) := by decide +kernel
theorem dX9_lightOf_8 : decode cX9_lightOf 8 = .ok (.iaload, 1) := by decide +kernel
theorem dX9_lightOf_9 : decode cX9_lightOf 9 = .ok (.invokevirtual 168, 3) := by decide +kernel
theorem dX9_lightOf_12 : decode cX9_lightOf 12 = .ok (.ireturn, 1) := by decide +kernel
theorem dX9_strip_0 : decode cX9_strip 0 = .ok (.aload_n 0, 1) := by decide +kernel
theorem dX9_strip_1 : decode cX9_strip 1 = .ok (.iconst 0, 1) := by decide +kernel
theorem dX9_strip_2 : decode cX9_strip 2 = .ok (.putfield 1, 3) := by decide +kernel
theorem dX9_strip_5 : decode cX9_strip 5 = .ok (.aload_n 0, 1) := by decide +kernel
theorem dX9_strip_6 : decode cX9_strip 6 = .ok (.iload_n 1, 1) := by decide +kernel
theorem dX9_strip_7 : decode cX9_strip 7 = .ok (.invokevirtual 172, 3) := by decide +kernel
theorem dX9_strip_10 : decode cX9_strip 10 = .ok (.ifCond .eq 15, 3) := by decide +kernel
theorem dX9_strip_13 : decode cX9_strip 13 = .ok (.iload_n 2, 1) := by decide +kernel
theorem dX9_strip_14 : decode cX9_strip 14 = .ok (.i2l, 1) := by decide +kernel
theorem dX9_strip_15 : decode cX9_strip 15 = .ok (.lconst 0, 1) := by decide +kernel
theorem dX9_strip_16 : decode cX9_strip 16 = .ok (.ldc2_w 175, 3) := by decide +kernel
theorem dX9_strip_19 : decode cX9_strip 19 = .ok (.invokestatic 128, 3) := by decide +kernel
theorem dX9_strip_22 : decode cX9_strip 22 = .ok (.ifCond .ne 6, 3) := by decide +kernel
theorem dX9_strip_25 : decode cX9_strip 25 = .ok (.bipush (-2), 2) := by decide +kernel
theorem dX9_strip_27 : decode cX9_strip 27 = .ok (.ireturn, 1) := by decide +kernel
theorem dX9_strip_28 : decode cX9_strip 28 = .ok (.iload_n 2, 1) := by decide +kernel
theorem dX9_strip_29 : decode cX9_strip 29 = .ok (.iconst 5, 1) := by decide +kernel
theorem dX9_strip_30 : decode cX9_strip 30 = .ok (.if_icmp .ne 17, 3) := by decide +kernel
theorem dX9_strip_33 : decode cX9_strip 33 = .ok (.aload_n 0, 1) := by decide +kernel
theorem dX9_strip_34 : decode cX9_strip 34 = .ok (.aload_n 0, 1) := by decide +kernel
theorem dX9_strip_35 : decode cX9_strip 35 = .ok (.getfield 13, 3) := by decide +kernel
theorem dX9_strip_38 : decode cX9_strip 38 = .ok (.iconst 2, 1) := by decide +kernel
theorem dX9_strip_39 : decode cX9_strip 39 = .ok (.iaload, 1) := by decide +kernel
theorem dX9_strip_40 : decode cX9_strip 40 = .ok (.iload_n 1, 1) := by decide +kernel
theorem dX9_strip_41 : decode cX9_strip 41 = .ok (.invokevirtual 177, 3) := by decide +kernel
theorem dX9_strip_44 : decode cX9_strip 44 = .ok (.goto 17, 3) := by decide +kernel
theorem dX9_strip_47 : decode cX9_strip 47 = .ok (.aload_n 0, 1) := by decide +kernel
theorem dX9_strip_48 : decode cX9_strip 48 = .ok (.getfield 13, 3) := by decide +kernel
theorem dX9_strip_51 : decode cX9_strip 51 = .ok (.bipush 16, 2) := by decide +kernel
theorem dX9_strip_53 : decode cX9_strip 53 = .ok (.bipush 16, 2) := by decide +kernel
theorem dX9_strip_55 : decode cX9_strip 55 = .ok (.iload_n 2, 1) := by decide +kernel
theorem dX9_strip_56 : decode cX9_strip 56 = .ok (.imul, 1) := by decide +kernel
theorem dX9_strip_57 : decode cX9_strip 57 = .ok (.iadd, 1) := by decide +kernel
theorem dX9_strip_58 : decode cX9_strip 58 = .ok (.iload_n 1, 1) := by decide +kernel
theorem dX9_strip_59 : decode cX9_strip 59 = .ok (.iadd, 1) := by decide +kernel
theorem dX9_strip_60 : decode cX9_strip 60 = .ok (.iaload, 1) := by decide +kernel
theorem dX9_strip_61 : decode cX9_strip 61 = .ok (.ireturn, 1) := by decide +kernel
theorem dX9_ofFarm_0 : decode cX9_ofFarm 0 = .ok (.iconst 0, 1) := by decide +kernel
theorem dX9_ofFarm_1 : decode cX9_ofFarm 1 = .ok (.istore_n 3, 1) := by decide +kernel
theorem dX9_ofFarm_2 : decode cX9_ofFarm 2 = .ok (.iconst 0, 1) := by decide +kernel
theorem dX9_ofFarm_3 : decode cX9_ofFarm 3 = .ok (.istore 4, 2) := by decide +kernel
theorem dX9_ofFarm_5 : decode cX9_ofFarm 5 = .ok (.iload 4, 2) := by decide +kernel
theorem dX9_ofFarm_7 : decode cX9_ofFarm 7 = .ok (.aload_n 0, 1) := by decide +kernel
theorem dX9_ofFarm_8 : decode cX9_ofFarm 8 = .ok (.getfield 13, 3) := by decide +kernel
theorem dX9_ofFarm_11 : decode cX9_ofFarm 11 = .ok (.iconst 0, 1) := by decide +kernel
theorem dX9_ofFarm_12 : decode cX9_ofFarm 12 = .ok (.iaload, 1) := by decide +kernel
theorem dX9_ofFarm_13 : decode cX9_ofFarm 13 = .ok (.if_icmp .ge 39, 3) := by decide +kernel
theorem dX9_ofFarm_16 : decode cX9_ofFarm 16 = .ok (.iload_n 3, 1) := by decide +kernel
theorem dX9_ofFarm_17 : decode cX9_ofFarm 17 = .ok (.aload_n 0, 1) := by decide +kernel
theorem dX9_ofFarm_18 : decode cX9_ofFarm 18 = .ok (.getfield 13, 3) := by decide +kernel
theorem dX9_ofFarm_21 : decode cX9_ofFarm 21 = .ok (.bipush 64, 2) := by decide +kernel
theorem dX9_ofFarm_23 : decode cX9_ofFarm 23 = .ok (.iload 4, 2) := by decide +kernel
theorem dX9_ofFarm_25 : decode cX9_ofFarm 25 = .ok (.iadd, 1) := by decide +kernel
theorem dX9_ofFarm_26 : decode cX9_ofFarm 26 = .ok (.iaload, 1) := by decide +kernel
theorem dX9_ofFarm_27 : decode cX9_ofFarm 27 = .ok (.iload_n 1, 1) := by decide +kernel
theorem dX9_ofFarm_28 : decode cX9_ofFarm 28 = .ok (.if_icmp .ne 15, 3) := by decide +kernel
theorem dX9_ofFarm_31 : decode cX9_ofFarm 31 = .ok (.aload_n 0, 1) := by decide +kernel
theorem dX9_ofFarm_32 : decode cX9_ofFarm 32 = .ok (.getfield 13, 3) := by decide +kernel
theorem dX9_ofFarm_35 : decode cX9_ofFarm 35 = .ok (.iload_n 2, 1) := by decide +kernel
theorem dX9_ofFarm_36 : decode cX9_ofFarm 36 = .ok (.iload 4, 2) := by decide +kernel
theorem dX9_ofFarm_38 : decode cX9_ofFarm 38 = .ok (.iadd, 1) := by decide +kernel
theorem dX9_ofFarm_39 : decode cX9_ofFarm 39 = .ok (.iaload, 1) := by decide +kernel
theorem dX9_ofFarm_40 : decode cX9_ofFarm 40 = .ok (.goto 4, 3) := by decide +kernel
theorem dX9_ofFarm_43 : decode cX9_ofFarm 43 = .ok (.iconst 0, 1) := by decide +kernel
theorem dX9_ofFarm_44 : decode cX9_ofFarm 44 = .ok (.iadd, 1) := by decide +kernel
theorem dX9_ofFarm_45 : decode cX9_ofFarm 45 = .ok (.istore_n 3, 1) := by decide +kernel
theorem dX9_ofFarm_46 : decode cX9_ofFarm 46 = .ok (.iinc 4 1, 3) := by decide +kernel
theorem dX9_ofFarm_49 : decode cX9_ofFarm 49 = .ok (.goto (-44), 3) := by decide +kernel
theorem dX9_ofFarm_52 : decode cX9_ofFarm 52 = .ok (.iload_n 3, 1) := by decide +kernel
theorem dX9_ofFarm_53 : decode cX9_ofFarm 53 = .ok (.ireturn, 1) := by decide +kernel
theorem dX9_stripsOf_0 : decode cX9_stripsOf 0 = .ok (.iconst 0, 1) := by decide +kernel
theorem dX9_stripsOf_1 : decode cX9_stripsOf 1 = .ok (.istore_n 2, 1) := by decide +kernel
theorem dX9_stripsOf_2 : decode cX9_stripsOf 2 = .ok (.iconst 0, 1) := by decide +kernel
theorem dX9_stripsOf_3 : decode cX9_stripsOf 3 = .ok (.istore_n 3, 1) := by decide +kernel
theorem dX9_stripsOf_4 : decode cX9_stripsOf 4 = .ok (.iload_n 3, 1) := by decide +kernel
theorem dX9_stripsOf_5 : decode cX9_stripsOf 5 = .ok (.aload_n 0, 1) := by decide +kernel
theorem dX9_stripsOf_6 : decode cX9_stripsOf 6 = .ok (.getfield 13, 3) := by decide +kernel
theorem dX9_stripsOf_9 : decode cX9_stripsOf 9 = .ok (.iconst 0, 1) := by decide +kernel
theorem dX9_stripsOf_10 : decode cX9_stripsOf 10 = .ok (.iaload, 1) := by decide +kernel
theorem dX9_stripsOf_11 : decode cX9_stripsOf 11 = .ok (.if_icmp .ge 32, 3) := by decide +kernel
theorem dX9_stripsOf_14 : decode cX9_stripsOf 14 = .ok (.iload_n 2, 1) := by decide +kernel
theorem dX9_stripsOf_15 : decode cX9_stripsOf 15 = .ok (.aload_n 0, 1) := by decide +kernel
theorem dX9_stripsOf_16 : decode cX9_stripsOf 16 = .ok (.getfield 13, 3) := by decide +kernel
theorem dX9_stripsOf_19 : decode cX9_stripsOf 19 = .ok (.bipush 64, 2) := by decide +kernel
theorem dX9_stripsOf_21 : decode cX9_stripsOf 21 = .ok (.iload_n 3, 1) := by decide +kernel
theorem dX9_stripsOf_22 : decode cX9_stripsOf 22 = .ok (.iadd, 1) := by decide +kernel
theorem dX9_stripsOf_23 : decode cX9_stripsOf 23 = .ok (.iaload, 1) := by decide +kernel
theorem dX9_stripsOf_24 : decode cX9_stripsOf 24 = .ok (.iload_n 1, 1) := by decide +kernel
theorem dX9_stripsOf_25 : decode cX9_stripsOf 25 = .ok (.if_icmp .ne 9, 3) := by decide +kernel
theorem dX9_stripsOf_28 : decode cX9_stripsOf 28 = .ok (.iconst 1, 1) := by decide +kernel
theorem dX9_stripsOf_29 : decode cX9_stripsOf 29 = .ok (.iload_n 3, 1) := by decide +kernel
theorem dX9_stripsOf_30 : decode cX9_stripsOf 30 = .ok (.ishl, 1) := by decide +kernel
theorem dX9_stripsOf_31 : decode cX9_stripsOf 31 = .ok (.goto 4, 3) := by decide +kernel
theorem dX9_stripsOf_34 : decode cX9_stripsOf 34 = .ok (.iconst 0, 1) := by decide +kernel
theorem dX9_stripsOf_35 : decode cX9_stripsOf 35 = .ok (.ior, 1) := by decide +kernel
theorem dX9_stripsOf_36 : decode cX9_stripsOf 36 = .ok (.istore_n 2, 1) := by decide +kernel
theorem dX9_stripsOf_37 : decode cX9_stripsOf 37 = .ok (.iinc 3 1, 3) := by decide +kernel
theorem dX9_stripsOf_40 : decode cX9_stripsOf 40 = .ok (.goto (-36), 3) := by decide +kernel
theorem dX9_stripsOf_43 : decode cX9_stripsOf 43 = .ok (.iload_n 2, 1) := by decide +kernel
theorem dX9_stripsOf_44 : decode cX9_stripsOf 44 = .ok (.ireturn, 1) := by decide +kernel
theorem dX9_farm_0 : decode cX9_farm 0 = .ok (.aload_n 0, 1) := by decide +kernel
theorem dX9_farm_1 : decode cX9_farm 1 = .ok (.iconst 0, 1) := by decide +kernel
theorem dX9_farm_2 : decode cX9_farm 2 = .ok (.putfield 1, 3) := by decide +kernel
theorem dX9_farm_5 : decode cX9_farm 5 = .ok (.iload_n 1, 1) := by decide +kernel
theorem dX9_farm_6 : decode cX9_farm 6 = .ok (.i2l, 1) := by decide +kernel
theorem dX9_farm_7 : decode cX9_farm 7 = .ok (.lconst 0, 1) := by decide +kernel
theorem dX9_farm_8 : decode cX9_farm 8 = .ok (.ldc2_w 175, 3) := by decide +kernel
theorem dX9_farm_11 : decode cX9_farm 11 = .ok (.invokestatic 128, 3) := by decide +kernel
theorem dX9_farm_14 : decode cX9_farm 14 = .ok (.ifCond .eq 15, 3) := by decide +kernel
theorem dX9_farm_17 : decode cX9_farm 17 = .ok (.iload_n 2, 1) := by decide +kernel
theorem dX9_farm_18 : decode cX9_farm 18 = .ok (.i2l, 1) := by decide +kernel
theorem dX9_farm_19 : decode cX9_farm 19 = .ok (.lconst 0, 1) := by decide +kernel
theorem dX9_farm_20 : decode cX9_farm 20 = .ok (.ldc2_w 180, 3) := by decide +kernel
theorem dX9_farm_23 : decode cX9_farm 23 = .ok (.invokestatic 128, 3) := by decide +kernel
theorem dX9_farm_26 : decode cX9_farm 26 = .ok (.ifCond .ne 6, 3) := by decide +kernel
theorem dX9_farm_29 : decode cX9_farm 29 = .ok (.bipush (-2), 2) := by decide +kernel
theorem dX9_farm_31 : decode cX9_farm 31 = .ok (.ireturn, 1) := by decide +kernel
theorem dX9_farm_32 : decode cX9_farm 32 = .ok (.iload_n 2, 1) := by decide +kernel
theorem dX9_farm_33 : decode cX9_farm 33 = .ok (.ifCond .ne 13, 3) := by decide +kernel
theorem dX9_farm_36 : decode cX9_farm 36 = .ok (.aload_n 0, 1) := by decide +kernel
theorem dX9_farm_37 : decode cX9_farm 37 = .ok (.iload_n 1, 1) := by decide +kernel
theorem dX9_farm_38 : decode cX9_farm 38 = .ok (.bipush 80, 2) := by decide +kernel
theorem dX9_farm_40 : decode cX9_farm 40 = .ok (.invokevirtual 182, 3) := by decide +kernel
theorem dX9_farm_43 : decode cX9_farm 43 = .ok (.goto 40, 3) := by decide +kernel
theorem dX9_farm_46 : decode cX9_farm 46 = .ok (.iload_n 2, 1) := by decide +kernel
theorem dX9_farm_47 : decode cX9_farm 47 = .ok (.iconst 1, 1) := by decide +kernel
theorem dX9_farm_48 : decode cX9_farm 48 = .ok (.if_icmp .ne 13, 3) := by decide +kernel
theorem dX9_farm_51 : decode cX9_farm 51 = .ok (.aload_n 0, 1) := by decide +kernel
theorem dX9_farm_52 : decode cX9_farm 52 = .ok (.iload_n 1, 1) := by decide +kernel
theorem dX9_farm_53 : decode cX9_farm 53 = .ok (.bipush 16, 2) := by decide +kernel
theorem dX9_farm_55 : decode cX9_farm 55 = .ok (.invokevirtual 182, 3) := by decide +kernel
theorem dX9_farm_58 : decode cX9_farm 58 = .ok (.goto 25, 3) := by decide +kernel
theorem dX9_farm_61 : decode cX9_farm 61 = .ok (.iload_n 2, 1) := by decide +kernel
theorem dX9_farm_62 : decode cX9_farm 62 = .ok (.iconst 2, 1) := by decide +kernel
theorem dX9_farm_63 : decode cX9_farm 63 = .ok (.if_icmp .ne 15, 3) := by decide +kernel
theorem dX9_farm_66 : decode cX9_farm 66 = .ok (.aload_n 0, 1) := by decide +kernel
theorem dX9_farm_67 : decode cX9_farm 67 = .ok (.getfield 13, 3) := by decide +kernel
theorem dX9_farm_70 : decode cX9_farm 70 = .ok (.bipush 10, 2) := by decide +kernel
theorem dX9_farm_72 : decode cX9_farm 72 = .ok (.iload_n 1, 1) := by decide +kernel
theorem dX9_farm_73 : decode cX9_farm 73 = .ok (.iadd, 1) := by decide +kernel
theorem dX9_farm_74 : decode cX9_farm 74 = .ok (.iaload, 1) := by decide +kernel
theorem dX9_farm_75 : decode cX9_farm 75 = .ok (.goto 8, 3) := by decide +kernel
theorem dX9_farm_78 : decode cX9_farm 78 = .ok (.aload_n 0, 1) := by decide +kernel
theorem dX9_farm_79 : decode cX9_farm 79 = .ok (.iload_n 1, 1) := by decide +kernel
theorem dX9_farm_80 : decode cX9_farm 80 = .ok (.invokevirtual 185, 3) := by decide +kernel
theorem dX9_farm_83 : decode cX9_farm 83 = .ok (.ireturn, 1) := by decide +kernel
