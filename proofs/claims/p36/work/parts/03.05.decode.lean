theorem dX3_passAll_25 : decode cX3_passAll 25 = .ok (.ireturn, 1) := by decide +kernel
theorem dX3_passAll_26 : decode cX3_passAll 26 = .ok (.aload_n 0, 1) := by decide +kernel
theorem dX3_passAll_27 : decode cX3_passAll 27 = .ok (.aload_n 0, 1) := by decide +kernel
theorem dX3_passAll_28 : decode cX3_passAll 28 = .ok (.aload_n 0, 1) := by decide +kernel
theorem dX3_passAll_29 : decode cX3_passAll 29 = .ok (.getfield 43, 3) := by decide +kernel
theorem dX3_passAll_32 : decode cX3_passAll 32 = .ok (.lload_n 3, 1) := by decide +kernel
theorem dX3_passAll_33 : decode cX3_passAll 33 = .ok (.invokevirtual 112, 3) := by decide +kernel
theorem dX3_passAll_36 : decode cX3_passAll 36 = .ok (.iconst 1, 1) := by decide +kernel
theorem dX3_passAll_37 : decode cX3_passAll 37 = .ok (.invokevirtual 129, 3) := by decide +kernel
theorem dX3_passAll_40 : decode cX3_passAll 40 = .ok (.pop, 1) := by decide +kernel
theorem dX3_passAll_41 : decode cX3_passAll 41 = .ok (.iinc 2 1, 3) := by decide +kernel
theorem dX3_passAll_44 : decode cX3_passAll 44 = .ok (.goto (-42), 3) := by decide +kernel
theorem dX3_passAll_47 : decode cX3_passAll 47 = .ok (.aload_n 1, 1) := by decide +kernel
theorem dX3_passAll_48 : decode cX3_passAll 48 = .ok (.getfield 116, 3) := by decide +kernel
theorem dX3_passAll_51 : decode cX3_passAll 51 = .ok (.ireturn, 1) := by decide +kernel
theorem dX4_valueAt_0 : decode cX4_valueAt 0 = .ok (.iload_n 1, 1) := by decide +kernel
theorem dX4_valueAt_1 : decode cX4_valueAt 1 = .ok (.ifCond .lt 20, 3) := by decide +kernel
theorem dX4_valueAt_4 : decode cX4_valueAt 4 = .ok (.iload_n 1, 1) := by decide +kernel
theorem dX4_valueAt_5 : decode cX4_valueAt 5 = .ok (.aload_n 0, 1) := by decide +kernel
theorem dX4_valueAt_6 : decode cX4_valueAt 6 = .ok (.getfield 19, 3) := by decide +kernel
theorem dX4_valueAt_9 : decode cX4_valueAt 9 = .ok (.if_icmp .ge 12, 3) := by decide +kernel
theorem dX4_valueAt_12 : decode cX4_valueAt 12 = .ok (.aload_n 0, 1) := by decide +kernel
theorem dX4_valueAt_13 : decode cX4_valueAt 13 = .ok (.getfield 22, 3) := by decide +kernel
theorem dX4_valueAt_16 : decode cX4_valueAt 16 = .ok (.iload_n 1, 1) := by decide +kernel
theorem dX4_valueAt_17 : decode cX4_valueAt 17 = .ok (.laload, 1) := by decide +kernel
theorem dX4_valueAt_18 : decode cX4_valueAt 18 = .ok (.goto 6, 3) := by decide +kernel
theorem dX4_valueAt_21 : decode cX4_valueAt 21 = .ok (.ldc2_w 41, 3) := by decide +kernel
theorem dX4_valueAt_24 : decode cX4_valueAt 24 = .ok (.lreturn, 1) := by decide +kernel
theorem dX4_put_0 : decode cX4_put 0 = .ok (.iload_n 1, 1) := by decide +kernel
theorem dX4_put_1 : decode cX4_put 1 = .ok (.ifCond .lt 11, 3) := by decide +kernel
theorem dX4_put_4 : decode cX4_put 4 = .ok (.iload_n 1, 1) := by decide +kernel
theorem dX4_put_5 : decode cX4_put 5 = .ok (.aload_n 0, 1) := by decide +kernel
theorem dX4_put_6 : decode cX4_put 6 = .ok (.getfield 19, 3) := by decide +kernel
theorem dX4_put_9 : decode cX4_put 9 = .ok (.if_icmp .lt 7, 3) := by decide +kernel
theorem dX4_put_12 : decode cX4_put 12 = .ok (.ldc2_w 43, 3) := by decide +kernel
theorem dX4_put_15 : decode cX4_put 15 = .ok (.lreturn, 1) := by decide +kernel
theorem dX4_put_16 : decode cX4_put 16 = .ok (.aload_n 0, 1) := by decide +kernel
theorem dX4_put_17 : decode cX4_put 17 = .ok (.getfield 22, 3) := by decide +kernel
theorem dX4_put_20 : decode cX4_put 20 = .ok (.iload_n 1, 1) := by decide +kernel
theorem dX4_put_21 : decode cX4_put 21 = .ok (.aload_n 0, 1) := by decide +kernel
theorem dX4_put_22 : decode cX4_put 22 = .ok (.lload_n 2, 1) := by decide +kernel
theorem dX4_put_23 : decode cX4_put 23 = .ok (.invokevirtual 45, 3) := by decide +kernel
theorem dX4_put_26 : decode cX4_put 26 = .ok (.lastore, 1) := by decide +kernel
theorem dX4_put_27 : decode cX4_put 27 = .ok (.aload_n 0, 1) := by decide +kernel
theorem dX4_put_28 : decode cX4_put 28 = .ok (.getfield 22, 3) := by decide +kernel
theorem dX4_put_31 : decode cX4_put 31 = .ok (.iload_n 1, 1) := by decide +kernel
theorem dX4_put_32 : decode cX4_put 32 = .ok (.laload, 1) := by decide +kernel
theorem dX4_put_33 : decode cX4_put 33 = .ok (.lreturn, 1) := by decide +kernel
theorem dX4_cut_0 : decode cX4_cut 0 = .ok (.aload_n 0, 1) := by decide +kernel
theorem dX4_cut_1 : decode cX4_cut 1 = .ok (.getfield 15, 3) := by decide +kernel
theorem dX4_cut_4 : decode cX4_cut 4 = .ok (.tableswitch 42 0 2 #[28, 33, 38], 28) := by decide +kernel
theorem dX4_cut_32 : decode cX4_cut 32 = .ok (.lload_n 1, 1) := by decide +kernel
theorem dX4_cut_33 : decode cX4_cut 33 = .ok (.l2i, 1) := by decide +kernel
theorem dX4_cut_34 : decode cX4_cut 34 = .ok (.i2b, 1) := by decide +kernel
theorem dX4_cut_35 : decode cX4_cut 35 = .ok (.i2l, 1) := by decide +kernel
theorem dX4_cut_36 : decode cX4_cut 36 = .ok (.lreturn, 1) := by decide +kernel
theorem dX4_cut_37 : decode cX4_cut 37 = .ok (.lload_n 1, 1) := by decide +kernel
theorem dX4_cut_38 : decode cX4_cut 38 = .ok (.l2i, 1) := by decide +kernel
theorem dX4_cut_39 : decode cX4_cut 39 = .ok (.i2s, 1) := by decide +kernel
theorem dX4_cut_40 : decode cX4_cut 40 = .ok (.i2l, 1) := by decide +kernel
theorem dX4_cut_41 : decode cX4_cut 41 = .ok (.lreturn, 1) := by decide +kernel
theorem dX4_cut_42 : decode cX4_cut 42 = .ok (.lload_n 1, 1) := by decide +kernel
theorem dX4_cut_43 : decode cX4_cut 43 = .ok (.l2i, 1) := by decide +kernel
theorem dX4_cut_44 : decode cX4_cut 44 = .ok (.i2l, 1) := by decide +kernel
theorem dX4_cut_45 : decode cX4_cut 45 = .ok (.lreturn, 1) := by decide +kernel
theorem dX4_cut_46 : decode cX4_cut 46 = .ok (.lload_n 1, 1) := by decide +kernel
theorem dX4_cut_47 : decode cX4_cut 47 = .ok (.lreturn, 1) := by decide +kernel
theorem dJ7_fill_d0a16_0 : decode cJ7_fill_d0a16 0 = .ok (.iconst 0, 1) := by decide +kernel
theorem dJ7_fill_d0a16_1 : decode cJ7_fill_d0a16 1 = .ok (.istore_n 3, 1) := by decide +kernel
theorem dJ7_fill_d0a16_2 : decode cJ7_fill_d0a16 2 = .ok (.aload_n 0, 1) := by decide +kernel
theorem dJ7_fill_d0a16_3 : decode cJ7_fill_d0a16 3 = .ok (.arraylength, 1) := by decide +kernel
theorem dJ7_fill_d0a16_4 : decode cJ7_fill_d0a16 4 = .ok (.istore 4, 2) := by decide +kernel
theorem dJ7_fill_d0a16_6 : decode cJ7_fill_d0a16 6 = .ok (.iload_n 3, 1) := by decide +kernel
theorem dJ7_fill_d0a16_7 : decode cJ7_fill_d0a16 7 = .ok (.iload 4, 2) := by decide +kernel
theorem dJ7_fill_d0a16_9 : decode cJ7_fill_d0a16 9 = .ok (.if_icmp .ge 13, 3) := by decide +kernel
theorem dJ7_fill_d0a16_12 : decode cJ7_fill_d0a16 12 = .ok (.aload_n 0, 1) := by decide +kernel
theorem dJ7_fill_d0a16_13 : decode cJ7_fill_d0a16 13 = .ok (.iload_n 3, 1) := by decide +kernel
theorem dJ7_fill_d0a16_14 : decode cJ7_fill_d0a16 14 = .ok (.lload_n 1, 1) := by decide +kernel
theorem dJ7_fill_d0a16_15 : decode cJ7_fill_d0a16 15 = .ok (.lastore, 1) := by decide +kernel
theorem dJ7_fill_d0a16_16 : decode cJ7_fill_d0a16 16 = .ok (.iinc 3 1, 3) := by decide +kernel
theorem dJ7_fill_d0a16_19 : decode cJ7_fill_d0a16 19 = .ok (.goto (-13), 3) := by decide +kernel
theorem dJ7_fill_d0a16_22 : decode cJ7_fill_d0a16 22 = .ok (.return_, 1) := by decide +kernel
theorem dJ7_fill_53178_0 : decode cJ7_fill_53178 0 = .ok (.iconst 0, 1) := by decide +kernel
theorem dJ7_fill_53178_1 : decode cJ7_fill_53178 1 = .ok (.istore_n 2, 1) := by decide +kernel
theorem dJ7_fill_53178_2 : decode cJ7_fill_53178 2 = .ok (.aload_n 0, 1) := by decide +kernel
theorem dJ7_fill_53178_3 : decode cJ7_fill_53178 3 = .ok (.arraylength, 1) := by decide +kernel
theorem dJ7_fill_53178_4 : decode cJ7_fill_53178 4 = .ok (.istore_n 3, 1) := by decide +kernel
theorem dJ7_fill_53178_5 : decode cJ7_fill_53178 5 = .ok (.iload_n 2, 1) := by decide +kernel
theorem dJ7_fill_53178_6 : decode cJ7_fill_53178 6 = .ok (.iload_n 3, 1) := by decide +kernel
theorem dJ7_fill_53178_7 : decode cJ7_fill_53178 7 = .ok (.if_icmp .ge 13, 3) := by decide +kernel
theorem dJ7_fill_53178_10 : decode cJ7_fill_53178 10 = .ok (.aload_n 0, 1) := by decide +kernel
theorem dJ7_fill_53178_11 : decode cJ7_fill_53178 11 = .ok (.iload_n 2, 1) := by decide +kernel
theorem dJ7_fill_53178_12 : decode cJ7_fill_53178 12 = .ok (.iload_n 1, 1) := by decide +kernel
theorem dJ7_fill_53178_13 : decode cJ7_fill_53178 13 = .ok (.iastore, 1) := by decide +kernel
theorem dJ7_fill_53178_14 : decode cJ7_fill_53178 14 = .ok (.iinc 2 1, 3) := by decide +kernel
theorem dJ7_fill_53178_17 : decode cJ7_fill_53178 17 = .ok (.goto (-12), 3) := by decide +kernel
theorem dJ7_fill_53178_20 : decode cJ7_fill_53178 20 = .ok (.return_, 1) := by decide +kernel
