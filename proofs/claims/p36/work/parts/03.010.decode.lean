theorem dX6_readLine_143 : decode cX6_readLine 143 = .ok (.return_, 1) := by decide +kernel
theorem dX6_readStrip_0 : decode cX6_readStrip 0 = .ok (.aload_n 0, 1) := by decide +kernel
theorem dX6_readStrip_1 : decode cX6_readStrip 1 = .ok (.getfield 12, 3) := by decide +kernel
theorem dX6_readStrip_4 : decode cX6_readStrip 4 = .ok (.getfield 103, 3) := by decide +kernel
theorem dX6_readStrip_7 : decode cX6_readStrip 7 = .ok (.bipush 16, 2) := by decide +kernel
theorem dX6_readStrip_9 : decode cX6_readStrip 9 = .ok (.if_icmp .lt 9, 3) := by decide +kernel
theorem dX6_readStrip_12 : decode cX6_readStrip 12 = .ok (.aload_n 0, 1) := by decide +kernel
theorem dX6_readStrip_13 : decode cX6_readStrip 13 = .ok (.iconst 4, 1) := by decide +kernel
theorem dX6_readStrip_14 : decode cX6_readStrip 14 = .ok (.invokevirtual 109, 3) := by decide +kernel
theorem dX6_readStrip_17 : decode cX6_readStrip 17 = .ok (.return_, 1) := by decide +kernel
theorem dX6_readStrip_18 : decode cX6_readStrip 18 = .ok (.aload_n 0, 1) := by decide +kernel
theorem dX6_readStrip_19 : decode cX6_readStrip 19 = .ok (.invokevirtual 62, 3) := by decide +kernel
theorem dX6_readStrip_22 : decode cX6_readStrip 22 = .ok (.aload_n 0, 1) := by decide +kernel
theorem dX6_readStrip_23 : decode cX6_readStrip 23 = .ok (.iconst 0, 1) := by decide +kernel
theorem dX6_readStrip_24 : decode cX6_readStrip 24 = .ok (.bipush 99, 2) := by decide +kernel
theorem dX6_readStrip_26 : decode cX6_readStrip 26 = .ok (.invokevirtual 87, 3) := by decide +kernel
theorem dX6_readStrip_29 : decode cX6_readStrip 29 = .ok (.istore_n 1, 1) := by decide +kernel
theorem dX6_readStrip_30 : decode cX6_readStrip 30 = .ok (.aload_n 0, 1) := by decide +kernel
theorem dX6_readStrip_31 : decode cX6_readStrip 31 = .ok (.ldc 116, 2) := by decide +kernel
theorem dX6_readStrip_33 : decode cX6_readStrip 33 = .ok (.invokevirtual 79, 3) := by decide +kernel
theorem dX6_readStrip_36 : decode cX6_readStrip 36 = .ok (.ifCond .eq 13, 3) := by decide +kernel
theorem dX6_readStrip_39 : decode cX6_readStrip 39 = .ok (.aload_n 0, 1) := by decide +kernel
theorem dX6_readStrip_40 : decode cX6_readStrip 40 = .ok (.iconst 0, 1) := by decide +kernel
theorem dX6_readStrip_41 : decode cX6_readStrip 41 = .ok (.bipush 9, 2) := by decide +kernel
theorem dX6_readStrip_43 : decode cX6_readStrip 43 = .ok (.invokevirtual 87, 3) := by decide +kernel
theorem dX6_readStrip_46 : decode cX6_readStrip 46 = .ok (.goto 4, 3) := by decide +kernel
theorem dX6_readStrip_49 : decode cX6_readStrip 49 = .ok (.iconst 2, 1) := by decide +kernel
theorem dX6_readStrip_50 : decode cX6_readStrip 50 = .ok (.istore_n 2, 1) := by decide +kernel
theorem dX6_readStrip_51 : decode cX6_readStrip 51 = .ok (.aload_n 0, 1) := by decide +kernel
theorem dX6_readStrip_52 : decode cX6_readStrip 52 = .ok (.ldc 118, 2) := by decide +kernel
theorem dX6_readStrip_54 : decode cX6_readStrip 54 = .ok (.invokevirtual 79, 3) := by decide +kernel
theorem dX6_readStrip_57 : decode cX6_readStrip 57 = .ok (.ifCond .eq 13, 3) := by decide +kernel
theorem dX6_readStrip_60 : decode cX6_readStrip 60 = .ok (.aload_n 0, 1) := by decide +kernel
theorem dX6_readStrip_61 : decode cX6_readStrip 61 = .ok (.iconst 0, 1) := by decide +kernel
theorem dX6_readStrip_62 : decode cX6_readStrip 62 = .ok (.bipush 30, 2) := by decide +kernel
theorem dX6_readStrip_64 : decode cX6_readStrip 64 = .ok (.invokevirtual 87, 3) := by decide +kernel
theorem dX6_readStrip_67 : decode cX6_readStrip 67 = .ok (.goto 4, 3) := by decide +kernel
theorem dX6_readStrip_70 : decode cX6_readStrip 70 = .ok (.iconst 0, 1) := by decide +kernel
theorem dX6_readStrip_71 : decode cX6_readStrip 71 = .ok (.istore_n 3, 1) := by decide +kernel
theorem dX6_readStrip_72 : decode cX6_readStrip 72 = .ok (.aload_n 0, 1) := by decide +kernel
theorem dX6_readStrip_73 : decode cX6_readStrip 73 = .ok (.ldc 120, 2) := by decide +kernel
theorem dX6_readStrip_75 : decode cX6_readStrip 75 = .ok (.invokevirtual 79, 3) := by decide +kernel
theorem dX6_readStrip_78 : decode cX6_readStrip 78 = .ok (.ifCond .eq 12, 3) := by decide +kernel
theorem dX6_readStrip_81 : decode cX6_readStrip 81 = .ok (.aload_n 0, 1) := by decide +kernel
theorem dX6_readStrip_82 : decode cX6_readStrip 82 = .ok (.iconst 0, 1) := by decide +kernel
theorem dX6_readStrip_83 : decode cX6_readStrip 83 = .ok (.iconst 5, 1) := by decide +kernel
theorem dX6_readStrip_84 : decode cX6_readStrip 84 = .ok (.invokevirtual 87, 3) := by decide +kernel
theorem dX6_readStrip_87 : decode cX6_readStrip 87 = .ok (.goto 4, 3) := by decide +kernel
theorem dX6_readStrip_90 : decode cX6_readStrip 90 = .ok (.iconst 0, 1) := by decide +kernel
theorem dX6_readStrip_91 : decode cX6_readStrip 91 = .ok (.istore 4, 2) := by decide +kernel
theorem dX6_readStrip_93 : decode cX6_readStrip 93 = .ok (.aload_n 0, 1) := by decide +kernel
theorem dX6_readStrip_94 : decode cX6_readStrip 94 = .ok (.getfield 12, 3) := by decide +kernel
theorem dX6_readStrip_97 : decode cX6_readStrip 97 = .ok (.iload_n 1, 1) := by decide +kernel
theorem dX6_readStrip_98 : decode cX6_readStrip 98 = .ok (.iload_n 2, 1) := by decide +kernel
theorem dX6_readStrip_99 : decode cX6_readStrip 99 = .ok (.iload_n 3, 1) := by decide +kernel
theorem dX6_readStrip_100 : decode cX6_readStrip 100 = .ok (.iload 4, 2) := by decide +kernel
theorem dX6_readStrip_102 : decode cX6_readStrip 102 = .ok (.invokevirtual 122, 3) := by decide +kernel
theorem dX6_readStrip_105 : decode cX6_readStrip 105 = .ok (.return_, 1) := by decide +kernel
theorem dX6_readLamp_0 : decode cX6_readLamp 0 = .ok (.aload_n 0, 1) := by decide +kernel
theorem dX6_readLamp_1 : decode cX6_readLamp 1 = .ok (.getfield 12, 3) := by decide +kernel
theorem dX6_readLamp_4 : decode cX6_readLamp 4 = .ok (.aload_n 0, 1) := by decide +kernel
theorem dX6_readLamp_5 : decode cX6_readLamp 5 = .ok (.ldc 126, 2) := by decide +kernel
theorem dX6_readLamp_7 : decode cX6_readLamp 7 = .ok (.invokevirtual 79, 3) := by decide +kernel
theorem dX6_readLamp_10 : decode cX6_readLamp 10 = .ok (.ifCond .eq 20, 3) := by decide +kernel
theorem dX6_readLamp_13 : decode cX6_readLamp 13 = .ok (.aload_n 0, 1) := by decide +kernel
theorem dX6_readLamp_14 : decode cX6_readLamp 14 = .ok (.iconst 0, 1) := by decide +kernel
theorem dX6_readLamp_15 : decode cX6_readLamp 15 = .ok (.aload_n 0, 1) := by decide +kernel
theorem dX6_readLamp_16 : decode cX6_readLamp 16 = .ok (.getfield 12, 3) := by decide +kernel
theorem dX6_readLamp_19 : decode cX6_readLamp 19 = .ok (.getfield 103, 3) := by decide +kernel
theorem dX6_readLamp_22 : decode cX6_readLamp 22 = .ok (.iconst 1, 1) := by decide +kernel
theorem dX6_readLamp_23 : decode cX6_readLamp 23 = .ok (.isub, 1) := by decide +kernel
theorem dX6_readLamp_24 : decode cX6_readLamp 24 = .ok (.invokevirtual 87, 3) := by decide +kernel
theorem dX6_readLamp_27 : decode cX6_readLamp 27 = .ok (.goto 4, 3) := by decide +kernel
theorem dX6_readLamp_30 : decode cX6_readLamp 30 = .ok (.iconst 0, 1) := by decide +kernel
theorem dX6_readLamp_31 : decode cX6_readLamp 31 = .ok (.putfield 128, 3) := by decide +kernel
theorem dX6_readLamp_34 : decode cX6_readLamp 34 = .ok (.aload_n 0, 1) := by decide +kernel
theorem dX6_readLamp_35 : decode cX6_readLamp 35 = .ok (.getfield 12, 3) := by decide +kernel
theorem dX6_readLamp_38 : decode cX6_readLamp 38 = .ok (.aload_n 0, 1) := by decide +kernel
theorem dX6_readLamp_39 : decode cX6_readLamp 39 = .ok (.ldc 130, 2) := by decide +kernel
theorem dX6_readLamp_41 : decode cX6_readLamp 41 = .ok (.invokevirtual 79, 3) := by decide +kernel
theorem dX6_readLamp_44 : decode cX6_readLamp 44 = .ok (.ifCond .eq 13, 3) := by decide +kernel
theorem dX6_readLamp_47 : decode cX6_readLamp 47 = .ok (.aload_n 0, 1) := by decide +kernel
theorem dX6_readLamp_48 : decode cX6_readLamp 48 = .ok (.iconst 1, 1) := by decide +kernel
theorem dX6_readLamp_49 : decode cX6_readLamp 49 = .ok (.bipush 30, 2) := by decide +kernel
theorem dX6_readLamp_51 : decode cX6_readLamp 51 = .ok (.invokevirtual 87, 3) := by decide +kernel
theorem dX6_readLamp_54 : decode cX6_readLamp 54 = .ok (.goto 5, 3) := by decide +kernel
theorem dX6_readLamp_57 : decode cX6_readLamp 57 = .ok (.bipush 6, 2) := by decide +kernel
theorem dX6_readLamp_59 : decode cX6_readLamp 59 = .ok (.putfield 132, 3) := by decide +kernel
theorem dX6_readLamp_62 : decode cX6_readLamp 62 = .ok (.aload_n 0, 1) := by decide +kernel
theorem dX6_readLamp_63 : decode cX6_readLamp 63 = .ok (.getfield 12, 3) := by decide +kernel
theorem dX6_readLamp_66 : decode cX6_readLamp 66 = .ok (.aload_n 0, 1) := by decide +kernel
theorem dX6_readLamp_67 : decode cX6_readLamp 67 = .ok (.ldc 135, 2) := by decide +kernel
theorem dX6_readLamp_69 : decode cX6_readLamp 69 = .ok (.invokevirtual 79, 3) := by decide +kernel
theorem dX6_readLamp_72 : decode cX6_readLamp 72 = .ok (.ifCond .eq 13, 3) := by decide +kernel
theorem dX6_readLamp_75 : decode cX6_readLamp 75 = .ok (.aload_n 0, 1) := by decide +kernel
theorem dX6_readLamp_76 : decode cX6_readLamp 76 = .ok (.iconst 0, 1) := by decide +kernel
theorem dX6_readLamp_77 : decode cX6_readLamp 77 = .ok (.bipush 20, 2) := by decide +kernel
theorem dX6_readLamp_79 : decode cX6_readLamp 79 = .ok (.invokevirtual 87, 3) := by decide +kernel
theorem dX6_readLamp_82 : decode cX6_readLamp 82 = .ok (.goto 5, 3) := by decide +kernel
theorem dX6_readLamp_85 : decode cX6_readLamp 85 = .ok (.bipush 6, 2) := by decide +kernel
theorem dX6_readLamp_87 : decode cX6_readLamp 87 = .ok (.putfield 137, 3) := by decide +kernel
theorem dX6_readLamp_90 : decode cX6_readLamp 90 = .ok (.aload_n 0, 1) := by decide +kernel
theorem dX6_readLamp_91 : decode cX6_readLamp 91 = .ok (.getfield 12, 3) := by decide +kernel
theorem dX6_readLamp_94 : decode cX6_readLamp 94 = .ok (.aload_n 0, 1) := by decide +kernel
theorem dX6_readLamp_95 : decode cX6_readLamp 95 = .ok (.ldc 139, 2) := by decide +kernel
theorem dX6_readLamp_97 : decode cX6_readLamp 97 = .ok (.invokevirtual 79, 3) := by decide +kernel
theorem dX6_readLamp_100 : decode cX6_readLamp 100 = .ok (.ifCond .eq 13, 3) := by decide +kernel
theorem dX6_readLamp_103 : decode cX6_readLamp 103 = .ok (.aload_n 0, 1) := by decide +kernel
theorem dX6_readLamp_104 : decode cX6_readLamp 104 = .ok (.iconst 0, 1) := by decide +kernel
theorem dX6_readLamp_105 : decode cX6_readLamp 105 = .ok (.bipush 9, 2) := by decide +kernel
theorem dX6_readLamp_107 : decode cX6_readLamp 107 = .ok (.invokevirtual 87, 3) := by decide +kernel
theorem dX6_readLamp_110 : decode cX6_readLamp 110 = .ok (.goto 4, 3) := by decide +kernel
theorem dX6_readLamp_113 : decode cX6_readLamp 113 = .ok (.iconst 1, 1) := by decide +kernel
theorem dX6_readLamp_114 : decode cX6_readLamp 114 = .ok (.putfield 141, 3) := by decide +kernel
theorem dX6_readLamp_117 : decode cX6_readLamp 117 = .ok (.return_, 1) := by decide +kernel
theorem dX6_readBid_0 : decode cX6_readBid 0 = .ok (.aload_n 0, 1) := by decide +kernel
theorem dX6_readBid_1 : decode cX6_readBid 1 = .ok (.iconst 0, 1) := by decide +kernel
theorem dX6_readBid_2 : decode cX6_readBid 2 = .ok (.iconst 5, 1) := by decide +kernel
theorem dX6_readBid_3 : decode cX6_readBid 3 = .ok (.invokevirtual 87, 3) := by decide +kernel
theorem dX6_readBid_6 : decode cX6_readBid 6 = .ok (.istore_n 1, 1) := by decide +kernel
theorem dX6_readBid_7 : decode cX6_readBid 7 = .ok (.aload_n 0, 1) := by decide +kernel
theorem dX6_readBid_8 : decode cX6_readBid 8 = .ok (.iconst 0, 1) := by decide +kernel
theorem dX6_readBid_9 : decode cX6_readBid 9 = .ok (.bipush 99, 2) := by decide +kernel
theorem dX6_readBid_11 : decode cX6_readBid 11 = .ok (.invokevirtual 87, 3) := by decide +kernel
theorem dX6_readBid_14 : decode cX6_readBid 14 = .ok (.istore_n 2, 1) := by decide +kernel
theorem dX6_readBid_15 : decode cX6_readBid 15 = .ok (.aload_n 0, 1) := by decide +kernel
theorem dX6_readBid_16 : decode cX6_readBid 16 = .ok (.getfield 18, 3) := by decide +kernel
theorem dX6_readBid_19 : decode cX6_readBid 19 = .ok (.ifCond .ne 20, 3) := by decide +kernel
theorem dX6_readBid_22 : decode cX6_readBid 22 = .ok (.iload_n 1, 1) := by decide +kernel
theorem dX6_readBid_23 : decode cX6_readBid 23 = .ok (.invokestatic 143, 3) := by decide +kernel
theorem dX6_readBid_26 : decode cX6_readBid 26 = .ok (.ifCond .eq 13, 3) := by decide +kernel
theorem dX6_readBid_29 : decode cX6_readBid 29 = .ok (.aload_n 0, 1) := by decide +kernel
theorem dX6_readBid_30 : decode cX6_readBid 30 = .ok (.getfield 12, 3) := by decide +kernel
theorem dX6_readBid_33 : decode cX6_readBid 33 = .ok (.getfield 147, 3) := by decide +kernel
theorem dX6_readBid_36 : decode cX6_readBid 36 = .ok (.iload_n 1, 1) := by decide +kernel
theorem dX6_readBid_37 : decode cX6_readBid 37 = .ok (.iload_n 2, 1) := by decide +kernel
theorem dX6_readBid_38 : decode cX6_readBid 38 = .ok (.iastore, 1) := by decide +kernel
theorem dX6_readBid_39 : decode cX6_readBid 39 = .ok (.return_, 1) := by decide +kernel
theorem dX6_endLine_0 : decode cX6_endLine 0 = .ok (.aload_n 0, 1) := by decide +kernel
theorem dX6_endLine_1 : decode cX6_endLine 1 = .ok (.getfield 18, 3) := by decide +kernel
theorem dX6_endLine_4 : decode cX6_endLine 4 = .ok (.ifCond .ne 31, 3) := by decide +kernel
theorem dX6_endLine_7 : decode cX6_endLine 7 = .ok (.aload_n 0, 1) := by decide +kernel
theorem dX6_endLine_8 : decode cX6_endLine 8 = .ok (.getfield 38, 3) := by decide +kernel
theorem dX6_endLine_11 : decode cX6_endLine 11 = .ok (.iconst 3, 1) := by decide +kernel
theorem dX6_endLine_12 : decode cX6_endLine 12 = .ok (.if_icmp .ne 23, 3) := by decide +kernel
theorem dX6_endLine_15 : decode cX6_endLine 15 = .ok (.aload_n 0, 1) := by decide +kernel
theorem dX6_endLine_16 : decode cX6_endLine 16 = .ok (.getfield 12, 3) := by decide +kernel
theorem dX6_endLine_19 : decode cX6_endLine 19 = .ok (.dup, 1) := by decide +kernel
theorem dX6_endLine_20 : decode cX6_endLine 20 = .ok (.getfield 151, 3) := by decide +kernel
theorem dX6_endLine_23 : decode cX6_endLine 23 = .ok (.iconst 1, 1) := by decide +kernel
theorem dX6_endLine_24 : decode cX6_endLine 24 = .ok (.iadd, 1) := by decide +kernel
theorem dX6_endLine_25 : decode cX6_endLine 25 = .ok (.putfield 151, 3) := by decide +kernel
theorem dX6_endLine_28 : decode cX6_endLine 28 = .ok (.aload_n 0, 1) := by decide +kernel
theorem dX6_endLine_29 : decode cX6_endLine 29 = .ok (.invokevirtual 62, 3) := by decide +kernel
theorem dX6_endLine_32 : decode cX6_endLine 32 = .ok (.goto 8, 3) := by decide +kernel
theorem dX6_endLine_35 : decode cX6_endLine 35 = .ok (.aload_n 0, 1) := by decide +kernel
theorem dX6_endLine_36 : decode cX6_endLine 36 = .ok (.iconst 2, 1) := by decide +kernel
theorem dX6_endLine_37 : decode cX6_endLine 37 = .ok (.invokevirtual 109, 3) := by decide +kernel
theorem dX6_endLine_40 : decode cX6_endLine 40 = .ok (.return_, 1) := by decide +kernel
theorem dX6_takeWord_0 : decode cX6_takeWord 0 = .ok (.aload_n 0, 1) := by decide +kernel
theorem dX6_takeWord_1 : decode cX6_takeWord 1 = .ok (.getfield 18, 3) := by decide +kernel
theorem dX6_takeWord_4 : decode cX6_takeWord 4 = .ok (.ifCond .ne 11, 3) := by decide +kernel
theorem dX6_takeWord_7 : decode cX6_takeWord 7 = .ok (.aload_n 0, 1) := by decide +kernel
theorem dX6_takeWord_8 : decode cX6_takeWord 8 = .ok (.aload_n 1, 1) := by decide +kernel
theorem dX6_takeWord_9 : decode cX6_takeWord 9 = .ok (.invokevirtual 70, 3) := by decide +kernel
theorem dX6_takeWord_12 : decode cX6_takeWord 12 = .ok (.ifCond .ne 5, 3) := by decide +kernel
theorem dX6_takeWord_15 : decode cX6_takeWord 15 = .ok (.iconst 0, 1) := by decide +kernel
theorem dX6_takeWord_16 : decode cX6_takeWord 16 = .ok (.ireturn, 1) := by decide +kernel
theorem dX6_takeWord_17 : decode cX6_takeWord 17 = .ok (.aload_n 0, 1) := by decide +kernel
theorem dX6_takeWord_18 : decode cX6_takeWord 18 = .ok (.invokevirtual 62, 3) := by decide +kernel
theorem dX6_takeWord_21 : decode cX6_takeWord 21 = .ok (.iconst 1, 1) := by decide +kernel
theorem dX6_takeWord_22 : decode cX6_takeWord 22 = .ok (.ireturn, 1) := by decide +kernel
theorem dX6_takeNumber_0 : decode cX6_takeNumber 0 = .ok (.aload_n 0, 1) := by decide +kernel
theorem dX6_takeNumber_1 : decode cX6_takeNumber 1 = .ok (.getfield 18, 3) := by decide +kernel
theorem dX6_takeNumber_4 : decode cX6_takeNumber 4 = .ok (.ifCond .eq 5, 3) := by decide +kernel
theorem dX6_takeNumber_7 : decode cX6_takeNumber 7 = .ok (.iload_n 1, 1) := by decide +kernel
theorem dX6_takeNumber_8 : decode cX6_takeNumber 8 = .ok (.ireturn, 1) := by decide +kernel
theorem dX6_takeNumber_9 : decode cX6_takeNumber 9 = .ok (.aload_n 0, 1) := by decide +kernel
theorem dX6_takeNumber_10 : decode cX6_takeNumber 10 = .ok (.getfield 38, 3) := by decide +kernel
theorem dX6_takeNumber_13 : decode cX6_takeNumber 13 = .ok (.iconst 2, 1) := by decide +kernel
theorem dX6_takeNumber_14 : decode cX6_takeNumber 14 = .ok (.if_icmp .eq 10, 3) := by decide +kernel
theorem dX6_takeNumber_17 : decode cX6_takeNumber 17 = .ok (.aload_n 0, 1) := by decide +kernel
theorem dX6_takeNumber_18 : decode cX6_takeNumber 18 = .ok (.iconst 2, 1) := by decide +kernel
theorem dX6_takeNumber_19 : decode cX6_takeNumber 19 = .ok (.invokevirtual 109, 3) := by decide +kernel
theorem dX6_takeNumber_22 : decode cX6_takeNumber 22 = .ok (.iload_n 1, 1) := by decide +kernel
theorem dX6_takeNumber_23 : decode cX6_takeNumber 23 = .ok (.ireturn, 1) := by decide +kernel
theorem dX6_takeNumber_24 : decode cX6_takeNumber 24 = .ok (.aload_n 0, 1) := by decide +kernel
theorem dX6_takeNumber_25 : decode cX6_takeNumber 25 = .ok (.getfield 41, 3) := by decide +kernel
theorem dX6_takeNumber_28 : decode cX6_takeNumber 28 = .ok (.iload_n 1, 1) := by decide +kernel
theorem dX6_takeNumber_29 : decode cX6_takeNumber 29 = .ok (.if_icmp .lt 11, 3) := by decide +kernel
theorem dX6_takeNumber_32 : decode cX6_takeNumber 32 = .ok (.aload_n 0, 1) := by decide +kernel
theorem dX6_takeNumber_33 : decode cX6_takeNumber 33 = .ok (.getfield 41, 3) := by decide +kernel
theorem dX6_takeNumber_36 : decode cX6_takeNumber 36 = .ok (.iload_n 2, 1) := by decide +kernel
theorem dX6_takeNumber_37 : decode cX6_takeNumber 37 = .ok (.if_icmp .le 10, 3) := by decide +kernel
theorem dX6_takeNumber_40 : decode cX6_takeNumber 40 = .ok (.aload_n 0, 1) := by decide +kernel
theorem dX6_takeNumber_41 : decode cX6_takeNumber 41 = .ok (.iconst 3, 1) := by decide +kernel
theorem dX6_takeNumber_42 : decode cX6_takeNumber 42 = .ok (.invokevirtual 109, 3) := by decide +kernel
theorem dX6_takeNumber_45 : decode cX6_takeNumber 45 = .ok (.iload_n 1, 1) := by decide +kernel
theorem dX6_takeNumber_46 : decode cX6_takeNumber 46 = .ok (.ireturn, 1) := by decide +kernel
theorem dX6_takeNumber_47 : decode cX6_takeNumber 47 = .ok (.aload_n 0, 1) := by decide +kernel
